-- the parser: what stands between its turns
def ph (s : Nat) : List O3 → Nat
  | [] => s
  | f :: fs => if fs = [] then f.1.toNatClampNeg else ph s fs
theorem ph_s {s s' : Nat} : ∀ (fs : List O3), fs ≠ [] → ph s fs = ph s' fs
  | [], h => absurd rfl h
  | f :: fs, _ => by
    unfold ph
    by_cases h : fs = []
    · rw [if_pos h, if_pos h]
    · rw [if_neg h, if_neg h]
      exact ph_s fs h
theorem ph_push {s s' : Nat} {f : O3} {fs : List O3} (h : fs ≠ []) : ph s (f :: fs) = ph s' fs := by
  show (if fs = [] then _ else ph s fs) = _
  rw [if_neg h]
  exact ph_s fs h
theorem ph_root {s n : Nat} {f : O3} (h : f.1 = nI n) (hn : n ≤ 16) : ph s [f] = n := by
  show (if ([] : List O3) = [] then f.1.toNatClampNeg else s) = n
  rw [if_pos rfl, h, nI_clamp (by omega)]
def CD (c0 c : Nat) (α : kS) : Prop := α.1 19 = -1 ∧ c = c0 ∨ α.1 19 = nI c0 ∧ c = c0 + 1
/-- a family whose CONSTRUCTORS are read -/
def FA (c0 c K nb p : Nat) (α : kS) : Prop := α.1 20 = 32 ∧ K = c0 + 1 ∧ α.1 19 = nI c0 ∧ nb ≤ 200 ∧ qP α (α.1 21) ∧ (c0 < c ∧ (p = 16 → c0 + 1 < c)) ∧ ∀ k, c0 < k → k < c → fc α k 0 = 4 ∧ ((p = 16 → k + 1 ≠ c) → qP α (fc α k 1))
/-- a DECLARATION of another kind, read whole -/
def DN (c0 c K nb : Nat) (α : kS) : Prop := K = c0 ∧ nb = 0 ∧ CD c0 c α ∧ (α.1 20 = 28 ∧ qP α (α.1 21) ∧ (α.1 22 = -1 ∨ qP α (α.1 22)) ∧ (α.1 19 = -1 ∨ fc α c0 0 ≠ 1 ∨ qP α (α.1 22)) ∨ α.1 20 = 30 ∧ qP α (α.1 22) ∧ α.1 19 = -1 ∧ c = c0)
/-- by what waits at the bottom -/
def ED (c0 c K nb p : Nat) (α : kS) : Prop :=
  p = 12 ∧ (α.1 20 = 28 ∧ K = c0 ∧ nb = 0 ∧ CD c0 c α ∧ (α.1 22 = -1 ∨ qP α (α.1 22)))
  ∨ p = 14 ∧ (α.1 20 = 28 ∧ K = c0 ∧ nb = 0 ∧ α.1 19 = -1 ∧ c = c0)
  ∨ p = 13 ∧ (K = c0 ∧ nb = 0 ∧ CD c0 c α ∧ (α.1 20 = 28 ∧ qP α (α.1 21) ∨ α.1 20 = 30 ∧ α.1 19 = -1 ∧ c = c0))
  ∨ (p = 8 ∨ p = 15) ∧ (α.1 20 = 32 ∧ K = c0 ∧ (p = 8 → nb = 0) ∧ α.1 19 = nI c0 ∧ c = c0 + 1 ∧ fc α c0 0 = 3)
  ∨ (p = 4 ∨ p = 16) ∧ FA c0 c K nb p α
  ∨ p = 0 ∧ (FA c0 c K nb p α ∨ DN c0 c K nb α)
section EDS
variable {c0 c K nb p : Nat} {α β : kS} {I R : List Nat}
theorem CD.ch (h : CD c0 c α) (e : β.1 19 = α.1 19) : CD c0 c β := by unfold CD; rw [e]; exact h
theorem FA.ch (h : FA c0 c K nb p α) (hc : ch I R α β) (i19 : 19 ∉ I) (i20 : 20 ∉ I) (i21 : 21 ∉ I) (r5 : 5 ∉ R) : FA c0 c K nb p β := by
  obtain ⟨a1, a2, a3, a4, a5, a6, a7⟩ := h
  have hf : ∀ k w, fc β k w = fc α k w := fun k w => by unfold fc; rw [hc.row (by decide) r5]
  refine ⟨(hc.int i20).trans a1, a2, (hc.int i19).trans a3, a4, by rw [hc.int i21]; exact a5.g hc.2.2, a6, fun k h1 h2 => ?_⟩
  obtain ⟨b1, b2⟩ := a7 k h1 h2
  rw [hf, hf]
  exact ⟨b1, fun y => (b2 y).g hc.2.2⟩
theorem DN.ch (h : DN c0 c K nb α) (hc : ch I R α β) (i19 : 19 ∉ I) (i20 : 20 ∉ I) (i21 : 21 ∉ I) (i22 : 22 ∉ I) (r5 : 5 ∉ R) : DN c0 c K nb β := by
  obtain ⟨a1, a2, a3, a4⟩ := h
  have hf : ∀ k w, fc β k w = fc α k w := fun k w => by unfold fc; rw [hc.row (by decide) r5]
  refine ⟨a1, a2, a3.ch (hc.int i19), ?_⟩
  rw [hc.int i19, hc.int i20, hc.int i21, hc.int i22, hf]
  rcases a4 with ⟨b1, b2, b3, b4⟩ | ⟨b1, b2, b3, b4⟩
  · exact Or.inl ⟨b1, b2.g hc.2.2, b3.imp id (qP.g hc.2.2), b4.imp id (Or.imp id (qP.g hc.2.2))⟩
  · exact Or.inr ⟨b1, b2.g hc.2.2, b3, b4⟩
theorem ED.ch (h : ED c0 c K nb p α) (hc : ch I R α β) (i19 : 19 ∉ I) (i20 : 20 ∉ I) (i21 : 21 ∉ I) (i22 : 22 ∉ I) (r5 : 5 ∉ R) : ED c0 c K nb p β := by
  rcases h with ⟨h, a1, a2, a3, a4, a5⟩ | ⟨h, a1, a2, a3, a4, a5⟩ | ⟨h, a1, a2, a3, a4⟩ | ⟨h, a1, a2, a3, a4, a5⟩ | ⟨h, a⟩ | ⟨h, a⟩
  · exact Or.inl ⟨h, (hc.int i20).trans a1, a2, a3, a4.ch (hc.int i19), by rw [hc.int i22]; exact a5.imp id (qP.g hc.2.2)⟩
  · exact Or.inr (Or.inl ⟨h, (hc.int i20).trans a1, a2, a3, (hc.int i19).trans a4, a5⟩)
  · refine Or.inr (Or.inr (Or.inl ⟨h, a1, a2, a3.ch (hc.int i19), ?_⟩))
    rw [hc.int i19, hc.int i20, hc.int i21]
    exact a4.imp (fun y => ⟨y.1, y.2.g hc.2.2⟩) id
  · exact Or.inr (Or.inr (Or.inr (Or.inl ⟨h, (hc.int i20).trans a1, a2, a3, (hc.int i19).trans a4, a5.1, by unfold fc; rw [hc.row (by decide) r5]; exact a5.2⟩)))
  · exact Or.inr (Or.inr (Or.inr (Or.inr (Or.inl ⟨h, a.ch hc i19 i20 i21 r5⟩))))
  · exact Or.inr (Or.inr (Or.inr (Or.inr (Or.inr ⟨h, a.imp (fun y => y.ch hc i19 i20 i21 r5) (fun y => y.ch hc i19 i20 i21 i22 r5)⟩))))
end EDS
/-- what was there before the DECLARATION is as it was -/
def XR (c0 : Nat) (α0 α : kS) : Prop := grw α0 α ∧ ∀ i, i < 12 * c0 → (α.2.1 5).getD i 0 = (α0.2.1 5).getD i 0
def PE (c0 : Nat) (α0 : kS) (c K : Nat) (α : kS) : Prop := tT K α ∧ eI c K (tn α) α ∧ c0 ≤ c ∧ XR c0 α0 α ∧ nf α
def PX (c0 : Nat) (α0 α : kS) : Prop := ∃ c K, PE c0 α0 c K α
section PES
variable {c0 c K : Nat} {α0 α β : kS} {I R : List Nat}
theorem PE.ch (h : PE c0 α0 c K α) (hβ : tT K β) (hc : ch I R α β) (r5 : 5 ∉ R) (r6 : 6 ∉ R) (i100 : 100 ∉ I := by decide) : PE c0 α0 c K β :=
  ⟨hβ, (h.2.1.ch hc r5 r6).up hc.2.2.1 (Nat.le_refl _), h.2.2.1, ⟨h.2.2.2.1.1.tr hc.2.2, fun i hi => by rw [hc.row (by decide) r5]; exact h.2.2.2.1.2 i hi⟩, hc.nf i100 h.2.2.2.2⟩
theorem PE.x (h : PE c0 α0 c K α) : PX c0 α0 α := ⟨c, K, h⟩
/-- a fault ends it -/
theorem PE.fail (h : PE c0 α0 c K α) (N : Nat) (x : Int32) {k : kS → Option (kO × kS)} {P : kS → Prop} : tV (kBv (f_Meter_fail N x α) k) P (PX c0 α0) := by
  obtain ⟨γ, e, h1, h2⟩ := fail_t N x h.1 (I := [3, 4]) (R := []) (by decide) (by decide)
  rw [e]
  exact tV.thr (h.ch h1 h2 (by decide) (by decide)).x
theorem PE.failAt (h : PE c0 α0 c K α) (N : Nat) (x y : Int32) {k : kS → Option (kO × kS)} {P : kS → Prop} : tV (kBv (f_Meter_failAt N x y α) k) P (PX c0 α0) := by
  obtain ⟨γ, e, h1, h2⟩ := failAt_t N x y h.1 (I := [3, 4]) (R := []) (by decide) (by decide)
  rw [e]
  exact tV.thr (h.ch h1 h2 (by decide) (by decide)).x
theorem PE.failI (h : PE c0 α0 c K α) (N : Nat) (x : Int32) {k : kS → Option (kO × kS)} {P : Int32 → kS → Prop} : tI (kBv (f_Meter_fail N x α) k) P (PX c0 α0) := by
  obtain ⟨γ, e, h1, h2⟩ := fail_t N x h.1 (I := [3, 4]) (R := []) (by decide) (by decide)
  rw [e]
  exact tI.thr (h.ch h1 h2 (by decide) (by decide)).x
theorem PE.failAtI (h : PE c0 α0 c K α) (N : Nat) (x y : Int32) {k : kS → Option (kO × kS)} {P : Int32 → kS → Prop} : tI (kBv (f_Meter_failAt N x y α) k) P (PX c0 α0) := by
  obtain ⟨γ, e, h1, h2⟩ := failAt_t N x y h.1 (I := [3, 4]) (R := []) (by decide) (by decide)
  rw [e]
  exact tI.thr (h.ch h1 h2 (by decide) (by decide)).x
theorem PE.refuse (h : PE c0 α0 c K α) (N : Nat) {k : kS → Option (kO × kS)} {P : kS → Prop} : tV (kBv (f_Par_refuse N α) k) P (PX c0 α0) := by
  unfold f_Par_refuse
  refine tV.bv (Pv := fun _ => False) (Px := PX c0 α0) ?_ (fun β q => q.elim) (fun β q => q)
  exact h.failAt N 1 _
theorem PE.refuseI (h : PE c0 α0 c K α) (N : Nat) {k : kS → Option (kO × kS)} {P : Int32 → kS → Prop} : tI (kBv (f_Par_refuse N α) k) P (PX c0 α0) := by
  unfold f_Par_refuse
  refine tV.bi (Pv := fun _ => False) (Px := PX c0 α0) ?_ (fun β q => q.elim) (fun β q => q)
  exact h.failAt N 1 _
/-- a sign that must stand there -/
theorem PE.expect (h : PE c0 α0 c K α) (N : Nat) (x : Int32) {k : kS → Option (kO × kS)} {P : kS → Prop} (hk : tV (k (f_Lex_advance α)) P (PX c0 α0)) : tV (kBv (f_Par_expect N x α) k) P (PX c0 α0) := by
  unfold f_Par_expect
  by_cases z : f_Lex_kind α = x
  · rw [if_pos z]; exact hk
  · rw [if_neg z]
    refine tV.bv (Pv := fun _ => False) (Px := PX c0 α0) ?_ (fun β q => q.elim) (fun β q => q)
    exact h.refuse N
theorem PE.adv (h : PE c0 α0 c K α) : PE c0 α0 c K (f_Lex_advance α) := h.ch (adv_t h.1).1 (adv_t h.1).2 (by decide) (by decide)
end PES
/-- what the state asks of what is open and of the TERM at hand -/
def SS (s : Nat) (O : List O3) (α : kS) : Prop := (s = 0 ∨ s = 4 → O = []) ∧ (s = 1 ∨ s = 2 ∨ s = 3 ∨ 5 ≤ s → O ≠ []) ∧ (s = 1 ∨ s = 2 ∨ 5 ≤ s → nb0 O) ∧ (s = 2 → α.1 15 = -1 ∨ qP α (α.1 15)) ∧ (s = 3 → ∀ g, O.head? = some g → g.1 = 8) ∧ (5 ≤ s → qP α (α.1 15) ∧ ∀ g, O.head? = some g → g.1 = nI s)
def SZ (nb : Nat) (O : List O3) (α : kS) : Prop := (α.2.1 10).length = sp O ∧ (α.2.1 9).length = nb + sb O + ac O ∧ (α.2.1 11).length = nb + sb O ∧ nb + sb O + sp O ≤ 3000 ∧ aQ α (α.2.1 11)
/-- the parser between its turns, in the state s with O open -/
def PQ (c0 : Nat) (α0 : kS) (c K nb s : Nat) (O : List O3) (α : kS) : Prop := PE c0 α0 c K α ∧ l12 α ∧ α.2.1 8 = flat3 O ∧ α.1 18 = nI K ∧ po α c O ∧ SZ nb O α ∧ ED c0 c K nb (ph s O) α
def PI (c0 : Nat) (α0 α : kS) : Prop := ∃ c K nb s O, PQ c0 α0 c K nb s O α ∧ α.1 13 = nI s ∧ s ≤ 16 ∧ α.1 14 = nI (ns (decide (s = 3)) O) ∧ ns (decide (s = 3)) O ≤ (if s = 1 then 101 else 100) ∧ SS s O α
section PQS
variable {c0 c K nb s : Nat} {α0 α β : kS} {I R : List Nat} {O : List O3}
theorem SZ.ch (h : SZ nb O α) (hc : ch I R α β) (r9 : 9 ∉ R) (r10 : 10 ∉ R) (r11 : 11 ∉ R) : SZ nb O β := by
  unfold SZ
  rw [hc.row (by decide) r9, hc.row (by decide) r10, hc.row (by decide) r11]
  exact ⟨h.1, h.2.1, h.2.2.1, h.2.2.2.1, h.2.2.2.2.g hc.2.2⟩
theorem PQ.ch (h : PQ c0 α0 c K nb s O α) (hβ : tT K β) (hc : ch I R α β) (l : l12 β) (hI : ∀ i, i ∈ I → i ∉ [18, 19, 20, 21, 22, 100]) (hR : ∀ r, r ∈ R → r ∉ [5, 6, 8, 9, 10, 11]) : PQ c0 α0 c K nb s O β := by
  obtain ⟨a1, a2, a3, a4, a5, a6, a7⟩ := h
  have i : ∀ j, j ∈ [18, 19, 20, 21, 22, 100] → j ∉ I := fun j hj q => hI j q hj
  have r : ∀ j, j ∈ [5, 6, 8, 9, 10, 11] → j ∉ R := fun j hj q => hR j q hj
  exact ⟨a1.ch hβ hc (r 5 (by decide)) (r 6 (by decide)) (i 100 (by decide)), l, (hc.row (by decide) (r 8 (by decide))).trans a3, (hc.int (i 18 (by decide))).trans a4, a5.g hc.2.2 (hc.int (i 19 (by decide))) (by unfold fc; rw [hc.row (by decide) (r 5 (by decide))]), a6.ch hc (r 9 (by decide)) (r 10 (by decide)) (r 11 (by decide)), a7.ch hc (i 19 (by decide)) (i 20 (by decide)) (i 21 (by decide)) (i 22 (by decide)) (r 5 (by decide))⟩
theorem PQ.adv (h : PQ c0 α0 c K nb s O α) : PQ c0 α0 c K nb s O (f_Lex_advance α) := h.ch (adv_t h.1.1).1 (adv_t h.1.1).2 (adv_l α) (by decide) (by decide)
theorem PQ.si {i : Nat} {v : Int32} (h : PQ c0 α0 c K nb s O α) (hi : i = 13 ∨ i = 14 ∨ i = 15 ∨ i = 16 ∨ i = 17) : PQ c0 α0 c K nb s O (kSi α i v) := by
  refine h.ch (I := [i]) (R := []) (h.1.1.si (by omega)) (ch.si (by simp) (by omega)) ?_ (fun j hj => ?_) (fun j hj => by cases hj)
  · have e : (kSi α i v).1 12 = α.1 12 := kup_n (by omega)
    unfold l12; rw [e]; exact h.2.1
  · rw [List.mem_singleton.mp hj]
    simp only [List.mem_cons, List.not_mem_nil, or_false, not_or]
    omega
theorem PQ.st {s' : Nat} (h : PQ c0 α0 c K nb s O α) (hO : O ≠ []) : PQ c0 α0 c K nb s' O α := by
  obtain ⟨a1, a2, a3, a4, a5, a6, a7⟩ := h
  rw [ph_s (s' := s') O hO] at a7
  exact ⟨a1, a2, a3, a4, a5, a6, a7⟩
theorem SZ.z {f : O3} (h : SZ nb O α) (h8 : sbf f = 0) (h7 : spf f = 0) (h6 : acf f = 0) : SZ nb (f :: O) α := by
  unfold SZ at h ⊢
  show (α.2.1 10).length = spf f + sp O ∧ (α.2.1 9).length = nb + (sbf f + sb O) + (acf f + ac O) ∧ (α.2.1 11).length = nb + (sbf f + sb O) ∧ nb + (sbf f + sb O) + (spf f + sp O) ≤ 3000 ∧ _
  rw [h8, h7, h6, Nat.zero_add, Nat.zero_add, Nat.zero_add]
  exact h
end PQS
/-- a frame more, on others -/
theorem hold_PQ {N c0 c K nb s n s' : Nat} {α0 α : kS} {O : List O3} {a b : Int32} (hE : PE c0 α0 c K α) (l : l12 α) (r8 : α.2.1 8 = flat3 O) (e18 : α.1 18 = nI K) (hpo : po α c O) (hz : SZ nb ((nI n, a, b) :: O) α) (hed : ED c0 c K nb (ph s O) α) (hO : O ≠ []) (hl : O.length < 255) (hn : n ≤ 16) (hp : pof α c n (nI n, a, b) O) : ∃ β, f_Par_hold N (nI n) a b α = some (some none, β) ∧ PQ c0 α0 c K nb s' ((nI n, a, b) :: O) β ∧ ch [] [8] α β := by
  obtain ⟨β, e, t, hc, -, r8'⟩ := hold_e (N := N) hE.1 r8 hl (nI n) a b
  have ef : fc β (c - 1) 0 = fc α (c - 1) 0 := by unfold fc; rw [hc.row (by decide) (by decide)]
  refine ⟨β, e, ⟨hE.ch t hc (by decide) (by decide), by unfold l12; rw [hc.int (by decide)]; exact l, r8', (hc.int (by decide)).trans e18, ⟨⟨n, rfl, hn, pof_g hn hc.2.2 (hc.int (by decide)) ef hp⟩, hpo.g hc.2.2 (hc.int (by decide)) ef⟩, hz.ch hc (by decide) (by decide) (by decide), ?_⟩, hc⟩
  rw [ph_push (s' := s) hO]
  exact hed.ch hc (by decide) (by decide) (by decide) (by decide) (by decide)
/-- a TERM within: one more nested -/
theorem nest_PI {N c0 c K nb s n : Nat} {α0 α : kS} {O : List O3} {a b : Int32} (hE : PE c0 α0 c K α) (l : l12 α) (r8 : α.2.1 8 = flat3 O) (e18 : α.1 18 = nI K) (hpo : po α c O) (hz : SZ nb ((nI n, a, b) :: O) α) (hed : ED c0 c K nb (ph s O) α) (hO : O ≠ []) (hn : n = 5 ∨ n = 6 ∨ n = 7 ∨ n = 9 ∨ n = 10 ∨ n = 11) (hp : pof α c n (nI n, a, b) O) (e14 : α.1 14 = nI (ns (decide (n = 7)) O)) (hle : ns (decide (n = 7)) O ≤ 100) : ∃ β, f_Par_nest N (nI n) a b α = some (some none, β) ∧ PI c0 α0 β := by
  have hlen := ns_len O (decide (n = 7)) hpo
  have hl : O.length < 255 := by
    have : (if decide (n = 7) = true then 1 else 0) ≤ 1 := by split <;> omega
    omega
  obtain ⟨β, e, q, hc⟩ := hold_PQ (N := N) (s' := 1) hE l r8 e18 hpo hz hed hO hl (by omega) hp
  obtain ⟨γ, eγ⟩ : ∃ γ, γ = kSi (kSi β 13 1) 14 ((kSi β 13 1).1 14 + 1) := ⟨_, rfl⟩
  have qγ : PQ c0 α0 c K nb 1 ((nI n, a, b) :: O) γ := by rw [eγ]; exact (q.si (by omega)).si (by omega)
  have hns : ns (decide ((1 : Nat) = 3)) ((nI n, a, b) :: O) = ns (decide (n = 7)) O + 1 := by
    show nsf _ (nI n) + ns (decide (nI n = 7)) O = _
    have e7 : decide (nI n = (7 : Int32)) = decide (n = 7) := by
      by_cases z : n = 7
      · subst z; rfl
      · rw [decide_eq_false z]; exact decide_eq_false (nI_ne (m := 7) (by omega) (by omega) z)
    rw [e7, Nat.add_comm]
    congr 1
    rcases hn with rfl | rfl | rfl | rfl | rfl | rfl <;> rfl
  refine ⟨γ, ?_, c, K, nb, 1, _, qγ, by rw [eγ]; rfl, by omega, ?_, ?_, ?_⟩
  · unfold f_Par_nest f_Par_await
    rw [e, eγ]
    rfl
  · rw [hns, eγ]
    show β.1 14 + 1 = _
    rw [hc.int (by decide), e14, nI_1]
  · rw [hns, if_pos rfl]
    omega
  · refine ⟨fun y => by omega, fun _ => by simp, fun _ g hg h8 => ?_, fun y => by omega, fun y => by omega, fun y => by omega⟩
    have : g = (nI n, a, b) := by simpa using hg.symm
    subst this
    have h8 : nI n = nI 8 := h8
    have := (nI_eq (by omega) (by omega)).mp h8
    omega
