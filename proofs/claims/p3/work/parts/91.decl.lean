-- a DECLARATION is read
section DECL
variable {N c0 : Nat} {α0 : kS}
/-- a DECLARATION read whole -/
def DR (c0 : Nat) (α0 α : kS) : Prop := ∃ c K nb, PE c0 α0 c K α ∧ l12 α ∧ (α.2.1 11).length = nb ∧ aQ α (α.2.1 11) ∧ α.1 23 = nI (tn α) ∧ (FA c0 c K nb 0 α ∨ DN c0 c K nb α)
theorem decl_end {α : kS} (h : PI c0 α0 α) : tV (f_Par_declaration_j287 N α) (DR c0 α0) (PX c0 α0) := by
  obtain ⟨c, K, nb, s, O, q, e13, h16, e14, hns, hS⟩ := h
  unfold f_Par_declaration_j287
  rw [e13]
  refine tV.ite (fun z => ?_) (fun _ => q.1.fail N 10)
  have s0 : s = 0 := (nI_eq (b := 0) (by omega) (by omega)).mp z
  subst s0
  have hO : O = [] := hS.1 (Or.inl rfl)
  subst hO
  obtain ⟨a1, a2, a3, a4, a5, a6, a7⟩ := q
  have hed : FA c0 c K nb 0 α ∨ DN c0 c K nb α := by
    rcases a7 with ⟨z, -⟩ | ⟨z, -⟩ | ⟨z, -⟩ | ⟨z, -⟩ | ⟨z, -⟩ | ⟨-, z⟩
    · exact absurd z (by decide)
    · exact absurd z (by decide)
    · exact absurd z (by decide)
    · exact absurd z (by decide)
    · exact absurd z (by decide)
    · exact z
  unfold f_Par_declaration_j303
  have cs : ch [23] [] α (kSi α 23 (f_Terms_length α)) := ch.si (by decide) (by decide)
  have ts : tT K (kSi α 23 (f_Terms_length α)) := a1.1.si (by decide)
  obtain ⟨s1, s2, s3, s4, s5⟩ := a6
  refine tV.ret ⟨c, K, nb, a1.ch ts cs (by decide) (by decide), a2, s3, s5.g cs.2.2, ?_, hed.imp (fun y => y.ch cs (by decide) (by decide) (by decide) (by decide)) (fun y => y.ch cs (by decide) (by decide) (by decide) (by decide) (by decide))⟩
  show α.1 6 = nI (tn α)
  exact a1.1.1.1.n.1
theorem decl_go (hN : 2 ^ 31 ≤ N) : ∀ (d x nn : Nat) (β : kS), PI c0 α0 β → x + d = 16777216 → d < nn → tV (f_Par_declaration_79 N nn (nI x) β) (DR c0 α0) (PX c0 α0)
  | 0, x, nn, β, h, hx, hn => by
    obtain ⟨nn, rfl⟩ : ∃ n', nn = n' + 1 := ⟨nn - 1, by omega⟩
    rw [f_Par_declaration_79, if_pos (show (16777216 : Int32) ≤ nI x from nI_le (a := 16777216) (by omega) (by omega))]
    exact decl_end h
  | d + 1, x, nn, β, h, hx, hn => by
    obtain ⟨nn, rfl⟩ : ∃ n', nn = n' + 1 := ⟨nn - 1, by omega⟩
    rw [f_Par_declaration_79, if_neg (l24_lt (by omega))]
    have hd := decl_end (N := N) h
    obtain ⟨c, K, nb, s, O, q, e13, h16, e14, hns, hS⟩ := id h
    have nx : ∀ γ, PI c0 α0 γ → tV (f_Par_declaration_79 N nn (nI (x + 1)) γ) (DR c0 α0) (PX c0 α0) := fun γ y => decl_go hN d (x + 1) nn γ y (by omega) (by omega)
    have pt : ∀ k, nI s = nI k → k ≤ 16 → PT c0 α0 c K nb k O β := fun k ek hk => by
      have : s = k := (nI_eq (by omega) (by omega)).mp ek
      subst this
      exact ⟨q, e13, h16, e14, hns, hS⟩
    rw [e13, nI_1]
    refine tV.ite (fun c0 => ?_) (fun n0 => tV.ite (fun c1 => ?_) (fun n1 => tV.ite (fun c2 => ?_) (fun n2 => tV.ite (fun c3 => ?_) (fun n3 => tV.ite (fun c4 => ?_) (fun n4 => tV.ite (fun c5 => ?_) (fun n5 => tV.ite (fun c6 => ?_) (fun n6 => tV.ite (fun c7 => ?_) (fun n7 => tV.ite (fun c8 => ?_) (fun n8 => tV.ite (fun c9 => ?_) (fun n9 => tV.ite (fun c10 => ?_) (fun n10 => tV.ite (fun c11 => ?_) (fun n11 => tV.ite (fun c12 => ?_) (fun n12 => tV.ite (fun c13 => ?_) (fun n13 => tV.ite (fun c14 => ?_) (fun n14 => tV.ite (fun c15 => ?_) (fun n15 => ?_))))))))))))))))
    · exact hd
    · exact (startTerm_ok hN (pt 1 c1 (by decide))).bv nx (fun _ y => y)
    · exact (takeAtom_ok hN (pt 2 c2 (by decide))).bv nx (fun _ y => y)
    · exact (startGroup_ok hN (pt 3 c3 (by decide))).bv nx (fun _ y => y)
    · exact (takeMember_ok hN (pt 4 c4 (by decide))).bv nx (fun _ y => y)
    · exact (endParen_ok hN (pt 5 c5 (by decide))).bv nx (fun _ y => y)
    · exact (endArrow_ok hN (pt 6 c6 (by decide))).bv nx (fun _ y => y)
    · exact (endGroup_ok hN (pt 7 c7 (by decide))).bv nx (fun _ y => y)
    · exact (endBody_ok hN (pt 8 c8 (by decide))).bv nx (fun _ y => y)
    · exact (endLetType_ok hN (pt 9 c9 (by decide))).bv nx (fun _ y => y)
    · exact (endLetValue_ok hN (pt 10 c10 (by decide))).bv nx (fun _ y => y)
    · exact (endLetBody_ok hN (pt 11 c11 (by decide))).bv nx (fun _ y => y)
    · exact (endType_ok hN (pt 12 c12 (by decide))).bv nx (fun _ y => y)
    · exact (endValue_ok hN (pt 13 c13 (by decide))).bv nx (fun _ y => y)
    · exact (endChecked_ok hN (pt 14 c14 (by decide))).bv nx (fun _ y => y)
    · exact (endFamilyType_ok hN (pt 15 c15 (by decide))).bv nx (fun _ y => y)
    · refine nx _ (endMember_ok (pt 16 ?_ (by decide)))
      have : s = 16 := by
        have m0 : s ≠ 0 := fun y => n0 (by rw [y]; rfl)
        have m1 : s ≠ 1 := fun y => n1 (by rw [y]; rfl)
        have m2 : s ≠ 2 := fun y => n2 (by rw [y]; rfl)
        have m3 : s ≠ 3 := fun y => n3 (by rw [y]; rfl)
        have m4 : s ≠ 4 := fun y => n4 (by rw [y]; rfl)
        have m5 : s ≠ 5 := fun y => n5 (by rw [y]; rfl)
        have m6 : s ≠ 6 := fun y => n6 (by rw [y]; rfl)
        have m7 : s ≠ 7 := fun y => n7 (by rw [y]; rfl)
        have m8 : s ≠ 8 := fun y => n8 (by rw [y]; rfl)
        have m9 : s ≠ 9 := fun y => n9 (by rw [y]; rfl)
        have m10 : s ≠ 10 := fun y => n10 (by rw [y]; rfl)
        have m11 : s ≠ 11 := fun y => n11 (by rw [y]; rfl)
        have m12 : s ≠ 12 := fun y => n12 (by rw [y]; rfl)
        have m13 : s ≠ 13 := fun y => n13 (by rw [y]; rfl)
        have m14 : s ≠ 14 := fun y => n14 (by rw [y]; rfl)
        have m15 : s ≠ 15 := fun y => n15 (by rw [y]; rfl)
        omega
      rw [this]
theorem begin_ok (hN : 2 ^ 31 ≤ N) {α : kS} (hE : PE c0 α0 c0 c0 α) (l : l12 α) (r8 : α.2.1 8 = []) (r9 : α.2.1 9 = []) (r10 : α.2.1 10 = []) (r11 : α.2.1 11 = []) (e18 : α.1 18 = nI c0) (e14 : α.1 14 = nI 0) (e19 : α.1 19 = -1) (e22 : α.1 22 = -1) : tV (f_Par_begin N α) (PI c0 α0) (PX c0 α0) := by
  have hz : SZ 0 [] α := ⟨by rw [r10]; rfl, by rw [r9]; rfl, by rw [r11]; rfl, by decide, by rw [r11]; exact fun p hp => by cases hp⟩
  have j23 : ∀ y, tV (f_Par_begin_j23 N y α) (PI c0 α0) (PX c0 α0) := by
    intro y
    unfold f_Par_begin_j23
    obtain ⟨β, eβ⟩ : ∃ β, β = kSi (f_Lex_advance α) 20 28 := ⟨_, rfl⟩
    rw [← eβ]
    have ca := (adv_t hE.1).2
    have tβ : tT c0 β := by rw [eβ]; exact (adv_t hE.1).1.si (by decide)
    have cβ : ch [9, 10, 11, 12, 20] [] α β := by rw [eβ]; exact (ca.mo (by decide) (by decide)).tr (ch.si (by decide) (by decide))
    have lβ : l12 β := by rw [eβ]; exact adv_l α
    have hEβ : PE c0 α0 c0 c0 β := hE.ch tβ cβ (by simp) (by simp)
    have b20 : β.1 20 = 28 := by rw [eβ]; rfl
    have hzβ : SZ 0 [] β := hz.ch cβ (by simp) (by simp) (by simp)
    have b8 : β.2.1 8 = [] := (cβ.row (by decide) (by simp)).trans r8
    have b18 : β.1 18 = nI c0 := (cβ.int (by decide)).trans e18
    have b14 : β.1 14 = nI 0 := (cβ.int (by decide)).trans e14
    have b19 : β.1 19 = -1 := (cβ.int (by decide)).trans e19
    have b22 : β.1 22 = -1 := (cβ.int (by decide)).trans e22
    have cst : ∀ kd, tV (kBv (f_Par_beginConstant N kd β) fun δ => some (some none, δ)) (PI c0 α0) (PX c0 α0) := by
      intro kd
      refine tV.bv (Pv := PI c0 α0) (Px := PX c0 α0) ?_ (fun δ y => tV.ret y) (fun δ y => y)
      unfold f_Par_beginConstant
      refine (name_ok hN hEβ lβ).bv (fun v γ u => ?_) (fun γ u => u)
      obtain ⟨rfl, hE1, l1, c1, h0, hf⟩ := u
      obtain ⟨δ, eδ⟩ : ∃ δ, δ = kSi γ 19 (nI c0) := ⟨_, rfl⟩
      rw [← eδ]
      have cδ : ch [19] [] γ δ := by rw [eδ]; exact ch.si (by decide) (by decide)
      have tδ : tT c0 δ := by rw [eδ]; exact hE1.1.si (by decide)
      have hEδ := hE1.ch tδ cδ (by simp) (by simp)
      refine hEδ.expect N 21 ?_
      have cb := (adv_t tδ).2
      have cA : ch [9, 10, 11, 12, 19] [5, 6] β (f_Lex_advance δ) := (c1.mo (by decide) (by decide)).tr ((cδ.mo (by decide) (by decide)).tr (cb.mo (by decide) (by decide)))
      have f0 : fc (f_Lex_advance δ) c0 0 = kd := by
        have : fc (f_Lex_advance δ) c0 0 = fc γ c0 0 := by unfold fc; rw [cb.row (by decide) (by simp), cδ.row (by decide) (by simp)]
        rw [this]; exact h0
      have d19 : (f_Lex_advance δ).1 19 = nI c0 := by rw [cb.int (by decide), eδ]; rfl
      obtain ⟨ζ, e2, p⟩ := await_PI (N := N) (n := 12) (a := kd) (b := 0) (nb := 0) hEδ.adv (adv_l δ) ((cA.row (by decide) (by decide)).trans b8) ((cA.int (by decide)).trans b18) ((cA.int (by decide)).trans b14) (hzβ.ch cA (by decide) (by decide) (by decide)) (by omega) ⟨rfl, Or.inr (by rw [Nat.add_sub_cancel]; exact f0.symm)⟩ (Or.inl ⟨rfl, (cA.int (by decide)).trans b20, rfl, rfl, Or.inr ⟨d19, rfl⟩, Or.inl ((cA.int (by decide)).trans b22)⟩)
      rw [show f_Par_await N 12 kd 0 (f_Lex_advance δ) = some (some none, ζ) from e2, kBv_s]
      exact tV.ret p
    refine tV.ite (fun _ => cst 0) (fun _ => tV.ite (fun _ => cst 1) (fun _ => tV.ite (fun _ => cst 2) (fun _ => tV.ite (fun _ => ?_) (fun _ => tV.ite (fun _ => ?_) (fun _ => ?_)))))
    · refine tV.bv (Pv := PI c0 α0) (Px := PX c0 α0) ?_ (fun δ y => tV.ret y) (fun δ y => y)
      unfold f_Par_beginFamily
      obtain ⟨β2, e2⟩ : ∃ β2, β2 = kSi β 20 32 := ⟨_, rfl⟩
      rw [← e2]
      have c2 : ch [20] [] β β2 := by rw [e2]; exact ch.si (by decide) (by decide)
      have t2 : tT c0 β2 := by rw [e2]; exact tβ.si (by decide)
      have hE2 := hEβ.ch t2 c2 (by simp) (by simp)
      refine (name_ok hN hE2 (by unfold l12; rw [c2.int (by decide)]; exact lβ)).bv (fun v γ u => ?_) (fun γ u => u)
      obtain ⟨rfl, hE1, l1, c1, h0, hf⟩ := u
      obtain ⟨δ, eδ⟩ : ∃ δ, δ = kSi γ 19 (nI c0) := ⟨_, rfl⟩
      rw [← eδ]
      have cδ : ch [19] [] γ δ := by rw [eδ]; exact ch.si (by decide) (by decide)
      have tδ : tT c0 δ := by rw [eδ]; exact hE1.1.si (by decide)
      have hEδ := hE1.ch tδ cδ (by simp) (by simp)
      have lδ : l12 δ := by unfold l12; rw [cδ.int (by decide)]; exact l1
      have cD : ch [9, 10, 11, 12, 19, 20] [5, 6] β δ := (c2.mo (by decide) (by decide)).tr ((c1.mo (by decide) (by decide)).tr (cδ.mo (by decide) (by decide)))
      have f0 : fc δ c0 0 = 3 := by
        have : fc δ c0 0 = fc γ c0 0 := by unfold fc; rw [cδ.row (by decide) (by simp)]
        rw [this]; exact h0
      have d19 : δ.1 19 = nI c0 := by rw [eδ]; rfl
      have d20 : δ.1 20 = 32 := by rw [cδ.int (by decide), c1.int (by decide), e2]; rfl
      refine tV.ite (fun _ => ?_) (fun _ => ?_)
      · obtain ⟨ζ, e3, t3, c3, -, r3⟩ := hold_e (N := N) (fs := []) tδ ((cD.row (by decide) (by decide)).trans b8) (by decide) 8 0 0
        rw [e3, kBv_s]
        obtain ⟨η, eη⟩ : ∃ η, η = kSi ζ 13 3 := ⟨_, rfl⟩
        rw [← eη]
        have tη : tT c0 η := by rw [eη]; exact t3.si (by decide)
        have cη : ch [13] [8] δ η := by rw [eη]; exact (c3.mo (by decide) (by decide)).tr (ch.si (by decide) (by decide))
        have cT : ch [9, 10, 11, 12, 13, 19, 20] [5, 6, 8] β η := (cD.mo (by decide) (by decide)).tr (cη.mo (by decide) (by decide))
        have f0' : fc η c0 0 = 3 := by
          have : fc η c0 0 = fc δ c0 0 := by unfold fc; rw [cη.row (by decide) (by decide)]
          rw [this]; exact f0
        refine tV.ret ⟨c0 + 1, c0, 0, 3, [(8, 0, 0)], ⟨hEδ.ch tη cη (by decide) (by decide), by unfold l12; rw [cη.int (by decide)]; exact lδ, by rw [eη]; exact r3, (cT.int (by decide)).trans b18, ⟨⟨8, rfl, by omega, ⟨0, rfl, by omega⟩, Or.inr ⟨rfl, rfl⟩⟩, trivial⟩, (hzβ.z (f := (8, 0, 0)) rfl rfl rfl).ch cT (by decide) (by decide) (by decide), ?_⟩, by rw [eη]; rfl, by omega, ?_, ?_, fun y => by omega, fun _ => by simp, fun y => by omega, fun y => by omega, fun _ g hg => ?_, fun y => by omega⟩
        · rw [ph_root (f := (8, 0, 0)) (n := 8) rfl (by decide)]
          exact Or.inr (Or.inr (Or.inr (Or.inl ⟨Or.inl rfl, (cη.int (by decide)).trans d20, rfl, fun _ => rfl, (cη.int (by decide)).trans d19, rfl, f0'⟩)))
        · exact (cT.int (by decide)).trans b14
        · exact Nat.zero_le 100
        · have : g = (8, 0, 0) := by simpa using hg.symm
          rw [this]
      · refine hEδ.expect N 21 ?_
        have cb := (adv_t tδ).2
        have cA : ch [9, 10, 11, 12, 19, 20] [5, 6] β (f_Lex_advance δ) := cD.tr (cb.mo (by decide) (by decide))
        have f0' : fc (f_Lex_advance δ) c0 0 = 3 := by
          have : fc (f_Lex_advance δ) c0 0 = fc δ c0 0 := by unfold fc; rw [cb.row (by decide) (by simp)]
          rw [this]; exact f0
        obtain ⟨ζ, e3, p⟩ := await_PI (N := N) (n := 15) (a := 0) (b := 0) (nb := 0) hEδ.adv (adv_l δ) ((cA.row (by decide) (by decide)).trans b8) ((cA.int (by decide)).trans b18) ((cA.int (by decide)).trans b14) (hzβ.ch cA (by decide) (by decide) (by decide)) (by omega) ⟨rfl, trivial⟩ (Or.inr (Or.inr (Or.inr (Or.inl ⟨Or.inr rfl, (cb.int (by decide)).trans d20, rfl, fun _ => rfl, (cb.int (by decide)).trans d19, rfl, f0'⟩))))
        rw [show f_Par_await N 15 0 0 (f_Lex_advance δ) = some (some none, ζ) from e3, kBv_s]
        exact tV.ret p
    · obtain ⟨ζ, e3, p⟩ := await_PI (N := N) (n := 14) (a := 0) (b := 0) (nb := 0) hEβ lβ b8 b18 b14 hzβ (by omega) ⟨rfl, trivial⟩ (Or.inr (Or.inl ⟨rfl, b20, rfl, rfl, b19, rfl⟩))
      rw [show f_Par_await N 14 0 0 β = some (some none, ζ) from e3, kBv_s]
      exact tV.ret p
    · obtain ⟨β2, e2⟩ : ∃ β2, β2 = kSi β 20 30 := ⟨_, rfl⟩
      rw [← e2]
      have c2 : ch [20] [] β β2 := by rw [e2]; exact ch.si (by decide) (by decide)
      have t2 : tT c0 β2 := by rw [e2]; exact tβ.si (by decide)
      have d19 : β2.1 19 = -1 := (c2.int (by decide)).trans b19
      obtain ⟨ζ, e3, p⟩ := await_PI (N := N) (n := 13) (a := 0) (b := 0) (nb := 0) (hEβ.ch t2 c2 (by simp) (by simp)) (by unfold l12; rw [c2.int (by decide)]; exact lβ) ((c2.row (by decide) (by simp)).trans b8) ((c2.int (by decide)).trans b18) ((c2.int (by decide)).trans b14) (hzβ.ch c2 (by simp) (by simp) (by simp)) (by omega) ⟨rfl, trivial⟩ (Or.inr (Or.inr (Or.inl ⟨rfl, rfl, rfl, Or.inl ⟨d19, rfl⟩, Or.inr ⟨by rw [e2]; rfl, d19, rfl⟩⟩)))
      rw [show f_Par_await N 13 0 0 β2 = some (some none, ζ) from e3, kBv_s]
      exact tV.ret p
  have j19 : ∀ y, tV (f_Par_begin_j19 N y α) (PI c0 α0) (PX c0 α0) := fun y => by
    unfold f_Par_begin_j19
    exact hE.refuse N
  unfold f_Par_begin
  exact tV.ite (fun _ => j19 _) (fun _ => tV.ite (fun _ => j23 _) (fun _ => j19 _))
/-- a DECLARATION is read whole, or a fault is found -/
theorem declaration_ok (hN : 2 ^ 31 ≤ N) {α : kS} (h : tT c0 α) (he : eI c0 c0 (tn α) α) (hf : nf α) (l : l12 α) : tV (f_Par_declaration N α) (DR c0 α) (PX c0 α) := by
  have t1 : tT c0 (kSl α 8 []) := h.sl (by decide) (Nat.zero_le _)
  have t2 : tT c0 (kSl (kSl α 8 []) 9 []) := t1.sl (by decide) (Nat.zero_le _)
  have t3 : tT c0 (kSl (kSl (kSl α 8 []) 9 []) 10 []) := t2.sl (by decide) (Nat.zero_le _)
  have t4 : tT c0 (kSl (kSl (kSl (kSl α 8 []) 9 []) 10 []) 11 []) := t3.sl (by decide) (Nat.zero_le _)
  unfold f_Par_declaration
  rw [cut0 h (by decide), cut0 t1 (by decide), cut0 t2 (by decide), cut0 t3 (by decide)]
  obtain ⟨B, eB⟩ : ∃ B, B = kSl (kSl (kSl (kSl α 8 []) 9 []) 10 []) 11 [] := ⟨_, rfl⟩
  rw [← eB] at t4 ⊢
  have cB : ch [] [8, 9, 10, 11] α B := by rw [eB]; exact (((ch.rs (by decide)).tr (ch.rs (by decide))).tr (ch.rs (by decide))).tr (ch.rs (by decide))
  have b8 : B.2.1 8 = [] := by rw [eB]; rfl
  have b9 : B.2.1 9 = [] := by rw [eB]; rfl
  have b10 : B.2.1 10 = [] := by rw [eB]; rfl
  have b11 : B.2.1 11 = [] := by rw [eB]; rfl
  obtain ⟨S, eS⟩ : ∃ S, S = kSi (kSi (kSi (kSi (kSi (kSi (kSi B 14 0) 16 0) 17 0) 18 (f_Env_length (kSi (kSi (kSi B 14 0) 16 0) 17 0))) 19 (-1)) 21 (-1)) 22 (-1) := ⟨_, rfl⟩
  rw [← eS]
  have tS : tT c0 S := by rw [eS]; exact ((((((t4.si (by decide)).si (by decide)).si (by decide)).si (by decide)).si (by decide)).si (by decide)).si (by decide)
  have cS : ch [14, 16, 17, 18, 19, 21, 22] [8, 9, 10, 11] α S := by
    rw [eS]
    exact (((((((cB.mo (by decide) (by decide)).tr (ch.si (by decide) (by decide))).tr (ch.si (by decide) (by decide))).tr (ch.si (by decide) (by decide))).tr (ch.si (by decide) (by decide))).tr (ch.si (by decide) (by decide))).tr (ch.si (by decide) (by decide))).tr (ch.si (by decide) (by decide))
  have e0 : PE c0 α c0 c0 α := ⟨h, he, Nat.le_refl _, ⟨grw.rf, fun _ _ => rfl⟩, hf⟩
  have s18 : S.1 18 = nI c0 := by
    rw [eS]
    show f_Env_length B = _
    exact len_e t4 (by rw [cB.row (by decide) (by decide)]; exact he.1)
  refine (begin_ok hN (e0.ch tS cS (by decide) (by decide)) (by unfold l12; rw [cS.int (by decide)]; exact l) (by rw [eS]; exact b8) (by rw [eS]; exact b9) (by rw [eS]; exact b10) (by rw [eS]; exact b11) s18 (by rw [eS]; rfl) (by rw [eS]; rfl) (by rw [eS]; rfl)).bv (fun β y => ?_) (fun β y => y)
  exact decl_go hN 16777216 0 N β y (by omega) (by omega)
end DECL
