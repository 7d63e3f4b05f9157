-- a text is read
section READ
variable {N : Nat}
theorem kBc_s {k kx : kS → Option (Int32 × kS)} {β : kS} : kBc (some (some none, β)) k kx = k β := rfl
theorem kBc_x {k kx : kS → Option (Int32 × kS)} {β : kS} : kBc (some (none, β)) k kx = kx β := rfl
theorem kBn_s {k : kS → Option (Int32 × kS)} {β : kS} : kBn (some (some none, β)) k = k β := rfl
theorem kBv_inv {f : Option (kO × kS)} {k : kS → Option (kO × kS)} {γ : kS} (h : kBv f k = some (some none, γ)) : ∃ δ, f = some (some none, δ) ∧ k δ = some (some none, γ) := by
  unfold kBv at h
  split at h
  · exact ⟨_, rfl, h⟩
  · cases h
  · cases h
theorem tV.bc {f : Option (kO × kS)} {Pv Px : kS → Prop} {k kx : kS → Option (Int32 × kS)} {Q : Option (Int32 × kS) → Prop} (h : tV f Pv Px) (hk : ∀ β, f = some (some none, β) → Pv β → Q (k β)) (hx : ∀ β, Px β → Q (kx β)) : Q (kBc f k kx) := by
  rcases h with ⟨β, e, hp⟩ | ⟨β, e, hp⟩
  · have := hk β e hp
    rw [e, kBc_s]
    exact this
  · rw [e, kBc_x]
    exact hx β hp
theorem KI.si {c i : Nat} {α : kS} {v : Int32} (h : KI c α) (hi : i ≠ 6) : KI c (kSi α i v) := by
  have hc : ch [i] [] α (kSi α i v) := ch.si (by simp) hi
  have e : tn (kSi α i v) = tn α := by
    unfold tn
    rw [show (kSi α i v).1 6 = α.1 6 from if_neg fun y => hi y.symm]
  refine ⟨h.1.si hi, ?_, h.2.2.eq hc.2.2 e⟩
  rw [e]
  exact h.2.1.ch hc (by simp) (by simp)
/-- what a text's reading ends in -/
def RR (c0 : Nat) (x : Option (Int32 × kS)) : Prop := ∃ v β, x = some (v, β) ∧ (∃ c, c0 ≤ c ∧ KI c β) ∧ β.2.1 0 = []
theorem RR.end {c0 c : Nat} {α : kS} (v : Int32) (h : KI c α) (hc : c0 ≤ c) : RR c0 (some (v, fR_cut α 0 0)) := by
  rw [cut0 h.1 (by decide)]
  refine ⟨v, _, rfl, ⟨c, hc, h.1.sl (by decide) (Nat.zero_le _), ?_, h.2.2⟩, rfl⟩
  exact h.2.1.ch (ch.rs (I := []) (R := [0]) (by decide)) (by decide) (by decide)
theorem RR.fault {c0 : Nat} {α γ : kS} (hN : 524288 < N) (v : Int32) (h : KI c0 α) (hx : XC c0 α γ) : RR c0 (kBn (f_Terms_release N (nI (tn α)) (f_Env_cut (nI c0) γ)) fun δ => some (v, fR_cut δ 0 0)) := by
  obtain ⟨c, K, x1, x2, x3, x4, x5, x6, x7⟩ := hx
  obtain ⟨β, e, b1, b2, b3, b4, -⟩ := undo hN h.1 h.2.1 x1 x2 x3 x4 x5 x6 x7
  rw [e, kBn_s]
  exact RR.end v ⟨b1, b2, h.2.2.eq b4 b3⟩ (Nat.le_refl _)
/-- what is shown of a TERM evaluated has no FREE variable -/
def EVH (N : Nat) : Prop := ∀ (c0 c K nb : Nat) (α0 α γ : kS), KI c0 α0 → PE c0 α0 c K α → DN c0 c K nb α → α.1 20 = 30 → WE c K (tn α) c0 nb (c - c0 - 1) 1 α γ → f_Ker_work N α = some (some none, γ) → ∃ t, γ.1 24 = nI t ∧ qT γ t ∧ ¬ fr γ t
theorem read_go (hN : 2 ^ 31 ≤ N) (HE : EVH N) : ∀ (d x nn c0 : Nat) (v : Int32) (β : kS), KI c0 β → l12 β → x + d = 65537 → d < nn → RR c0 (f_Ker_read_18 N nn (nI x) v β)
  | 0, x, nn, c0, v, β, h, hl, hx, hn => by
    obtain ⟨nn, rfl⟩ : ∃ n', nn = n' + 1 := ⟨nn - 1, by omega⟩
    have ex : x = 65537 := by omega
    subst ex
    rw [f_Ker_read_18, if_pos (show (65536 : Int32) < nI 65537 by decide)]
    exact RR.end v h (Nat.le_refl _)
  | d + 1, x, nn, c0, v, β, h, hl, hx, hn => by
    obtain ⟨nn, rfl⟩ : ∃ n', nn = n' + 1 := ⟨nn - 1, by omega⟩
    rw [f_Ker_read_18]
    by_cases c1 : (65536 : Int32) < nI x
    · rw [if_pos c1]
      exact RR.end v h (Nat.le_refl _)
    rw [if_neg c1]
    by_cases c2 : f_Lex_kind β = 0
    · rw [if_pos c2]
      exact RR.end v h (Nat.le_refl _)
    rw [if_neg c2, show f_Terms_length β = nI (tn β) from h.1.1.1.n.1, len_e h.1 h.2.1.1, nI_1]
    obtain ⟨B, eB⟩ : ∃ B, B = f_Meter_begin (f_Lex_start β) β := ⟨_, rfl⟩
    rw [← eB]
    have hB : KI c0 B := by rw [eB]; exact (h.si (by decide)).si (by decide)
    have lB : l12 B := by rw [eB]; exact hl
    have nB : tn β = tn B := by rw [eB]; rfl
    rw [nB]
    have nx : ∀ (c : Nat) (w : Int32) (γ : kS), c0 ≤ c → KI c γ → l12 γ → RR c0 (f_Ker_read_18 N nn (nI (x + 1)) w (kSi (kSi γ 0 (γ.1 0 + 1)) 1 (f_Meter_work (kSi γ 0 (γ.1 0 + 1))))) := fun c w γ hc hγ lγ => by
      obtain ⟨v', δ, e, ⟨c', h1, h2⟩, h3⟩ := read_go hN HE d (x + 1) nn c w (kSi (kSi γ 0 (γ.1 0 + 1)) 1 (f_Meter_work (kSi γ 0 (γ.1 0 + 1)))) ((hγ.si (by decide)).si (by decide)) lγ (by omega) (by omega)
      exact ⟨v', δ, e, ⟨c', Nat.le_trans hc h1, h2⟩, h3⟩
    refine (declaration_ok hN hB.1 hB.2.1 hB.2.2 lB).bc (fun α eα hα => ?_) (fun γ hγ => RR.fault (by omega) v hB (XC.of hγ))
    obtain ⟨c, K, nb, hE, lα, h11, hq, e23, hF⟩ := hα
    refine (work_ok hN hE h11 hq hF).bc (fun γ eγ hγ => ?_) (fun γ hγ => RR.fault (by omega) v hB (XC.fk hE hγ.1 hγ.2))
    have e20 : f_Par_task γ = α.1 20 := hγ.2.2.1.1.int (by decide)
    have lγ : γ.1 12 = α.1 12 := hγ.2.2.1.1.int (by decide)
    by_cases ct : f_Par_task γ = 32
    · rw [if_pos ct]
      have ct' : α.1 20 = 32 := e20.symm.trans ct
      have hFA : FA c0 c K nb 0 α := by
        rcases hF with y | y
        · exact y
        · obtain ⟨-, -, -, z | z⟩ := y
          · exact absurd (z.1.symm.trans ct') (by decide)
          · exact absurd (z.1.symm.trans ct') (by decide)
      obtain ⟨f1, f2, f3, f4, f5, f6, f7⟩ := hFA
      subst f2
      rw [ct', show z0f 32 = 32 by decide] at hγ
      obtain ⟨w1, w2, w3, w4, w5⟩ := hγ
      obtain ⟨hS, q, hD⟩ := w5 (by decide)
      have hX0 : grw B γ := hE.2.2.2.1.1.tr w3.1.2.2
      refine (build_ok hN w1 w2 hS hD (fun j hj => ?_) ((w3.1.int (by decide)).trans e23)).bc (fun δ _ u => ?_) (fun δ u => ?_)
      · rw [w3.2.2.2 _ 0 (Or.inl rfl)]
        exact (f7 _ (by omega) (by omega)).1
      · obtain ⟨u1, u2, u3⟩ := u
        refine nx c _ δ (by omega) ⟨u1, u2.1, u2.2 fun i hi => by rw [(g_n w3.1.2.2 hi).1]; exact hE.2.2.2.2 i hi⟩ ?_
        unfold l12
        rw [u3.2.1 12 (by decide), lγ]
        exact lα
      · obtain ⟨u1, u2, u3, u4, u5, u6, u7⟩ := u
        exact RR.fault (by omega) v hB (XC.go hE u1 (u5.trans w3.2.1) ((u4 6 (by decide) (by decide)).trans (w3.1.row (by decide) (by decide))) (fun i hi => (u6 i hi).trans (w3.2.2.1 i hi)) ((u7 _ 11 (Or.inr rfl)).trans (w3.2.2.2 _ 11 (Or.inr rfl))) (u2 B hX0 hE.2.2.2.1.1.1))
    · rw [if_neg ct]
      have ct' : α.1 20 ≠ 32 := fun y => ct (e20.trans y)
      have hDN : DN c0 c K nb α := hF.resolve_left fun y => ct' y.1
      refine (keep_ok hN hB hE e23 hDN hγ.1 hγ.2.1 hγ.2.2.1 (fun y => ?_)).bc (fun δ _ u => ?_) (fun δ u => RR.fault (by omega) v hB u)
      · have y' : α.1 20 = 30 := (show α.1 20 = γ.1 20 from e20.symm).trans y
        rw [y', show z0f 30 = 1 by decide] at hγ
        exact HE c0 c K nb B α γ hB hE hDN y' hγ eγ
      · obtain ⟨⟨c', u1, u2⟩, u3⟩ := u
        refine nx c' _ δ u1 u2 ?_
        unfold l12
        rw [u3, lγ]
        exact lα
theorem lex_l {γ : kS} : ∀ (n : Nat) (x : Int32) (β : kS), f_Lex_begin_20 N n x β = some (some none, γ) → l12 γ
  | 0, x, β, h => by rw [f_Lex_begin_20] at h; cases h
  | n + 1, x, β, h => by
    rw [f_Lex_begin_20] at h
    have j : f_Lex_begin_j69 N β = some (some none, γ) → l12 γ := fun y => by
      unfold f_Lex_begin_j69 at y
      have : f_Lex_advance (kSi β 9 (-1)) = γ := by injection y with y; injection y with _ y
      rw [← this]
      exact adv_l _
    split at h
    · exact j h
    · split at h
      · exact j h
      · obtain ⟨δ, -, h⟩ := kBv_inv h
        obtain ⟨δ, -, h⟩ := kBv_inv h
        exact lex_l n _ _ h
/-- a text is read whole, or to its first fault -/
theorem read_ok {c : Nat} {α : kS} (hN : 2 ^ 31 < N) (HE : EVH N) (h : KI c α) (hT : (α.2.1 0).length ≤ 12000) : RR c (f_Ker_read N α) := by
  unfold f_Ker_read
  obtain ⟨B, eB⟩ : ∃ B, B = f_Meter_forget α := ⟨_, rfl⟩
  rw [← eB]
  have hB : KI c B := by rw [eB]; exact (h.si (by decide)).si (by decide)
  obtain ⟨γ, e, tγ, cγ⟩ := lexer_ok (N := N) hN hB.1 (by rw [eB]; exact hT)
  have lγ : l12 γ := by
    unfold f_Lex_begin at e
    exact lex_l _ _ _ e
  rw [e, kBn_s]
  have nγ : tn γ = tn B := by unfold tn; rw [cγ.int (by decide)]
  refine read_go (by omega) HE 65537 0 N c 0 γ ⟨tγ, ?_, hB.2.2.eq cγ.2.2 nγ⟩ lγ (by omega) (by omega)
  rw [nγ]
  exact hB.2.1.ch cγ (by decide) (by decide)
end READ
