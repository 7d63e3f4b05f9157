-- has: ends, and for CONSTANTS tells whether one is within
def Hc (α : kS) (f : Int32) : Nat → Nat → Prop
  | 0, _ => False
  | n + 1, t => (nK α t = 3 ∧ tLf α t = f) ∨ (5 ≤ nK α t ∧ (Hc α f n (lfN α t) ∨ Hc α f n (rtN α t)))
/-- the CONSTANT f is in the TERM -/
def hc (α : kS) (f : Int32) (t : Nat) : Prop := ∃ n, Hc α f n t
section HC
variable {α β : kS} {f : Int32} {t v : Nat}
theorem hc_nd (h5 : 5 ≤ nK α t) : hc α f t ↔ hc α f (lfN α t) ∨ hc α f (rtN α t) := by
  constructor
  · rintro ⟨n, h⟩
    cases n with
    | zero => exact h.elim
    | succ n =>
      rcases h with h | ⟨-, h | h⟩
      · omega
      · exact Or.inl ⟨n, h⟩
      · exact Or.inr ⟨n, h⟩
  · rintro (⟨n, h⟩ | ⟨n, h⟩)
    · exact ⟨n + 1, Or.inr ⟨h5, Or.inl h⟩⟩
    · exact ⟨n + 1, Or.inr ⟨h5, Or.inr h⟩⟩
theorem hc_lf (h5 : nK α t < 5) : hc α f t ↔ nK α t = 3 ∧ tLf α t = f := by
  constructor
  · rintro ⟨n, h⟩
    cases n with
    | zero => exact h.elim
    | succ n =>
      rcases h with h | ⟨h, -⟩
      · exact h
      · omega
  · exact fun h => ⟨1, Or.inl h⟩
theorem Sh_hc : ∀ (n t v : Nat), Sh α n t v → (hc α f t ↔ hc α f v)
  | 0, _, _, h => h.elim
  | n + 1, t, v, h => by
    rcases h with ⟨h1, h2, h3⟩ | ⟨h1, h2, h3, h4⟩
    · rw [hc_lf h1, hc_lf h2]
      constructor
      · intro z
        obtain ⟨a, b⟩ := h3 (Or.inl z.1)
        exact ⟨by omega, b ▸ z.2⟩
      · intro z
        obtain ⟨a, b⟩ := h3 (Or.inr z.1)
        exact ⟨by omega, b.trans z.2⟩
    · rw [hc_nd (t := t) h1, hc_nd (t := v) (by omega), Sh_hc n _ _ h3, Sh_hc n _ _ h4]
theorem sh.hc (h : sh α t v) : hc α f t ↔ hc α f v := by
  obtain ⟨n, h⟩ := h
  exact Sh_hc n t v h
theorem hc_g (hO : kOk α) (hW : tWf α) (hg : grw α β) : ∀ t, t < tn α → (hc β f t ↔ hc α f t) := by
  intro t
  induction t using Nat.strongRecOn with
  | ind t ih =>
    intro ht
    obtain ⟨k1, -, -, -, l1, -⟩ := g_n hg ht
    obtain ⟨p1, p2⟩ := g_lf hg ht
    rcases Nat.lt_or_ge (nK α t) 5 with h | h
    · rw [hc_lf (α := α) h, hc_lf (α := β) (by omega), k1, l1]
    · obtain ⟨-, -, a1, a2, -⟩ := partsN hO hW ht h
      rw [hc_nd (α := α) h, hc_nd (α := β) (t := t) (by omega), p1, p2, ih _ a1 (by omega), ih _ a2 (by omega)]
end HC
def hS (N : Nat) (x2 x3 : Int32) (β : kS) (C : Nat) (Q Y : kS → Prop) : Prop :=
  (∃ c γ, c ≤ C ∧ Q γ ∧ ∀ n x, x + c < 16777216 → f_Terms_has_35 N (n + c) (nI x) x2 x3 β = f_Terms_has_35 N n (nI (x + c)) x2 x3 γ) ∨
  (∃ c γ, c ≤ C ∧ Y γ ∧ ∀ n x, x + c < 16777216 → f_Terms_has_35 N (n + c) (nI x) x2 x3 β = some (some (some 1), γ))
section HS
variable {N C D : Nat} {x2 x3 : Int32} {β : kS} {Q Q' X X' : kS → Prop}
theorem hS.seq (h : hS N x2 x3 β C Q X) (hk : ∀ γ, Q γ → hS N x2 x3 γ D Q' X') (hx : ∀ γ, X γ → X' γ) : hS N x2 x3 β (C + D) Q' X' := by
  rcases h with ⟨c, γ, hc, hq, e⟩ | ⟨c, γ, hc, hx', e⟩
  · rcases hk γ hq with ⟨d, δ, hd, hq', e'⟩ | ⟨d, δ, hd, hx', e'⟩
    · refine Or.inl ⟨c + d, δ, by omega, hq', fun n x h => ?_⟩
      rw [show n + (c + d) = (n + d) + c by omega, e (n + d) x (by omega), e' n (x + c) (by omega), Nat.add_assoc]
    · refine Or.inr ⟨c + d, δ, by omega, hx', fun n x h => ?_⟩
      rw [show n + (c + d) = (n + d) + c by omega, e (n + d) x (by omega), e' n (x + c) (by omega)]
  · exact Or.inr ⟨c, γ, by omega, hx γ hx', e⟩
theorem hS.mono (h : hS N x2 x3 β C Q X) (hC : C ≤ D) (hq : ∀ γ, Q γ → Q' γ) (hx : ∀ γ, X γ → X' γ) : hS N x2 x3 β D Q' X' := by
  rcases h with ⟨c, γ, hc, h1, e⟩ | ⟨c, γ, hc, h1, e⟩
  · exact Or.inl ⟨c, γ, by omega, hq γ h1, e⟩
  · exact Or.inr ⟨c, γ, by omega, hx γ h1, e⟩
end HS
theorem hturn_is {N K n x : Nat} {x2 x3 p o : Int32} {β : kS} {T O : List Int32} (h : tT K β) (e2 : β.2.1 2 = T ++ [p]) (e3 : β.2.1 3 = O ++ [o]) (hx : x < 16777216) :
    f_Terms_has_35 N (n + 1) (nI x) x2 x3 β = f_Terms_has_j82 N (f_Terms_has_35 N n) p o (nI x) x2 x3 (if x2 = 0 then x3 + o else x3) (kSl (kSl β 3 O) 2 T) := by
  have h1 := row_sm h (r := 2) (by decide)
  have hs : ¬ fR_size β 2 ≤ 0 := by
    unfold fR_size
    rw [e2] at h1 ⊢
    rw [List.length_append] at h1 ⊢
    exact nI_ge (a := 0) (by show 0 < T.length + 1; omega) (by omega)
  have p3 : fR_pop β 3 = (o, kSl β 3 O) := pop_e e3
  have p2 : fR_pop (kSl β 3 O) 2 = (p, kSl (kSl β 3 O) 2 T) := pop_e (by rw [← e2]; rfl)
  rw [f_Terms_has_35, if_neg (l24_lt hx), if_neg hs, p3]
  show (if x2 = 0 then f_Terms_has_j82 N _ (fR_pop (kSl β 3 O) 2).1 o (nI x) x2 x3 (x3 + o) (fR_pop (kSl β 3 O) 2).2 else f_Terms_has_j82 N _ (fR_pop (kSl β 3 O) 2).1 o (nI x) x2 x3 x3 (fR_pop (kSl β 3 O) 2).2) = _
  rw [p2]
  by_cases q : x2 = 0
  · rw [if_pos q, if_pos q]
  · rw [if_neg q, if_neg q]
theorem has_go {N K : Nat} {x2 x3 : Int32} : ∀ (t : Nat) (β : kS) (T O : List Int32) (o : Int32), tT K β → t < tn β → β.2.1 2 = T ++ [nI t] → β.2.1 3 = O ++ [o] → O.length = T.length → T.length + nS β t + (if nK β t = 9 then 1 else 0) ≤ 3002 →
    hS N x2 x3 β (4 * nS β t - 2) (fun γ => tT K γ ∧ ch [] [2, 3] β γ ∧ γ.2.1 2 = T ∧ γ.2.1 3 = O ∧ γ.2.2.2 = β.2.2.2 ∧ (x2 = 3 → ¬ hc β x3 t)) (fun γ => tT K γ ∧ ch [] [2, 3] β γ ∧ (x2 = 3 → hc β x3 t)) := by
  intro t
  induction t using Nat.strongRecOn with
  | ind t ih =>
    intro β T O o h ht e2 e3 hOT hT
    obtain ⟨-, hn, -⟩ := h.1.1.n
    obtain ⟨w1, ⟨w2, w3⟩, ⟨w4, w5⟩, w6, -, -⟩ := h.2.1 t ht
    have hk : f_Terms_kind (nI t) β = nI (nK β t) := kd_at h.1.1 ht
    have hl : f_Terms_left (nI t) β = tLf β t := lf_in h.1.1 ht
    have g0 : tT K (kSl (kSl β 3 O) 2 T) := (h.sl (r := 3) (by decide) (by rw [e3, List.length_append]; omega)).sl (r := 2) (by decide) (by show T.length ≤ (β.2.1 2).length; rw [e2, List.length_append]; omega)
    have gm : ch [] [2, 3] β (kSl (kSl β 3 O) 2 T) := (ch.rs (by decide)).tr (ch.rs (by decide))
    have x23 : x2 = 3 → (if x2 = 0 then x3 + o else x3) = x3 := fun z => if_neg (by rw [z]; decide)
    generalize es : (if x2 = 0 then x3 + o else x3) = s at x23
    by_cases c1 : f_Terms_kind (nI t) β = x2 ∧ f_Terms_left (nI t) β = s
    · refine Or.inr ⟨1, _, by omega, ⟨g0, gm, fun z => ?_⟩, fun n x hx => ?_⟩
      · rw [hk, hl] at c1
        rw [z] at c1
        have k3 := (nI_eq (a := nK β t) (b := 3) (by omega) (by omega)).mp c1.1
        exact (hc_lf (by omega)).mpr ⟨k3, by rw [c1.2, x23 z]⟩
      · rw [hturn_is h e2 e3 (by omega), es]
        unfold f_Terms_has_j82
        exact (if_pos c1.1).trans (if_pos c1.2)
    · have e107 : ∀ n x, x < 16777216 → f_Terms_has_35 N (n + 1) (nI x) x2 x3 β = f_Terms_has_j107 N (f_Terms_has_35 N n) s (nI t) o (nI x) x2 x3 (kSl (kSl β 3 O) 2 T) := by
        intro n x hx
        rw [hturn_is h e2 e3 hx, es]
        unfold f_Terms_has_j82
        by_cases q : f_Terms_kind (nI t) β = x2
        · exact (if_pos q).trans (if_neg (fun z => c1 ⟨q, z⟩))
        · exact if_neg q
      have nh : x2 = 3 → nK β t < 5 → ¬ hc β x3 t := fun z y => by
        rw [hc_lf y]
        intro q
        refine c1 ⟨?_, ?_⟩
        · rw [hk, q.1, z]; rfl
        · rw [hl, q.2, x23 z]
      rcases Nat.lt_or_ge (nK β t) 5 with h5 | h5
      · have c5 : f_Terms_kind (nI t) β < 5 := by rw [hk]; exact nI_lt (b := 5) h5 (by decide)
        refine Or.inl ⟨1, _, by omega, ⟨g0, gm, rfl, rfl, rfl, fun z => nh z h5⟩, fun n x hx => ?_⟩
        rw [e107 n x (by omega)]
        unfold f_Terms_has_j107
        refine (if_pos c5).trans ?_
        rw [nI_1]
      · have c5 : ¬ f_Terms_kind (nI t) β < 5 := by rw [hk]; exact nI_nlt (b := 5) h5 (by omega)
        by_cases c2 : x2 = 0 ∧ f_Terms_loose (nI t) β ≤ s
        · refine Or.inl ⟨1, _, by omega, ⟨g0, gm, rfl, rfl, rfl, fun z => by rw [z] at c2; exact absurd c2.1 (by decide)⟩, fun n x hx => ?_⟩
          rw [e107 n x (by omega)]
          unfold f_Terms_has_j107
          refine (if_neg c5).trans ?_
          refine (if_pos c2.1).trans ?_
          refine (if_pos c2.2).trans ?_
          rw [nI_1]
        · obtain ⟨p1, p2, pl, pr, p3, p4, p5, p6⟩ := partsN h.1.1 h.2.1 ht h5
          have sl := (h.2.1 (lfN β t) (by omega)).2.1.1
          have sr := (h.2.1 (rtN β t) (by omega)).2.1.1
          have hlN : f_Terms_left (nI t) β = nI (lfN β t) := hl.trans p1
          have hrN : f_Terms_right (nI t) β = nI (rtN β t) := (rt_in h.1.1 ht).trans p2
          obtain ⟨b, hb⟩ : ∃ b, b = o + f_Terms_binds (f_Terms_kind (nI t) β) β := ⟨_, rfl⟩
          have nd : nS β (lfN β t) + 2 ≤ nS β t + (if nK β t = 9 then 1 else 0) ∧ nS β (rtN β t) + 1 + (if nK β (rtN β t) = 9 then 1 else 0) ≤ nS β t ∧ nS β (lfN β t) + nS β (rtN β t) ≤ nS β t := by
            by_cases c8 : nK β t = 8
            · rw [if_pos (p4.mpr c8)]
              rw [if_neg (by omega)] at p5
              rw [if_neg (by omega)]
              omega
            · have : ¬ nK β (rtN β t) = 9 := fun z => c8 (p4.mp z)
              rw [if_neg this]
              by_cases c9 : nK β t = 9
              · rw [if_pos c9] at p5
                rw [if_pos c9]
                omega
              · rw [if_neg c9] at p5
                rw [if_neg c9]
                omega
          obtain ⟨nd3, nd4, nd5⟩ := nd
          have h9l : (if nK β (lfN β t) = 9 then 1 else 0) = 0 := if_neg p3
          obtain ⟨M1, e1, g1⟩ := push_t (r := 2) (nI (rtN β t)) g0 (by decide) (by rw [kMx2]; show T.length < 4096; omega)
          obtain ⟨M2, e4, g2⟩ := push_t (r := 3) b g1 (by decide) (by rw [kMx3]; show O.length < 4096; omega)
          obtain ⟨M3, e5, g3⟩ := push_t (r := 2) (nI (lfN β t)) g2 (by decide) (by rw [kMx2]; show (T ++ [nI (rtN β t)]).length < 4096; rw [List.length_append]; show T.length + 1 < 4096; omega)
          obtain ⟨M4, e6, g4⟩ := push_t (r := 3) o g3 (by decide) (by rw [kMx3]; show (O ++ [b]).length < 4096; rw [List.length_append]; show O.length + 1 < 4096; omega)
          have hr1 : hS N x2 x3 β 1 (fun γ => tT K γ ∧ ch [] [2, 3] β γ ∧ γ.2.1 2 = (T ++ [nI (rtN β t)]) ++ [nI (lfN β t)] ∧ γ.2.1 3 = (O ++ [b]) ++ [o] ∧ γ.2.2.2 = β.2.2.2) (fun γ => tT K γ ∧ ch [] [2, 3] β γ ∧ (x2 = 3 → hc β x3 t)) := by
            refine Or.inl ⟨1, _, Nat.le_refl _, ⟨g4, (((gm.tr (ch.rs (by decide))).tr (ch.rs (by decide))).tr (ch.rs (by decide))).tr (ch.rs (by decide)), rfl, rfl, rfl⟩, fun n x hx => ?_⟩
            rw [e107 n x (by omega)]
            have w : ∀ k : Int32 → Int32 → Int32 → kS → Option (kO × kS), f_Terms_has_j107 N k s (nI t) o (nI x) x2 x3 (kSl (kSl β 3 O) 2 T) = f_Terms_has_j132 N k (nI t) o (nI x) x2 x3 (kSl (kSl β 3 O) 2 T) := by
              intro k
              unfold f_Terms_has_j107
              refine (if_neg c5).trans ?_
              by_cases q : x2 = 0
              · refine (if_pos q).trans ?_
                exact if_neg (fun z => c2 ⟨q, z⟩)
              · exact if_neg q
            rw [w]
            unfold f_Terms_has_j132
            refine (psh (show f_Terms_right (nI t) (kSl (kSl β 3 O) 2 T) = nI (rtN β t) from hrN) e1).trans ?_
            refine (psh (hb.symm) e4).trans ?_
            refine (psh (show f_Terms_left (nI t) β = nI (lfN β t) from hlN) e5).trans ?_
            refine (psh rfl e6).trans ?_
            rw [nI_1]
          have hcn := hc_nd (f := x3) h5
          refine (hS.seq hr1 (D := (4 * nS β (lfN β t) - 2) + (4 * nS β (rtN β t) - 2)) (Q' := fun γ => tT K γ ∧ ch [] [2, 3] β γ ∧ γ.2.1 2 = T ∧ γ.2.1 3 = O ∧ γ.2.2.2 = β.2.2.2 ∧ (x2 = 3 → ¬ hc β x3 t)) (X' := fun γ => tT K γ ∧ ch [] [2, 3] β γ ∧ (x2 = 3 → hc β x3 t)) (fun γ q => ?_) (fun _ q => q)).mono (by omega) (fun _ q => q) (fun _ q => q)
          obtain ⟨q1, q2, q3, q4, q5⟩ := q
          obtain ⟨al, bl, -⟩ := g_n q2.2.2 (i := lfN β t) (by omega)
          obtain ⟨ar, br, -⟩ := g_n q2.2.2 (i := rtN β t) (by omega)
          have hgl := hc_g (f := x3) h.1.1 h.2.1 q2.2.2 (lfN β t) (by omega)
          have hgr := hc_g (f := x3) h.1.1 h.2.1 q2.2.2 (rtN β t) (by omega)
          have tg := q2.2.2.1
          have L := ih (lfN β t) pl γ (T ++ [nI (rtN β t)]) (O ++ [b]) o q1 (by omega) q3 q4 (by simp [hOT]) (by rw [al, bl, h9l]; simp only [List.length_append, List.length_cons, List.length_nil]; omega)
          rw [bl] at L
          refine hS.seq L (fun δ s => ?_) (fun _ q => ⟨q.1, q2.tr q.2.1, fun z => hcn.mpr (Or.inl (hgl.mp (q.2.2 z)))⟩)
          obtain ⟨s1, s2, s3, s4, s5, s6⟩ := s
          obtain ⟨ar', br', -⟩ := g_n s2.2.2 (i := rtN β t) (by omega)
          have hgr' := hc_g (f := x3) q1.1.1 q1.2.1 s2.2.2 (rtN β t) (by omega)
          have tg' := s2.2.2.1
          have R := ih (rtN β t) pr δ T O b s1 (by omega) s3 s4 hOT (by rw [ar', br', ar, br]; omega)
          rw [br', br] at R
          refine R.mono (Nat.le_refl _) (fun ε u => ?_) (fun _ q => ⟨q.1, (q2.tr s2).tr q.2.1, fun z => hcn.mpr (Or.inr (hgr.mp (hgr'.mp (q.2.2 z))))⟩)
          obtain ⟨u1, u2, u3, u4, u5, u6⟩ := u
          refine ⟨u1, (q2.tr s2).tr u2, u3, u4, u5.trans (s5.trans q5), fun z y => ?_⟩
          rcases hcn.mp y with y | y
          · exact s6 z (hgl.mpr y)
          · exact u6 z (hgr'.mpr (hgr.mpr y))
/-- has ends with 0 or 1; asked for a CONSTANT it tells whether it is there -/
theorem has_ok {N K t : Nat} {x2 x3 : Int32} {α : kS} (hN : 16777216 < N) (h : tT K α) (ht : t < tn α) : ∃ v β, f_Terms_has N (nI t) x2 x3 α = some (some (some v), β) ∧ tT K β ∧ ch [] [2, 3] α β ∧ (v = 0 ∨ v = 1) ∧ (x2 = 3 → (v ≠ 0 ↔ hc α x3 t)) := by
  have a1 : tT K (kSl α 2 []) := h.sl (by decide) (Nat.zero_le _)
  have a2 : tT K (kSl (kSl α 2 []) 3 []) := a1.sl (by decide) (Nat.zero_le _)
  obtain ⟨M1, e1, g1⟩ := push_t (r := 2) (nI t) a2 (by decide) (by rw [kMx2]; show 0 < 4096; decide)
  obtain ⟨M2, e2, g2⟩ := push_t (r := 3) 0 g1 (by decide) (by rw [kMx3]; show 0 < 4096; decide)
  obtain ⟨w1, ⟨w2, w3⟩, -⟩ := h.2.1 t ht
  obtain ⟨β3, eβ3⟩ : ∃ β3, β3 = kRs (kRs (kSl (kSl α 2 []) 3 []) 2 ([] ++ [nI t]) M1) 3 ([] ++ [0]) M2 := ⟨_, rfl⟩
  have hgo : f_Terms_has N (nI t) x2 x3 α = f_Terms_has_35 N N 0 x2 x3 β3 := by
    unfold f_Terms_has
    rw [cut0 h (by decide), cut0 a1 (by decide)]
    refine (psh rfl e1).trans ?_
    refine (psh rfl e2).trans ?_
    rw [eβ3]
    rfl
  have g2' : tT K β3 := by rw [eβ3]; exact g2
  have cm : ch [] [2, 3] α β3 := by
    rw [eβ3]
    exact (((ch.rs (by decide)).tr (ch.rs (by decide))).tr (ch.rs (by decide))).tr (ch.rs (by decide))
  have q2 : β3.2.1 2 = [] ++ [nI t] := by rw [eβ3]; rfl
  have q3 : β3.2.1 3 = [] ++ [0] := by rw [eβ3]; rfl
  have qn : tn β3 = tn α := by rw [eβ3]; rfl
  have qK : nK β3 t = nK α t := by rw [eβ3]; rfl
  have qS : nS β3 t = nS α t := by rw [eβ3]; rfl
  have i9 : (if nK α t = 9 then 1 else 0) ≤ 1 := by split <;> omega
  have hcg := hc_g (f := x3) h.1.1 h.2.1 cm.2.2 t ht
  rw [hgo]
  have R := has_go (N := N) (x2 := x2) (x3 := x3) t β3 [] [] 0 g2' (by omega) q2 q3 rfl (by rw [qS, qK]; show 0 + _ + _ ≤ _; omega)
  rw [qS] at R
  rcases R with ⟨c, γ, hc', ⟨b1, b2, b3, b4, b5, b6⟩, e⟩ | ⟨c, γ, hc', ⟨b1, b2, b3⟩, e⟩
  · obtain ⟨n, hn⟩ : ∃ n, N = (n + 1) + c := ⟨N - 1 - c, by omega⟩
    have e' := e (n + 1) 0 (by omega)
    rw [← hn, Nat.zero_add] at e'
    refine ⟨0, γ, ?_, b1, cm.tr b2, Or.inl rfl, fun z => ⟨fun y => absurd rfl y, fun y => absurd (hcg.mpr y) (b6 z)⟩⟩
    refine e'.trans ?_
    rw [f_Terms_has_35, if_neg (l24_lt (by omega)), if_pos]
    unfold fR_size
    rw [b3]
    decide
  · obtain ⟨n, hn⟩ : ∃ n, N = n + c := ⟨N - c, by omega⟩
    have e' := e n 0 (by omega)
    rw [← hn] at e'
    exact ⟨1, γ, e', b1, cm.tr b2, Or.inr rfl, fun z => ⟨fun _ => hcg.mp (b3 z), fun _ => by decide⟩⟩
