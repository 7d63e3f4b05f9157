-- rewrite ends, and gives a TERM
theorem psh {α β : kS} {r : Nat} {v v' : Int32} {k : kS → Option (kO × kS)} (ev : v = v') (e : fR_push α r v' = some (some none, β)) : kBv (fR_push α r v) k = k β := by rw [ev, e]; rfl
def rS (N : Nat) (m key : Int32) (β : kS) (C : Nat) (Q X : kS → Prop) : Prop :=
  (∃ c γ, c ≤ C ∧ Q γ ∧ ∀ n x, x + c < 16777216 → f_Terms_rewrite_43 N (n + c) (nI x) m key β = f_Terms_rewrite_43 N n (nI (x + c)) m key γ) ∨
  (∃ c γ, c ≤ C ∧ X γ ∧ ∀ n x, x + c < 16777216 → f_Terms_rewrite_43 N (n + c) (nI x) m key β = some (none, γ))
section RS
variable {N C D : Nat} {m key : Int32} {β : kS} {Q Q' X X' : kS → Prop}
theorem rS.seq (h : rS N m key β C Q X) (hk : ∀ γ, Q γ → rS N m key γ D Q' X') (hx : ∀ γ, X γ → X' γ) : rS N m key β (C + D) Q' X' := by
  rcases h with ⟨c, γ, hc, hq, e⟩ | ⟨c, γ, hc, hx', e⟩
  · rcases hk γ hq with ⟨d, δ, hd, hq', e'⟩ | ⟨d, δ, hd, hx', e'⟩
    · refine Or.inl ⟨c + d, δ, by omega, hq', fun n x h => ?_⟩
      rw [show n + (c + d) = (n + d) + c by omega, e (n + d) x (by omega), e' n (x + c) (by omega), Nat.add_assoc]
    · refine Or.inr ⟨c + d, δ, by omega, hx', fun n x h => ?_⟩
      rw [show n + (c + d) = (n + d) + c by omega, e (n + d) x (by omega), e' n (x + c) (by omega)]
  · exact Or.inr ⟨c, γ, by omega, hx γ hx', e⟩
theorem rS.mono (h : rS N m key β C Q X) (hC : C ≤ D) (hq : ∀ γ, Q γ → Q' γ) (hx : ∀ γ, X γ → X' γ) : rS N m key β D Q' X' := by
  rcases h with ⟨c, γ, hc, h1, e⟩ | ⟨c, γ, hc, h1, e⟩
  · exact Or.inl ⟨c, γ, by omega, hq γ h1, e⟩
  · exact Or.inr ⟨c, γ, by omega, hx γ h1, e⟩
end RS
theorem l24_lt {i : Nat} (h : i < 16777216) : ¬ (16777216 : Int32) ≤ nI i := nI_ge (a := i) (b := 16777216) h (by decide)
/-- a turn: what was on top is p, at the offset o -/
def rT (N : Nat) (k : Int32 → Int32 → Int32 → kS → Option (kO × kS)) (x m key p o : Int32) (γ : kS) : Option (kO × kS) :=
  if 0 ≤ p then (if f_Terms_isUntouched m p key o γ = 0 then (if 5 ≤ f_Terms_kind p γ then f_Terms_rewrite_j178 N k p o x m key γ else (if 1 < m then f_Terms_rewrite_j178 N k p o x m key γ else kBv (fR_push γ 4 key) fun α => k (x + 1) m key α)) else kBv (fR_push γ 4 p) fun α => k (x + 1) m key α)
  else kBi (f_Terms_make N (f_Terms_kind ((-1) - p) (fR_pop (fR_pop γ 4).2 4).2) (fR_pop (fR_pop γ 4).2 4).1 (fR_pop γ 4).1 (fR_pop (fR_pop γ 4).2 4).2) fun v α => kBv (fR_push α 4 v) fun α2 => k (x + 1) m key α2
theorem turn_is {N K n x : Nat} {m key p o : Int32} {β : kS} {T O : List Int32} (h : tT K β) (e2 : β.2.1 2 = T ++ [p]) (e3 : β.2.1 3 = O ++ [o]) (hx : x < 16777216) :
    f_Terms_rewrite_43 N (n + 1) (nI x) m key β = rT N (f_Terms_rewrite_43 N n) (nI x) m key p o (kSl (kSl β 3 O) 2 T) := by
  have h1 := row_sm h (r := 2) (by decide)
  have hs : ¬ fR_size β 2 ≤ 0 := by
    unfold fR_size
    rw [e2] at h1 ⊢
    rw [List.length_append] at h1 ⊢
    exact nI_ge (a := 0) (by show 0 < T.length + 1; omega) (by omega)
  have p3 : fR_pop β 3 = (o, kSl β 3 O) := pop_e e3
  have p2 : fR_pop (kSl β 3 O) 2 = (p, kSl (kSl β 3 O) 2 T) := pop_e (by rw [← e2]; rfl)
  rw [f_Terms_rewrite_43, if_neg (l24_lt hx), if_neg hs, p3]
  show (if 0 ≤ (fR_pop (kSl β 3 O) 2).1 then _ else _) = _
  rw [p2]
  rfl
section RW1
variable {N K : Nat} {m key p o : Int32} {β : kS} {T O : List Int32}
/-- a turn that puts v to what is built -/
theorem turn_push {L : List Nat} {v : Int32} (h : tT K β) (e2 : β.2.1 2 = T ++ [p]) (e3 : β.2.1 3 = O ++ [o]) (hb : (β.2.1 4).length < 512) (ht : ∀ k x, rT N k x m key p o (kSl (kSl β 3 O) 2 T) = kBv (fR_push (kSl (kSl β 3 O) 2 T) 4 v) fun α => k (x + 1) m key α) {X : kS → Prop} :
    rS N m key β 1 (fun γ => tT K γ ∧ tmL L β γ ∧ γ.2.1 2 = T ∧ γ.2.1 3 = O ∧ γ.2.1 4 = β.2.1 4 ++ [v] ∧ γ.2.2.2 = β.2.2.2 ∧ γ.1 = β.1) X := by
  have h1 : tT K (kSl (kSl β 3 O) 2 T) := (h.sl (r := 3) (by decide) (by rw [e3, List.length_append]; omega)).sl (r := 2) (by decide) (by show T.length ≤ (β.2.1 2).length; rw [e2, List.length_append]; omega)
  obtain ⟨M, e, h2⟩ := push_t (r := 4) v h1 (by decide) hb
  refine Or.inl ⟨1, _, Nat.le_refl _, ⟨h2, ((ch.rs (by decide)).tr (ch.rs (by decide))).tr (ch.rs (by decide)), rfl, rfl, rfl, rfl, rfl⟩, fun n x hx => ?_⟩
  rw [turn_is h e2 e3 (by omega), ht, e, nI_1]
  rfl
end RW1
/-- a turn that makes a TERM and puts it to what is built -/
theorem turn_mk {L : List Nat} {N K kk : Nat} {m key p o l r : Int32} {β γ1 : kS} {T O B : List Int32} (hN : 524288 < N) (h : tT K β) (e2 : β.2.1 2 = T ++ [p]) (e3 : β.2.1 3 = O ++ [o]) (h1 : tT K γ1) (hm : tmL L β γ1) (r2 : γ1.2.1 2 = T) (r3 : γ1.2.1 3 = O) (r4 : γ1.2.1 4 = B) (hb : B.length < 512) (hk : kk ≤ 9)
    (hp : 5 ≤ kk → ∃ a b, l = nI a ∧ r = nI b ∧ tPr γ1 kk (tn γ1) a b) (hc : kk = 3 ∨ kk = 4 → ∃ c, l = nI c ∧ c < K) (h100 : kk = 1 → nf γ1 → 100 ∈ L)
    (ht : ∀ k x, rT N k x m key p o (kSl (kSl β 3 O) 2 T) = kBi (f_Terms_make N (nI kk) l r γ1) fun v α => kBv (fR_push α 4 v) fun α2 => k (x + 1) m key α2) :
    rS N m key β 1 (fun γ => tT K γ ∧ tmL L β γ ∧ γ.2.1 2 = T ∧ γ.2.1 3 = O ∧ ∃ v, γ.2.1 4 = B ++ [nI v] ∧ v < tn γ ∧ nK γ v = kk ∧ tLf γ v = l ∧ tRt γ v = r) (fun γ => tT K γ ∧ tmL L β γ) := by
  rcases mk_w (I := 2 :: 3 :: 4 :: 6 :: L) (by simp) (by simp) (by simp) hN h1 (fun y z => by have := h100 y z; simp [this]) hk hp hc with ⟨v, δ, e, q1, q2, j, rfl, q3, q4, q5, q6⟩ | ⟨δ, e, q1, q2⟩
  · have w : tmL L γ1 δ := q2.mo (fun _ y => y) (by decide)
    have r4' : δ.2.1 4 = B := (q2.row (by decide) (by decide)).trans r4
    obtain ⟨M, e', h2⟩ := push_t (r := 4) (nI j) q1 (by decide) (by rw [r4']; exact hb)
    refine Or.inl ⟨1, _, Nat.le_refl _, ⟨h2, (hm.tr w).tr (ch.rs (by decide)), ?_, ?_, j, ?_, q3, q4, q5, q6⟩, fun n x hx => ?_⟩
    · exact (q2.row (r := 2) (by decide) (by decide)).trans r2
    · exact (q2.row (r := 3) (by decide) (by decide)).trans r3
    · show δ.2.1 4 ++ [nI j] = B ++ [nI j]
      rw [r4']
    · rw [turn_is h e2 e3 (by omega), ht, e]
      show kBv (fR_push δ 4 (nI j)) _ = _
      rw [e', nI_1]
      rfl
  · refine Or.inr ⟨1, δ, Nat.le_refl _, ⟨q1, hm.tr (q2.mo (fun _ y => y) (by decide))⟩, fun n x hx => ?_⟩
    rw [turn_is h e2 e3 (by omega), ht, e]
    rfl
theorem binds_01 (k : Int32) (α : kS) : ∃ b, b ≤ 1 ∧ f_Terms_binds k α = nI b := by
  unfold f_Terms_binds
  repeat' split
  all_goals first | exact ⟨1, by decide, rfl⟩ | exact ⟨0, by decide, rfl⟩
theorem kMx2 : kMx 2 = 4096 := by decide
theorem kMx3 : kMx 3 = 4096 := by decide
theorem kMx4 : kMx 4 = 512 := by decide
/-- a turn at a TERM with parts -/
theorem turn_node {L : List Nat} {N K t o : Nat} {m key : Int32} {β : kS} {T O : List Int32} (h : tT K β) (ht : t < tn β) (e2 : β.2.1 2 = T ++ [nI t]) (e3 : β.2.1 3 = O ++ [nI o]) (h5 : 5 ≤ nK β t) (hT : T.length + 3 ≤ 4096) (hO : O.length = T.length) (hu : f_Terms_isUntouched m (nI t) key (nI o) β = 0) {X : kS → Prop} :
    ∃ b, b ≤ 1 ∧ rS N m key β 1 (fun γ => tT K γ ∧ tmL L β γ ∧ γ.2.1 2 = (T ++ [(-1) - nI t] ++ [nI (rtN β t)]) ++ [nI (lfN β t)] ∧ γ.2.1 3 = (O ++ [nI 0] ++ [nI (o + b)]) ++ [nI o] ∧ γ.2.1 4 = β.2.1 4 ∧ γ.2.2.2 = β.2.2.2 ∧ γ.1 = β.1) X := by
  obtain ⟨b, hb, eb⟩ := binds_01 (f_Terms_kind (nI t) β) β
  refine ⟨b, hb, ?_⟩
  obtain ⟨-, hn, -⟩ := h.1.1.n
  obtain ⟨p1, p2, -⟩ := partsN h.1.1 h.2.1 ht h5
  have hl : f_Terms_left (nI t) β = nI (lfN β t) := (lf_in h.1.1 ht).trans p1
  have hr : f_Terms_right (nI t) β = nI (rtN β t) := (rt_in h.1.1 ht).trans p2
  have hk : f_Terms_kind (nI t) β = nI (nK β t) := kd_at h.1.1 ht
  have h9 := (h.2.1 t ht).1
  have c5 : 5 ≤ f_Terms_kind (nI t) β := by rw [hk]; exact nI_le (a := 5) h5 (by omega)
  have g0 : tT K (kSl (kSl β 3 O) 2 T) := (h.sl (r := 3) (by decide) (by rw [e3, List.length_append]; omega)).sl (r := 2) (by decide) (by show T.length ≤ (β.2.1 2).length; rw [e2, List.length_append]; omega)
  obtain ⟨M1, e1, g1⟩ := push_t (r := 2) ((-1) - nI t) g0 (by decide) (by rw [kMx2]; show T.length < 4096; omega)
  obtain ⟨M2, e4, g2⟩ := push_t (r := 3) 0 g1 (by decide) (by rw [kMx3]; show O.length < 4096; omega)
  obtain ⟨M3, e5, g3⟩ := push_t (r := 2) (nI (rtN β t)) g2 (by decide) (by rw [kMx2]; show (T ++ [(-1) - nI t]).length < 4096; rw [List.length_append]; show T.length + 1 < 4096; omega)
  obtain ⟨M4, e6, g4⟩ := push_t (r := 3) (nI (o + b)) g3 (by decide) (by rw [kMx3]; show (O ++ [0]).length < 4096; rw [List.length_append]; show O.length + 1 < 4096; omega)
  obtain ⟨M5, e7, g5⟩ := push_t (r := 2) (nI (lfN β t)) g4 (by decide) (by rw [kMx2]; show (T ++ [(-1) - nI t] ++ [nI (rtN β t)]).length < 4096; rw [List.length_append, List.length_append]; show T.length + 1 + 1 < 4096; omega)
  obtain ⟨M6, e8, g6⟩ := push_t (r := 3) (nI o) g5 (by decide) (by rw [kMx3]; show (O ++ [0] ++ [nI (o + b)]).length < 4096; rw [List.length_append, List.length_append]; show O.length + 1 + 1 < 4096; omega)
  refine Or.inl ⟨1, _, Nat.le_refl _, ⟨g6, ?_, rfl, rfl, rfl, rfl, rfl⟩, fun n x hx => ?_⟩
  · exact (((((((ch.rs (by decide)).tr (ch.rs (by decide))).tr (ch.rs (by decide))).tr (ch.rs (by decide))).tr (ch.rs (by decide))).tr (ch.rs (by decide))).tr (ch.rs (by decide))).tr (ch.rs (by decide))
  · rw [turn_is h e2 e3 (by omega)]
    unfold rT
    have w : ∀ k : Int32 → Int32 → Int32 → kS → Option (kO × kS), f_Terms_rewrite_j178 N k (nI t) (nI o) (nI x) m key (kSl (kSl β 3 O) 2 T) = k (nI x + 1) m key (kRs (kRs (kRs (kRs (kRs (kRs (kSl (kSl β 3 O) 2 T) 2 (T ++ [(-1) - nI t]) M1) 3 (O ++ [0]) M2) 2 (T ++ [(-1) - nI t] ++ [nI (rtN β t)]) M3) 3 (O ++ [0] ++ [nI (o + b)]) M4) 2 (T ++ [(-1) - nI t] ++ [nI (rtN β t)] ++ [nI (lfN β t)]) M5) 3 (O ++ [0] ++ [nI (o + b)] ++ [nI o]) M6) := by
      intro k
      unfold f_Terms_rewrite_j178
      refine (if_pos (show 5 ≤ f_Terms_kind (nI t) (kSl (kSl β 3 O) 2 T) from c5)).trans ?_
      have x1 : ∀ γ : kS, γ.1 = β.1 → γ.2.2.2 = β.2.2.2 → f_Terms_right (nI t) γ = nI (rtN β t) := fun γ z1 z2 => by unfold f_Terms_right at hr ⊢; rw [z1, z2]; exact hr
      have x2 : ∀ γ : kS, γ.1 = β.1 → γ.2.2.2 = β.2.2.2 → f_Terms_left (nI t) γ = nI (lfN β t) := fun γ z1 z2 => by unfold f_Terms_left at hl ⊢; rw [z1, z2]; exact hl
      have x3 : ∀ γ : kS, γ.1 = β.1 → γ.2.2.2 = β.2.2.2 → nI o + f_Terms_binds (f_Terms_kind (nI t) γ) γ = nI (o + b) := fun γ z1 z2 => by
        have : f_Terms_kind (nI t) γ = f_Terms_kind (nI t) β := by unfold f_Terms_kind; rw [z1, z2]
        rw [this]
        show nI o + f_Terms_binds (f_Terms_kind (nI t) β) β = _
        rw [eb, nI_add]
      refine (psh rfl e1).trans ?_
      refine (psh rfl e4).trans ?_
      refine (psh ?_ e5).trans ?_
      · exact x1 _ rfl rfl
      refine (psh ?_ e6).trans ?_
      · exact x3 _ rfl rfl
      refine (psh ?_ e7).trans ?_
      · exact x2 _ rfl rfl
      exact psh rfl e8
    refine (if_pos (nI_le (a := 0) (Nat.zero_le _) (by omega))).trans ?_
    refine (if_pos hu).trans ?_
    refine (if_pos (show 5 ≤ f_Terms_kind (nI t) (kSl (kSl β 3 O) 2 T) from c5)).trans ?_
    rw [w, nI_1]
    rfl
