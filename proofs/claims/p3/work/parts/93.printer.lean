-- a TERM is shown
/-- a FREE variable is in it -/
def Fr (α : kS) : Nat → Nat → Prop
  | 0, _ => False
  | n + 1, t => nK α t = 1 ∨ (5 ≤ nK α t ∧ (Fr α n (lfN α t) ∨ Fr α n (rtN α t)))
def fr (α : kS) (t : Nat) : Prop := ∃ n, Fr α n t
theorem fr_1 {α : kS} {t : Nat} (h : ¬ fr α t) : nK α t ≠ 1 := fun z => h ⟨1, Or.inl z⟩
theorem fr_p {α : kS} {t : Nat} (h : ¬ fr α t) (h5 : 5 ≤ nK α t) : ¬ fr α (lfN α t) ∧ ¬ fr α (rtN α t) :=
  ⟨fun ⟨n, z⟩ => h ⟨n + 1, Or.inr ⟨h5, Or.inl z⟩⟩, fun ⟨n, z⟩ => h ⟨n + 1, Or.inr ⟨h5, Or.inr z⟩⟩⟩
theorem Fr_g {α β : kS} (hO : kOk α) (hW : tWf α) (hg : grw α β) : ∀ (n t : Nat), t < tn α → (Fr β n t ↔ Fr α n t)
  | 0, _, _ => Iff.rfl
  | n + 1, t, ht => by
    unfold Fr
    rw [(g_n hg ht).1, (g_lf hg ht).1, (g_lf hg ht).2]
    by_cases h5 : 5 ≤ nK α t
    · obtain ⟨-, -, hl, hr, -⟩ := partsN hO hW ht h5
      rw [Fr_g hO hW hg n _ (by omega), Fr_g hO hW hg n _ (by omega)]
    · exact ⟨fun z => z.elim Or.inl fun y => absurd y.1 h5, fun z => z.elim Or.inl fun y => absurd y.1 h5⟩
theorem fr_g {α β : kS} (hO : kOk α) (hW : tWf α) (hg : grw α β) {t : Nat} (ht : t < tn α) : fr β t ↔ fr α t :=
  ⟨fun ⟨n, z⟩ => ⟨n, (Fr_g hO hW hg n t ht).mp z⟩, fun ⟨n, z⟩ => ⟨n, (Fr_g hO hW hg n t ht).mpr z⟩⟩
section PRINTER
variable {N K : Nat} {a2 : Int32}
theorem kMx20 : kMx 20 = 12288 := by decide
theorem later_e {α : kS} {fs : List O3} (h : tT K α) (v : α.2.1 20 = flat3 fs) (hl : fs.length < 4096) (a b d : Int32) : ∃ β, f_Pri_later N a b d α = some (some none, β) ∧ tT K β ∧ ch [] [20] α β ∧ sT α β ∧ β.2.1 20 = flat3 ((a, b, d) :: fs) := by
  have hL : (α.2.1 20).length = 3 * fs.length := by rw [v, flat3_len]
  obtain ⟨M1, e1, g1⟩ := push_t (r := 20) a h (by decide) (by rw [kMx20]; omega)
  obtain ⟨M2, e2, g2⟩ := push_t (r := 20) b g1 (by decide) (by rw [kMx20]; show (α.2.1 20 ++ [a]).length < _; rw [List.length_append]; show _ + 1 < _; omega)
  obtain ⟨M3, e3, g3⟩ := push_t (r := 20) d g2 (by decide) (by rw [kMx20]; show (α.2.1 20 ++ [a] ++ [b]).length < _; simp only [List.length_append, List.length_cons, List.length_nil]; omega)
  refine ⟨_, ?_, g3, ((ch.rs (by decide)).tr (ch.rs (by decide))).tr (ch.rs (by decide)), ⟨rfl, rfl⟩, ?_⟩
  · unfold f_Pri_later
    refine (psh rfl e1).trans ?_
    refine (psh rfl e2).trans ?_
    exact psh rfl e3
  · show α.2.1 20 ++ [a] ++ [b] ++ [d] = flat3 fs ++ fl3 (a, b, d)
    rw [v]
    simp [fl3]
/-- some turns lead from β to a state with Q -/
def pS (N : Nat) (a2 : Int32) (β : kS) (C : Nat) (Q : kS → Prop) : Prop := ∃ c γ, c ≤ C ∧ Q γ ∧ ∀ n x, x + c < 16777216 → f_Pri_print_25 N (n + c) (nI x) a2 β = f_Pri_print_25 N n (nI (x + c)) a2 γ
theorem pS.seq {β : kS} {C D : Nat} {Q Q' : kS → Prop} (h : pS N a2 β C Q) (hk : ∀ γ, Q γ → pS N a2 γ D Q') : pS N a2 β (C + D) Q' := by
  obtain ⟨c, γ, hc, hq, e⟩ := h
  obtain ⟨d, δ, hd, hq', e'⟩ := hk γ hq
  refine ⟨c + d, δ, by omega, hq', fun n x h => ?_⟩
  rw [show n + (c + d) = (n + d) + c by omega, e (n + d) x (by omega), e' n (x + c) (by omega), Nat.add_assoc]
theorem pS.mono {β : kS} {C D : Nat} {Q Q' : kS → Prop} (h : pS N a2 β C Q) (hC : C ≤ D) (hq : ∀ γ, Q γ → Q' γ) : pS N a2 β D Q' := by
  obtain ⟨c, γ, hc, h1, e⟩ := h
  exact ⟨c, γ, by omega, hq γ h1, e⟩
/-- what is on top is taken -/
theorem pturn {β : kS} {f : O3} {fs : List O3} (h : tT K β) (v : β.2.1 20 = flat3 (f :: fs)) : ∃ γ, tT K γ ∧ ch [] [20] β γ ∧ sT β γ ∧ γ.2.1 20 = flat3 fs ∧ ∀ n x, x < 16777216 → f_Pri_print_25 N (n + 1) (nI x) a2 β = (if 0 ≤ f.1 then (if f_Pri_needsBrackets (f_Terms_kind f.1 γ) f.2.2 γ = 0 then (kBv (f_Pri_write N f.1 f.2.1 a2 γ) fun α7 => f_Pri_print_25 N n (nI (x + 1)) a2 α7) else (kBv (fR_push γ 1 40) fun α9 => kBv (f_Pri_later N (-1) 0 0 α9) fun α11 => kBv (f_Pri_later N f.1 f.2.1 0 α11) fun α13 => f_Pri_print_25 N n (nI (x + 1)) a2 α13)) else (kBv (f_Pri_piece N f.1 γ) fun α15 => f_Pri_print_25 N n (nI (x + 1)) a2 α15)) := by
  have v : β.2.1 20 = flat3 fs ++ [f.1] ++ [f.2.1] ++ [f.2.2] := by rw [v]; show flat3 fs ++ fl3 f = _; simp [fl3]
  have p1 : fR_pop β 20 = (f.2.2, kSl β 20 (flat3 fs ++ [f.1] ++ [f.2.1])) := pop_e v
  have p2 : fR_pop (kSl β 20 (flat3 fs ++ [f.1] ++ [f.2.1])) 20 = (f.2.1, kSl (kSl β 20 (flat3 fs ++ [f.1] ++ [f.2.1])) 20 (flat3 fs ++ [f.1])) := pop_e rfl
  have p3 : fR_pop (kSl (kSl β 20 (flat3 fs ++ [f.1] ++ [f.2.1])) 20 (flat3 fs ++ [f.1])) 20 = (f.1, kSl (kSl (kSl β 20 (flat3 fs ++ [f.1] ++ [f.2.1])) 20 (flat3 fs ++ [f.1])) 20 (flat3 fs)) := pop_e rfl
  have hlen := congrArg List.length v
  simp only [List.length_append, List.length_cons, List.length_nil] at hlen
  have hsm := row_sm h (r := 20) (by decide)
  have t1 : tT K (kSl β 20 (flat3 fs ++ [f.1] ++ [f.2.1])) := h.sl (by decide) (by simp only [List.length_append, List.length_cons, List.length_nil]; omega)
  have t2 : tT K (kSl (kSl β 20 (flat3 fs ++ [f.1] ++ [f.2.1])) 20 (flat3 fs ++ [f.1])) := t1.sl (by decide) (by show _ ≤ (flat3 fs ++ [f.1] ++ [f.2.1]).length; simp only [List.length_append, List.length_cons, List.length_nil]; omega)
  have t3 : tT K (kSl (kSl (kSl β 20 (flat3 fs ++ [f.1] ++ [f.2.1])) 20 (flat3 fs ++ [f.1])) 20 (flat3 fs)) := t2.sl (by decide) (by show _ ≤ (flat3 fs ++ [f.1]).length; simp only [List.length_append, List.length_cons, List.length_nil]; omega)
  refine ⟨kSl (kSl (kSl β 20 (flat3 fs ++ [f.1] ++ [f.2.1])) 20 (flat3 fs ++ [f.1])) 20 (flat3 fs), t3, ((ch.rs (by decide)).tr (ch.rs (by decide))).tr (ch.rs (by decide)), ⟨rfl, rfl⟩, rfl, fun n x hx => ?_⟩
  have hs : ¬ fR_size β 20 ≤ 0 := by
    unfold fR_size
    exact nI_ge (a := 0) (by omega) (by omega)
  have e3 : (fR_pop (fR_pop (fR_pop β 20).2 20).2 20) = (f.1, kSl (kSl (kSl β 20 (flat3 fs ++ [f.1] ++ [f.2.1])) 20 (flat3 fs ++ [f.1])) 20 (flat3 fs)) := by rw [p1]; show fR_pop (fR_pop (kSl β 20 (flat3 fs ++ [f.1] ++ [f.2.1])) 20).2 20 = _; rw [p2]; exact p3
  have e2 : (fR_pop (fR_pop β 20).2 20).1 = f.2.1 := by rw [p1]; show (fR_pop (kSl β 20 (flat3 fs ++ [f.1] ++ [f.2.1])) 20).1 = _; rw [p2]
  have e1 : (fR_pop β 20).1 = f.2.2 := by rw [p1]
  rw [f_Pri_print_25, if_neg (l24_lt hx), if_neg hs, e3, e2, e1, nI_1]
/-- a turn -/
theorem p_one {β : kS} {f : O3} {fs : List O3} {Q : kS → Prop} (h : tT K β) (v : β.2.1 20 = flat3 (f :: fs)) (hk : ∀ γ, tT K γ → ch [] [20] β γ → sT β γ → γ.2.1 20 = flat3 fs → ∃ δ, Q δ ∧ ∀ k : kS → Option (kO × kS), (if 0 ≤ f.1 then (if f_Pri_needsBrackets (f_Terms_kind f.1 γ) f.2.2 γ = 0 then (kBv (f_Pri_write N f.1 f.2.1 a2 γ) k) else (kBv (fR_push γ 1 40) fun α9 => kBv (f_Pri_later N (-1) 0 0 α9) fun α11 => kBv (f_Pri_later N f.1 f.2.1 0 α11) k)) else (kBv (f_Pri_piece N f.1 γ) k)) = k δ) : pS N a2 β 1 Q := by
  obtain ⟨γ, t, c, s, v', e⟩ := pturn (N := N) (a2 := a2) h v
  obtain ⟨δ, q, e'⟩ := hk γ t c s v'
  exact ⟨1, δ, Nat.le_refl _, q, fun n x hx => (e n x (by omega)).trans (e' _)⟩
theorem p_piece {β : kS} {x y z : Int32} {fs : List O3} (hN : 2 ^ 31 ≤ N) (h : tT K β) (v : β.2.1 20 = flat3 ((x, y, z) :: fs)) (hx : ¬ 0 ≤ x) : pS N a2 β 1 (fun γ => tT K γ ∧ ch [] [1, 2, 3, 20] β γ ∧ γ.2.1 20 = flat3 fs) := by
  refine p_one h v (fun γ t0 c0 s0 v0 => ?_)
  obtain ⟨δ, e, t, c1, -⟩ := piece_p (N := N) hN t0 x
  refine ⟨δ, ⟨t, (c0.mo (by decide) (by decide)).tr (c1.mo (by decide) (by decide)), (c1.row (by decide) (by decide)).trans v0⟩, fun k => ?_⟩
  rw [if_neg hx, e, kBv_s]
/-- how much room an item asks for -/
def rq (β : kS) (t : Nat) (pos : Int32) : Nat := nS β t + 5 * nD β t + (if nK β t = 5 ∧ pos = 2 then 1 else 0) - (if 6 ≤ nK β t ∧ pos = 0 then 1 else 0)
theorem rq_g {α β : kS} (hg : grw α β) {t : Nat} (ht : t < tn α) (pos : Int32) : rq β t pos = rq α t pos := by
  obtain ⟨a, b, c, -⟩ := g_n hg ht
  unfold rq
  rw [a, b, c]
/-- an item is shown whole -/
def pI (N : Nat) (a2 : Int32) (K t C : Nat) (pos : Int32) : Prop := ∀ (β : kS) (d : Int32) (fs : List O3), tT K β → qT β t → ¬ fr β t → β.2.1 20 = flat3 ((nI t, d, pos) :: fs) → fs.length + rq β t pos ≤ 4096 → pS N a2 β (C * nS β t + 2) (fun γ => tT K γ ∧ ch [] [1, 2, 3, 20] β γ ∧ γ.2.1 20 = flat3 fs)
theorem nb_is {γ : kS} {k : Nat} {pos : Int32} (hk : k ≤ 9) (hp : pos = 0 ∨ pos = 1 ∨ pos = 2) : (f_Pri_needsBrackets (nI k) pos γ = 0 ↔ ¬ (pos = 2 ∧ 5 ≤ k ∨ pos = 1 ∧ 6 ≤ k)) := by
  have : k = 0 ∨ k = 1 ∨ k = 2 ∨ k = 3 ∨ k = 4 ∨ k = 5 ∨ k = 6 ∨ k = 7 ∨ k = 8 ∨ k = 9 := by omega
  unfold f_Pri_needsBrackets f_Pri_needsBrackets_j10
  rcases this with rfl | rfl | rfl | rfl | rfl | rfl | rfl | rfl | rfl | rfl <;> rcases hp with rfl | rfl | rfl <;> decide
end PRINTER
