-- the shape of a TERM: what rewriting of leaves keeps
def lfN (α : kS) (i : Nat) : Nat := (tLf α i).toNatClampNeg
def rtN (α : kS) (i : Nat) : Nat := (tRt α i).toNatClampNeg
theorem partsN {α : kS} (hO : kOk α) (hW : tWf α) {j : Nat} (hj : j < tn α) (h5 : 5 ≤ nK α j) : tLf α j = nI (lfN α j) ∧ tRt α j = nI (rtN α j) ∧ lfN α j < j ∧ rtN α j < j ∧ nK α (lfN α j) ≠ 9 ∧ (nK α (rtN α j) = 9 ↔ nK α j = 8) ∧ nS α j = nS α (lfN α j) + nS α (rtN α j) + (if nK α j = 9 then 0 else 1) ∧ nD α j = (if nK α j = 5 then max (nD α (lfN α j)) (nD α (rtN α j) + 1) else if nK α j = 9 then max (nD α (lfN α j)) (nD α (rtN α j)) else max (nD α (lfN α j)) (nD α (rtN α j)) + 1) := by
  obtain ⟨-, h1, -⟩ := hO.n
  obtain ⟨l, r, e1, e2, hl, hr, h⟩ := parts hW hj h5
  have q1 : lfN α j = l := by unfold lfN; rw [e1, nI_clamp (by omega)]
  have q2 : rtN α j = r := by unfold rtN; rw [e2, nI_clamp (by omega)]
  rw [q1, q2]
  exact ⟨e1, e2, hl, hr, h⟩
def Sh (α : kS) : Nat → Nat → Nat → Prop
  | 0, _, _ => False
  | n + 1, t, v => (nK α t < 5 ∧ nK α v < 5 ∧ (nK α t = 3 ∨ nK α v = 3 → nK α t = nK α v ∧ tLf α t = tLf α v)) ∨ (5 ≤ nK α t ∧ nK α v = nK α t ∧ Sh α n (lfN α t) (lfN α v) ∧ Sh α n (rtN α t) (rtN α v))
/-- the same shape: leaves may differ, but for CONSTANTS -/
def sh (α : kS) (t v : Nat) : Prop := ∃ n, Sh α n t v
theorem Sh_le {α : kS} : ∀ (n m t v : Nat), Sh α n t v → n ≤ m → Sh α m t v
  | 0, _, _, _, h, _ => h.elim
  | n + 1, 0, _, _, _, h => absurd h (by omega)
  | n + 1, m + 1, t, v, h, hm => by
    rcases h with h | ⟨h1, h2, h3, h4⟩
    · exact Or.inl h
    · exact Or.inr ⟨h1, h2, Sh_le n m _ _ h3 (by omega), Sh_le n m _ _ h4 (by omega)⟩
theorem sh.nd {α : kS} {t v : Nat} (h5 : 5 ≤ nK α t) (e : nK α v = nK α t) (hl : sh α (lfN α t) (lfN α v)) (hr : sh α (rtN α t) (rtN α v)) : sh α t v := by
  obtain ⟨n, hn⟩ := hl
  obtain ⟨m, hm⟩ := hr
  exact ⟨n + m + 1, Or.inr ⟨h5, e, Sh_le _ _ _ _ hn (by omega), Sh_le _ _ _ _ hm (by omega)⟩⟩
theorem sh.lf {α : kS} {t v : Nat} (h1 : nK α t < 5) (h2 : nK α v < 5) (h : nK α t = 3 ∨ nK α v = 3 → nK α t = nK α v ∧ tLf α t = tLf α v) : sh α t v := ⟨1, Or.inl ⟨h1, h2, h⟩⟩
theorem sh.rf {α : kS} (hO : kOk α) (hW : tWf α) : ∀ t, t < tn α → sh α t t := by
  intro t
  induction t using Nat.strongRecOn with
  | ind t ih =>
    intro ht
    rcases Nat.lt_or_ge (nK α t) 5 with h | h
    · exact sh.lf h h fun _ => ⟨rfl, rfl⟩
    · obtain ⟨-, -, hl, hr, -⟩ := partsN hO hW ht h
      exact sh.nd h rfl (ih _ hl (by omega)) (ih _ hr (by omega))
theorem sh.kd {α : kS} {t v : Nat} (h : sh α t v) : (nK α t < 5 ∧ nK α v < 5) ∨ (5 ≤ nK α t ∧ nK α v = nK α t ∧ sh α (lfN α t) (lfN α v) ∧ sh α (rtN α t) (rtN α v)) := by
  obtain ⟨n, h⟩ := h
  cases n with
  | zero => exact h.elim
  | succ n =>
    rcases h with h | ⟨h1, h2, h3, h4⟩
    · exact Or.inl ⟨h.1, h.2.1⟩
    · exact Or.inr ⟨h1, h2, ⟨n, h3⟩, n, h4⟩
theorem Sh_tr {α : kS} : ∀ (n t v w : Nat), Sh α n t v → Sh α n v w → Sh α n t w
  | 0, _, _, _, h, _ => h.elim
  | n + 1, t, v, w, h, h' => by
    rcases h with ⟨a1, a2, a3⟩ | ⟨h1, h2, h3, h4⟩
    · rcases h' with ⟨b1, b2, b3⟩ | ⟨g1, g2, g3, g4⟩
      · refine Or.inl ⟨a1, b2, fun z => ?_⟩
        rcases z with z | z
        · obtain ⟨c1, c2⟩ := a3 (Or.inl z)
          obtain ⟨d1, d2⟩ := b3 (Or.inl (by omega))
          exact ⟨c1.trans d1, c2.trans d2⟩
        · obtain ⟨d1, d2⟩ := b3 (Or.inr z)
          obtain ⟨c1, c2⟩ := a3 (Or.inr (by omega))
          exact ⟨c1.trans d1, c2.trans d2⟩
      · omega
    · rcases h' with ⟨b1, b2, b3⟩ | ⟨g1, g2, g3, g4⟩
      · omega
      · exact Or.inr ⟨h1, by omega, Sh_tr n _ _ _ h3 g3, Sh_tr n _ _ _ h4 g4⟩
theorem sh.tr {α : kS} {t v w : Nat} (h : sh α t v) (h' : sh α v w) : sh α t w := by
  obtain ⟨n, hn⟩ := h
  obtain ⟨m, hm⟩ := h'
  exact ⟨n + m, Sh_tr _ _ _ _ (Sh_le _ _ _ _ hn (by omega)) (Sh_le _ _ _ _ hm (by omega))⟩
theorem g_lf {α β : kS} (h : grw α β) {i : Nat} (hi : i < tn α) : lfN β i = lfN α i ∧ rtN β i = rtN α i := by
  obtain ⟨-, -, -, -, a, b⟩ := g_n h hi
  unfold lfN rtN
  rw [a, b]
  exact ⟨rfl, rfl⟩
theorem Sh_g {α β : kS} (hO : kOk α) (hW : tWf α) (hg : grw α β) : ∀ (n t v : Nat), t < tn α → v < tn α → Sh α n t v → Sh β n t v
  | 0, _, _, _, _, h => h.elim
  | n + 1, t, v, ht, hv, h => by
    obtain ⟨k1, -, -, -, l1, -⟩ := g_n hg ht
    obtain ⟨k2, -, -, -, l2, -⟩ := g_n hg hv
    obtain ⟨p1, p2⟩ := g_lf hg ht
    obtain ⟨p3, p4⟩ := g_lf hg hv
    unfold Sh
    rw [k1, k2, l1, l2, p1, p2, p3, p4]
    rcases h with h | ⟨h1, h2, h3, h4⟩
    · exact Or.inl h
    · obtain ⟨-, -, a1, a2, -⟩ := partsN hO hW ht h1
      obtain ⟨-, -, b1, b2, -⟩ := partsN hO hW hv (by omega)
      exact Or.inr ⟨h1, h2, Sh_g hO hW hg n _ _ (by omega) (by omega) h3, Sh_g hO hW hg n _ _ (by omega) (by omega) h4⟩
theorem sh.g {α β : kS} (hO : kOk α) (hW : tWf α) (hg : grw α β) {t v : Nat} (ht : t < tn α) (hv : v < tn α) (h : sh α t v) : sh β t v := by
  obtain ⟨n, h⟩ := h
  exact ⟨n, Sh_g hO hW hg n t v ht hv h⟩
theorem Sh_dp {α : kS} (hO : kOk α) (hW : tWf α) : ∀ (n t v : Nat), t < tn α → v < tn α → Sh α n t v → nD α v = nD α t
  | 0, _, _, _, _, h => h.elim
  | n + 1, t, v, ht, hv, h => by
    rcases h with h | ⟨h1, h2, h3, h4⟩
    · rw [((hW t ht).2.2.2.1 h.1).2, ((hW v hv).2.2.2.1 h.2.1).2]
    · obtain ⟨-, -, a1, a2, -, -, -, a3⟩ := partsN hO hW ht h1
      obtain ⟨-, -, b1, b2, -, -, -, b3⟩ := partsN hO hW hv (by omega)
      rw [a3, b3, h2, Sh_dp hO hW n _ _ (by omega) (by omega) h3, Sh_dp hO hW n _ _ (by omega) (by omega) h4]
theorem sh.dp {α : kS} (hO : kOk α) (hW : tWf α) {t v : Nat} (ht : t < tn α) (hv : v < tn α) (h : sh α t v) : nD α v = nD α t := by
  obtain ⟨n, h⟩ := h
  exact Sh_dp hO hW n t v ht hv h
