-- the PI of a TERM and its end
def pc (α : kS) : Nat → List Nat → Nat → Prop
  | t, [], e => e = t ∧ nK α t ≠ 6
  | t, d :: l, e => nK α t = 6 ∧ lfN α t = d ∧ pc α (rtN α t) l e
section PC
variable {α β : kS}
theorem pc_ex (hO : kOk α) (hW : tWf α) : ∀ t, t < tn α → ∃ l e, pc α t l e := by
  intro t
  induction t using Nat.strongRecOn with
  | ind t ih =>
    intro ht
    by_cases h : nK α t = 6
    · obtain ⟨-, -, hl, hr, -⟩ := partsN hO hW ht (by omega)
      obtain ⟨l, e, q⟩ := ih _ hr (by omega)
      exact ⟨lfN α t :: l, e, h, rfl, q⟩
    · exact ⟨[], t, rfl, h⟩
/-- how deep, how far, of what kind -/
theorem pc_in (hO : kOk α) (hW : tWf α) : ∀ (l : List Nat) (t e : Nat), t < tn α → pc α t l e → e ≤ t ∧ l.length + nD α e ≤ nD α t ∧ (nK α t ≠ 9 → nK α e ≠ 9) ∧ nK α e ≠ 6 ∧ ∀ d, d ∈ l → d < t ∧ nK α d ≠ 9
  | [], t, e, _, h => by
    obtain ⟨rfl, h6⟩ := h
    exact ⟨Nat.le_refl _, by show 0 + _ ≤ _; omega, fun q => q, h6, fun d hd => by cases hd⟩
  | d :: l, t, e, ht, h => by
    obtain ⟨h6, rfl, h⟩ := h
    obtain ⟨-, -, hl, hr, h9, h8, -, hd⟩ := partsN hO hW ht (by omega)
    obtain ⟨a1, a2, a3, a4, a5⟩ := pc_in hO hW l (rtN α t) e (by omega) h
    rw [if_neg (by omega), if_neg (by omega)] at hd
    refine ⟨by omega, by show l.length + 1 + _ ≤ _; omega, fun _ => a3 (fun q => by have := h8.mp q; omega), a4, fun d' hd' => ?_⟩
    rcases List.mem_cons.mp hd' with rfl | hd'
    · exact ⟨hl, h9⟩
    · obtain ⟨b1, b2⟩ := a5 d' hd'
      exact ⟨by omega, b2⟩
theorem pc_g (hO : kOk α) (hW : tWf α) (hg : grw α β) : ∀ (l : List Nat) (t e : Nat), t < tn α → (pc β t l e ↔ pc α t l e)
  | [], t, e, ht => by
    unfold pc
    rw [(g_n hg ht).1]
  | d :: l, t, e, ht => by
    unfold pc
    rw [(g_n hg ht).1, (g_lf hg ht).1, (g_lf hg ht).2]
    by_cases h6 : nK α t = 6
    · obtain ⟨-, -, hl, hr, -⟩ := partsN hO hW ht (by omega)
      rw [pc_g hO hW hg l _ e (by omega)]
    · exact ⟨fun q => absurd q.1 h6, fun q => absurd q.1 h6⟩
theorem aP_gi (hO : kOk α) (hW : tWf α) (hO' : kOk β) (hg : grw α β) : ∀ (k t : Nat), t < tn α → (aP β k (nI t) ↔ aP α k (nI t))
  | 0, _, _ => Iff.rfl
  | k + 1, t, ht => by
    show (f_Terms_kind (nI t) β = 5 ∧ aP β k (f_Terms_left (nI t) β)) ↔ (f_Terms_kind (nI t) α = 5 ∧ aP α k (f_Terms_left (nI t) α))
    rw [kd_g hO hO' hg ht, lf_g hO hO' hg ht]
    by_cases h5 : f_Terms_kind (nI t) α = 5
    · have k5 : nK α t = 5 := kd_is hO ht (k := 5) (by decide) h5
      obtain ⟨e1, -, hl, -⟩ := partsN hO hW ht (by omega)
      rw [lf_in hO ht, e1, aP_gi hO hW hO' hg k _ (by omega)]
    · exact ⟨fun q => absurd q.1 h5, fun q => absurd q.1 h5⟩
theorem sh_aP (hO : kOk α) (hW : tWf α) : ∀ (k t v : Nat), t < tn α → v < tn α → sh α t v → aP α k (nI t) → aP α k (nI v)
  | 0, _, _, _, _, _, _ => trivial
  | k + 1, t, v, ht, hv, h, ha => by
    have k5 : nK α t = 5 := kd_is hO ht (k := 5) (by decide) ha.1
    rcases h.kd with q | ⟨q1, q2, q3, q4⟩
    · omega
    · obtain ⟨e1, -, hl, -⟩ := partsN hO hW ht (by omega)
      obtain ⟨e2, -, hl2, -⟩ := partsN hO hW hv (by omega)
      have h2 := ha.2
      rw [lf_in hO ht, e1] at h2
      refine ⟨by rw [kd_at hO hv, q2, k5]; rfl, ?_⟩
      rw [lf_in hO hv, e2]
      exact sh_aP hO hW k _ _ (by omega) (by omega) q3 h2
theorem sh.sm {t v : Nat} (h : sh α t v) : sh α v t := by
  obtain ⟨n, h⟩ := h
  refine ⟨n, ?_⟩
  revert t v
  induction n with
  | zero => intro t v h; exact h
  | succ n ih =>
    intro t v h
    rcases h with ⟨a, b, c⟩ | ⟨a, b, c, d⟩
    · exact Or.inl ⟨b, a, fun q => by
        obtain ⟨x, y⟩ := c (q.elim Or.inr Or.inl)
        exact ⟨x.symm, y.symm⟩⟩
    · exact Or.inr ⟨by omega, b.symm, ih c, ih d⟩
/-- a TERM of the same shape has PI of the same shapes -/
theorem sh_pc (hO : kOk α) (hW : tWf α) : ∀ (l : List Nat) (t v e : Nat), t < tn α → v < tn α → sh α t v → pc α t l e → ∃ l' e', pc α v l' e' ∧ sh α e e' ∧ l'.length = l.length ∧ ∀ d', d' ∈ l' → ∃ d, d ∈ l ∧ sh α d d'
  | [], t, v, e, ht, hv, h, hp => by
    obtain ⟨rfl, h6⟩ := hp
    refine ⟨[], v, ⟨rfl, fun q => ?_⟩, h, rfl, fun d hd => by cases hd⟩
    rcases h.kd with z | ⟨-, z, -⟩
    · omega
    · omega
  | d :: l, t, v, e, ht, hv, h, hp => by
    obtain ⟨h6, rfl, hp⟩ := hp
    rcases h.kd with z | ⟨z1, z2, z3, z4⟩
    · omega
    · obtain ⟨-, -, hl, hr, -⟩ := partsN hO hW ht (by omega)
      obtain ⟨-, -, hl2, hr2, -⟩ := partsN hO hW hv (by omega)
      obtain ⟨l', e', q1, q2, q3, q4⟩ := sh_pc hO hW l _ _ e (by omega) (by omega) z4 hp
      refine ⟨lfN α v :: l', e', ⟨by omega, rfl, q1⟩, q2, by show l'.length + 1 = l.length + 1; omega, fun d' hd' => ?_⟩
      rcases List.mem_cons.mp hd' with rfl | hd'
      · exact ⟨_, List.mem_cons_self, z3⟩
      · obtain ⟨d, y1, y2⟩ := q4 d' hd'
        exact ⟨d, List.mem_cons_of_mem _ y1, y2⟩
theorem pc_un : ∀ (l l' : List Nat) (t e e' : Nat), pc α t l e → pc α t l' e' → l' = l ∧ e' = e
  | [], [], t, e, e', h, h' => ⟨rfl, h'.1.trans h.1.symm⟩
  | [], _ :: _, t, e, e', h, h' => absurd h'.1 h.2
  | _ :: _, [], t, e, e', h, h' => absurd h.1 h'.2
  | d :: l, d' :: l', t, e, e', h, h' => by
    obtain ⟨a, b⟩ := pc_un l l' _ e e' h.2.2 h'.2.2
    rw [a, b, ← h.2.1, ← h'.2.1]
    exact ⟨rfl, rfl⟩
end PC
/-- it ends in k TERMS behind a head -/
def eN (α : kS) (k t : Nat) : Prop := ∃ l e, pc α t l e ∧ aP α k (nI e)
/-- a CONSTRUCTOR's TERM that was tested: so does it, and so do the ARGUMENTS that name f -/
def GM (α : kS) (f : Int32) (k t : Nat) : Prop := ∃ l e, pc α t l e ∧ aP α k (nI e) ∧ ∀ d, d ∈ l → hc α f d → eN α k d
section GM
variable {α β : kS} {f : Int32} {k t v : Nat}
theorem eN_g (hO : kOk α) (hW : tWf α) (hO' : kOk β) (hg : grw α β) (ht : t < tn α) : eN β k t ↔ eN α k t := by
  constructor
  · rintro ⟨l, e, q1, q2⟩
    have q1 := (pc_g hO hW hg l t e ht).mp q1
    have he := (pc_in hO hW l t e ht q1).1
    exact ⟨l, e, q1, (aP_gi hO hW hO' hg k e (by omega)).mp q2⟩
  · rintro ⟨l, e, q1, q2⟩
    have he := (pc_in hO hW l t e ht q1).1
    exact ⟨l, e, (pc_g hO hW hg l t e ht).mpr q1, (aP_gi hO hW hO' hg k e (by omega)).mpr q2⟩
theorem GM_g (hO : kOk α) (hW : tWf α) (hO' : kOk β) (hg : grw α β) (ht : t < tn α) : GM β f k t ↔ GM α f k t := by
  constructor
  · rintro ⟨l, e, q1, q2, q3⟩
    have q1 := (pc_g hO hW hg l t e ht).mp q1
    obtain ⟨he, -, -, -, hd⟩ := pc_in hO hW l t e ht q1
    refine ⟨l, e, q1, (aP_gi hO hW hO' hg k e (by omega)).mp q2, fun d h1 h2 => ?_⟩
    have := (hd d h1).1
    exact (eN_g hO hW hO' hg (by omega)).mp (q3 d h1 ((hc_g hO hW hg d (by omega)).mpr h2))
  · rintro ⟨l, e, q1, q2, q3⟩
    obtain ⟨he, -, -, -, hd⟩ := pc_in hO hW l t e ht q1
    refine ⟨l, e, (pc_g hO hW hg l t e ht).mpr q1, (aP_gi hO hW hO' hg k e (by omega)).mpr q2, fun d h1 h2 => ?_⟩
    have := (hd d h1).1
    exact (eN_g hO hW hO' hg (by omega)).mpr (q3 d h1 ((hc_g hO hW hg d (by omega)).mp h2))
theorem eN_sh (hO : kOk α) (hW : tWf α) (ht : t < tn α) (hv : v < tn α) (h : sh α t v) (hq : eN α k t) : eN α k v := by
  obtain ⟨l, e, q1, q2⟩ := hq
  obtain ⟨l', e', y1, y2, -⟩ := sh_pc hO hW l t v e ht hv h q1
  have a := (pc_in hO hW l t e ht q1).1
  have b := (pc_in hO hW l' v e' hv y1).1
  exact ⟨l', e', y1, sh_aP hO hW k e e' (by omega) (by omega) y2 q2⟩
theorem GM_sh (hO : kOk α) (hW : tWf α) (ht : t < tn α) (hv : v < tn α) (h : sh α t v) (hq : GM α f k t) : GM α f k v := by
  obtain ⟨l, e, q1, q2, q3⟩ := hq
  obtain ⟨l', e', y1, y2, -, y4⟩ := sh_pc hO hW l t v e ht hv h q1
  obtain ⟨a, -, -, -, ad⟩ := pc_in hO hW l t e ht q1
  obtain ⟨b, -, -, -, bd⟩ := pc_in hO hW l' v e' hv y1
  refine ⟨l', e', y1, sh_aP hO hW k e e' (by omega) (by omega) y2 q2, fun d' h1 h2 => ?_⟩
  obtain ⟨d, z1, z2⟩ := y4 d' h1
  have := (ad d z1).1
  have := (bd d' h1).1
  exact eN_sh hO hW (by omega) (by omega) z2 (q3 d z1 ((z2.hc).mpr h2))
end GM
