-- CONSTANTS: their facts
section ROWS
variable {K : Nat} {α : kS} {r i : Nat}
theorem at_e (h : tT K α) (hr : r < 21) (hi : i < 2 ^ 31) : fR_at α r (nI i) = (α.2.1 r).getD i 0 := by
  have h1 := row_sm h hr
  unfold fR_at
  by_cases q : i < (α.2.1 r).length
  · rw [if_neg (fun z => z.elim (nI_pos (by omega)) (nI_ge q (by omega))), nI_clamp (by omega)]
  · rw [if_pos (Or.inr (nI_le (by omega) (by omega))), List.getD_eq_getElem?_getD, List.getElem?_eq_none (by omega)]; rfl
theorem put_e (h : tT K α) (hr : r < 21) (hi : i < (α.2.1 r).length) (v : Int32) : fR_put α r (nI i) v = kSl α r ((α.2.1 r).set i v) := by
  have h1 := row_sm h hr
  unfold fR_put
  rw [if_neg (fun z => z.elim (nI_pos (by omega)) (nI_ge hi (by omega))), nI_clamp (by omega)]
end ROWS
def fc (α : kS) (k w : Nat) : Int32 := (α.2.1 5).getD (12 * k + w) 0
section FACT
variable {K : Nat} {α : kS} {k w c : Nat}
theorem fact_e (h : tT K α) (hk : k < 2 ^ 26) (hw : w < 12) : f_Env_fact (nI k) (nI w) α = fc α k w := by
  unfold f_Env_fact
  rw [show nI k * 12 = nI (k * 12) from pk_mul k 12, nI_add, at_e h (by decide) (by omega)]
  unfold fc
  rw [Nat.mul_comm]
theorem fact_l (h : tT K α) (hk : k < 2 ^ 26) (hw : w < 12) (x : Int32) (hx : x = nI w) : f_Env_fact (nI k) x α = fc α k w := by
  rw [hx]; exact fact_e h hk hw
theorem fix_e (h : tT K α) (hk : 12 * k + w < (α.2.1 5).length) (v : Int32) : f_Env_fix (nI k) (nI w) v α = kSl α 5 ((α.2.1 5).set (12 * k + w) v) := by
  unfold f_Env_fix
  rw [show nI k * 12 = nI (k * 12) from pk_mul k 12, nI_add, show k * 12 + w = 12 * k + w by omega, put_e h (by decide) hk]
theorem len_e (h : tT K α) (hl : (α.2.1 5).length = 12 * c) : f_Env_length α = nI c := by
  have h1 := row_sm h (r := 5) (by decide)
  unfold f_Env_length fR_size
  rw [show nI (α.2.1 5).length / 12 = nI ((α.2.1 5).length / 12) from pk_div (by omega) (by decide) (by decide), hl]
  congr 1
  omega
end FACT
/-- a TERM below m -/
def vM (α : kS) (m : Nat) (p : Int32) : Prop := ∃ j, p = nI j ∧ j < m ∧ nK α j ≠ 9
theorem vM.g {α β : kS} {m : Nat} {p : Int32} (hm : m ≤ tn α) (hg : grw α β) (h : vM α m p) : vM β m p := by
  obtain ⟨j, e, h1, h2⟩ := h
  exact ⟨j, e, h1, by rw [(g_n hg (by omega)).1]; exact h2⟩
theorem vM.q {α : kS} {m : Nat} {p : Int32} (hm : m ≤ tn α) (h : vM α m p) : qP α p := by
  obtain ⟨j, e, h1, h2⟩ := h
  exact ⟨j, e, by omega, h2⟩
theorem vM.up {α : kS} {m n : Nat} {p : Int32} (hm : m ≤ n) (h : vM α m p) : vM α n p := by
  obtain ⟨j, e, h1, h2⟩ := h
  exact ⟨j, e, by omega, h2⟩
/-- the facts of the k-th CONSTANT are in order; kn: it may be named already -/
def eF (α : kS) (m : Nat) (kn : Prop) (k : Nat) : Prop := (∃ s : Nat, fc α k 11 / 32 = nI s ∧ s ≤ 31 * k) ∧ (∃ a b d e : Nat, fc α k 3 = nI a ∧ fc α k 4 = nI b ∧ fc α k 5 = nI d ∧ fc α k 6 = nI e ∧ a ≤ 4096 ∧ b ≤ 4096 ∧ d ≤ 4096 ∧ e ≤ 256) ∧ (∃ o, fc α k 8 = nI o ∧ o ≤ k) ∧ (fc α k 10 = 0 ∨ vM α m (fc α k 10)) ∧ (fc α k 2 = -1 ∨ vM α m (fc α k 2)) ∧ (kn → vM α m (fc α k 1) ∧ (fc α k 0 = 1 → vM α m (fc α k 2)))
/-- c CONSTANTS, of which the first K may be named, with their TERMS below m -/
def eI (c K m : Nat) (α : kS) : Prop := (α.2.1 5).length = 12 * c ∧ c ≤ 300 ∧ K ≤ c ∧ m ≤ tn α ∧ (α.2.1 6).length ≤ 31 * c ∧ ∀ k, k < c → eF α m (k < K) k
theorem eF.g {α β : kS} {m k : Nat} {kn : Prop} (hm : m ≤ tn α) (hg : grw α β) (he : ∀ w, w < 12 → fc β k w = fc α k w) (h : eF α m kn k) : eF β m kn k := by
  obtain ⟨a, b, b', c, d, e⟩ := h
  unfold eF
  rw [he 11 (by decide), he 3 (by decide), he 4 (by decide), he 5 (by decide), he 6 (by decide), he 8 (by decide), he 10 (by decide), he 2 (by decide), he 1 (by decide), he 0 (by decide)]
  exact ⟨a, b, b', c.imp id (vM.g hm hg), d.imp id (vM.g hm hg), fun z => ⟨(e z).1.g hm hg, fun y => ((e z).2 y).g hm hg⟩⟩
theorem eI.ch {c K m : Nat} {α β : kS} {I R : List Nat} (h : eI c K m α) (hc : ch I R α β) (h5 : 5 ∉ R) (h6 : 6 ∉ R) : eI c K m β := by
  obtain ⟨a1, a2, a3, a4, a5, a6⟩ := h
  have e5 := hc.row (by decide) h5
  have e6 := hc.row (by decide) h6
  refine ⟨by rw [e5]; exact a1, a2, a3, Nat.le_trans a4 hc.2.2.1, by rw [e6]; exact a5, fun k hk => (a6 k hk).g a4 hc.2.2 fun w _ => ?_⟩
  unfold fc
  rw [e5]
/-- the first TERM is a leaf -/
theorem zero_leaf {α : kS} (hW : tWf α) (h : 0 < tn α) : qT α 0 := by
  refine ⟨h, fun z => ?_⟩
  obtain ⟨l, r, -, -, hl, -⟩ := parts hW h (by omega)
  omega
section NAMED
variable {K c m k : Nat} {α : kS}
theorem type_v (h : tT K α) (he : eI c K m α) (hk : k < K) : qP α (f_Env_fact (nI k) 1 α) := by
  have h1 := he.2.1
  have h2 := he.2.2.1
  rw [fact_l (k := k) (w := 1) h (by omega) (by decide) 1 rfl]
  exact ((he.2.2.2.2.2 k (by omega)).2.2.2.2.2 hk).1.q he.2.2.2.1
theorem value_v (h : tT K α) (he : eI c K m α) (hk : k < K) (hd : f_Env_fact (nI k) 0 α = 1) : qP α (f_Env_fact (nI k) 2 α) := by
  have h1 := he.2.1
  have h2 := he.2.2.1
  rw [fact_l (k := k) (w := 0) h (by omega) (by decide) 0 rfl] at hd
  rw [fact_l (k := k) (w := 2) h (by omega) (by decide) 2 rfl]
  exact (((he.2.2.2.2.2 k (by omega)).2.2.2.2.2 hk).2 hd).q he.2.2.2.1
theorem elim_v (h : tT K α) (he : eI c K m α) (hk : k < c) (ht : 0 < tn α) : qP α (f_Env_fact (nI k) 10 α) := by
  have h1 := he.2.1
  rw [fact_l (k := k) (w := 10) h (by omega) (by decide) 10 rfl]
  rcases (he.2.2.2.2.2 k hk).2.2.2.1 with z | z
  · rw [z]
    exact ⟨0, rfl, zero_leaf h.2.1 ht⟩
  · exact z.q he.2.2.2.1
theorem counts_v (h : tT K α) (he : eI c K m α) (hk : k < c) : ∃ a b d e : Nat, f_Env_fact (nI k) 3 α = nI a ∧ f_Env_fact (nI k) 4 α = nI b ∧ f_Env_fact (nI k) 5 α = nI d ∧ f_Env_fact (nI k) 6 α = nI e ∧ a ≤ 4096 ∧ b ≤ 4096 ∧ d ≤ 4096 ∧ e ≤ 256 := by
  have h1 := he.2.1
  rw [fact_l (k := k) (w := 3) h (by omega) (by decide) 3 rfl, fact_l (k := k) (w := 4) h (by omega) (by decide) 4 rfl, fact_l (k := k) (w := 5) h (by omega) (by decide) 5 rfl, fact_l (k := k) (w := 6) h (by omega) (by decide) 6 rfl]
  exact (he.2.2.2.2.2 k hk).2.1
theorem owner_v (h : tT K α) (he : eI c K m α) (hk : k < c) : ∃ o, f_Env_fact (nI k) 8 α = nI o ∧ o ≤ k := by
  have h1 := he.2.1
  rw [fact_l (k := k) (w := 8) h (by omega) (by decide) 8 rfl]
  exact (he.2.2.2.2.2 k hk).2.2.1
/-- the CONSTANT in a leaf -/
theorem const_v (h : tT K α) {j : Nat} (hj : j < tn α) (h3 : nK α j = 3 ∨ nK α j = 4) : ∃ k, f_Terms_left (nI j) α = nI k ∧ k < K := by
  rw [lf_in h.1.1 hj]
  exact h.2.2 j hj h3
end NAMED
