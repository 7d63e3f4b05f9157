-- Lexer: words
theorem opt_ite {β : Type} {P : β → Prop} {c : Prop} [Decidable c] {a b : Option β} (ha : c → ∃ v, a = some v ∧ P v) (hb : ¬ c → ∃ v, b = some v ∧ P v) : ∃ v, (if c then a else b) = some v ∧ P v := by
  by_cases h : c
  · rw [if_pos h]; exact ha h
  · rw [if_neg h]; exact hb h
theorem opt_bind {β γ : Type} {P : β → Prop} {Q : γ → Prop} {f : Option β} {k : β → Option γ} (hf : ∃ v, f = some v ∧ P v) (hk : ∀ v, P v → ∃ w, k v = some w ∧ Q w) : ∃ w, f.bind k = some w ∧ Q w := by
  obtain ⟨v, rfl, h⟩ := hf
  exact hk v h
theorem reads_go {N r : Nat} {α : kS} (hr : r < 51) (hl : α.1 12 = sLn r) : ∀ (d i n : Nat) (x2 : Int32), i + d = sLen.getD r 0 → d < n → ∃ v, f_Lex_reads_19 N r α n (nI i) x2 = some v ∧ True := by
  have hL := (sLn_ok r hr).1
  intro d
  induction d with
  | zero =>
    intro i n x2 h hn
    obtain ⟨n, rfl⟩ : ∃ n', n = n' + 1 := ⟨n - 1, by omega⟩
    rw [f_Lex_reads_19]
    refine opt_ite (fun _ => ⟨_, rfl, trivial⟩) (fun _ => ?_)
    rw [if_pos (by rw [hl]; exact nI_le (by omega) (by omega))]
    exact ⟨_, rfl, trivial⟩
  | succ d ih =>
    intro i n x2 h hn
    obtain ⟨n, rfl⟩ : ∃ n', n = n' + 1 := ⟨n - 1, by omega⟩
    rw [f_Lex_reads_19]
    refine opt_ite (fun _ => ⟨_, rfl, trivial⟩) (fun _ => opt_ite (fun _ => ⟨_, rfl, trivial⟩) (fun _ => ?_))
    have hc : sCh r (nI i) = some ((sByt.getD r []).getD (nI i).toNatClampNeg 0) := by
      unfold sCh
      rw [if_neg]
      rintro (z | z)
      · exact nI_pos (by omega) z
      · rw [nI_clamp (by omega)] at z; omega
    rw [hc]
    rw [Option.bind_some, nI_1]
    exact opt_ite (fun _ => ih (i + 1) n 1 (by omega) (by omega)) (fun _ => ih (i + 1) n 0 (by omega) (by omega))
theorem sLen_sm : ∀ r, r < 51 → sLen.getD r 0 < 32 := by decide +kernel
theorem reads_ok {N r : Nat} {α : kS} (hN : 64 ≤ N) (hr : r < 51) : ∃ v, f_Lex_reads N r α = some v ∧ True := by
  unfold f_Lex_reads
  have h9 := sLen_sm r hr
  refine opt_ite (fun c => reads_go hr c.symm (sLen.getD r 0) 0 N 1 (by omega) (by omega)) (fun _ => ?_)
  obtain ⟨n, rfl⟩ : ∃ n', N = n' + 1 := ⟨N - 1, by omega⟩
  rw [f_Lex_reads_19, if_pos rfl]
  exact ⟨_, rfl, trivial⟩
/-- a kind of token -/
def kd32 (v : Int32) : Prop := ¬ v < 0 ∧ v < 32
theorem kd_lit {v : Int32} (h : (decide (v < 0) || !decide (v < 32)) = false) : ∃ w, some v = some w ∧ kd32 w := by
  simp only [Bool.or_eq_false_iff, decide_eq_false_iff_not, Bool.not_eq_false', decide_eq_true_eq] at h
  exact ⟨v, rfl, h⟩
theorem wordKind_ok {N : Nat} {α : kS} (hN : 64 ≤ N) : ∃ v, f_Lex_wordKind N α = some v ∧ kd32 v := by
  unfold f_Lex_wordKind
  repeat' (first
    | refine opt_ite (fun _ => ?_) (fun _ => ?_)
    | refine opt_bind (reads_ok hN (by decide)) (fun _ _ => ?_)
    | exact kd_lit rfl)
