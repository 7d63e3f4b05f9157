-- the other calls
section CALLS
variable {N c : Nat} {α : kS}
theorem nf_fr (hO : kOk α) (hW : tWf α) (h : nf α) : ∀ (n t : Nat), t < tn α → ¬ Fr α n t
  | 0, _, _ => fun z => z
  | n + 1, t, ht => fun z => by
    unfold Fr at z
    rcases z with z | ⟨h5, z⟩
    · exact h t ht z
    · obtain ⟨-, -, hl, hr, -⟩ := partsN hO hW ht h5
      exact z.elim (nf_fr hO hW h n _ (by omega)) (nf_fr hO hW h n _ (by omega))
theorem nf.fr (hT : tT c α) (h : nf α) {t : Nat} (ht : t < tn α) : ¬ fr α t := fun ⟨n, z⟩ => nf_fr hT.1.1 hT.2.1 h n t ht z
theorem take_go {K : Nat} {a : Int32} : ∀ (j n : Nat) (β : kS), tT K β → j ≤ 4 → j < n → (β.2.1 0).length + j ≤ 16384 → ∃ γ, f_Ker_takeBytes_3 N n (nI (8 * j) + (-8)) a β = some (some none, γ) ∧ tT K γ ∧ ch [] [0] β γ ∧ sT β γ ∧ (γ.2.1 0).length = (β.2.1 0).length + j
  | 0, n, β, h, hj, hn, hl => by
    obtain ⟨n, rfl⟩ : ∃ n', n = n' + 1 := ⟨n - 1, by omega⟩
    rw [f_Ker_takeBytes_3, if_pos (by decide)]
    exact ⟨β, rfl, h, ch.rf, ⟨rfl, rfl⟩, rfl⟩
  | j + 1, n, β, h, hj, hn, hl => by
    obtain ⟨n, rfl⟩ : ∃ n', n = n' + 1 := ⟨n - 1, by omega⟩
    have e : nI (8 * (j + 1)) + (-8) = nI (8 * j) := by
      have : j = 0 ∨ j = 1 ∨ j = 2 ∨ j = 3 := by omega
      rcases this with y | y | y | y <;> subst y <;> decide
    rw [f_Ker_takeBytes_3, e, if_neg (nI_pos (by omega))]
    obtain ⟨M1, e1, g1⟩ := push_t (r := 0) (((a.toUInt32 >>> ((nI (8 * j)).toUInt32 &&& Int32.toUInt32 31)).toInt32) &&& 255) h (by decide) (by rw [show kMx 0 = 16384 by decide]; omega)
    rw [e1, kBv_s]
    obtain ⟨γ, e2, t2, c2, s2, l2⟩ := take_go (a := a) j n _ g1 (by omega) (by omega) (by show (β.2.1 0 ++ [_]).length + j ≤ _; rw [List.length_append]; show _ + 1 + j ≤ _; omega)
    refine ⟨γ, e2, t2, (ch.rs (by decide)).tr c2, ⟨s2.1, s2.2⟩, ?_⟩
    rw [l2]
    show (β.2.1 0 ++ [_]).length + j = _
    rw [List.length_append]
    show _ + 1 + j = _
    omega
theorem take_ok (hN : 2 ^ 31 ≤ N) (a : Int32) (h : KI c α) (hl : (α.2.1 0).length + 4 ≤ 16384) : ∃ γ, f_Ker_takeBytes N a α = some (some none, γ) ∧ KI c γ ∧ ch [] [0] α γ ∧ sT α γ ∧ (γ.2.1 0).length = (α.2.1 0).length + 4 := by
  obtain ⟨γ, e, t, cc, s, l⟩ := take_go (N := N) (a := a) 4 N α h.1 (by omega) (by omega) hl
  have nγ : tn γ = tn α := by unfold tn; rw [s.1]
  exact ⟨γ, e, ⟨t, by rw [nγ]; exact h.2.1.ch cc (by decide) (by decide), h.2.2.eq cc.2.2 nγ⟩, cc, s, l⟩
theorem feed_ok (hN : 2 ^ 31 ≤ N) (a1 a2 a3 a4 a5 : Int32) (h : KI c α) (hl : (α.2.1 0).length + 20 ≤ 16384) : ∃ v γ, f_Ker_feed N a1 a2 a3 a4 a5 α = some (some (some v), γ) ∧ KI c γ ∧ ch [] [0] α γ ∧ sT α γ ∧ (γ.2.1 0).length = (α.2.1 0).length + 20 ∧ v = nI ((α.2.1 0).length + 20) := by
  obtain ⟨b1, e1, h1, c1, s1, l1⟩ := take_ok hN a1 h (by omega)
  obtain ⟨b2, e2, h2, c2, s2, l2⟩ := take_ok hN a2 h1 (by omega)
  obtain ⟨b3, e3, h3, c3, s3, l3⟩ := take_ok hN a3 h2 (by omega)
  obtain ⟨b4, e4, h4, c4, s4, l4⟩ := take_ok hN a4 h3 (by omega)
  obtain ⟨b5, e5, h5, c5, s5, l5⟩ := take_ok hN a5 h4 (by omega)
  have hs : fR_size α 0 + 20 ≤ 65536 := by
    unfold fR_size
    rw [show nI (α.2.1 0).length + 20 = nI ((α.2.1 0).length + 20) from nI_add _ _]
    exact nI_le (b := 65536) (by omega) (by omega)
  unfold f_Ker_feed
  rw [if_pos hs, e1, kBv_s, e2, kBv_s, e3, kBv_s, e4, kBv_s, e5, kBv_s]
  exact ⟨_, b5, rfl, h5, (((c1.tr c2).tr c3).tr c4).tr c5, ⟨by rw [s5.1, s4.1, s3.1, s2.1, s1.1], by rw [s5.2, s4.2, s3.2, s2.2, s1.2]⟩, by omega, by unfold fR_size; rw [show (b5.2.1 0).length = (α.2.1 0).length + 20 by omega]⟩
theorem end_ok {a v : Int32} {γ : kS} (h : KI c α) (e : f_Ker_end N a α = some (some (some v), γ)) : KI c γ ∧ ch [] [0] α γ ∧ sT α γ ∧ (γ.2.1 0).length ≤ (α.2.1 0).length := by
  unfold f_Ker_end at e
  split at e
  · cases e
  · split at e
    · have : fR_cut α 0 a = γ := by injection e with e; injection e with _ e
      rw [← this]
      unfold fR_cut
      split
      · exact ⟨h, ch.rf, ⟨rfl, rfl⟩, Nat.le_refl _⟩
      · have hl : ((α.2.1 0).take a.toNatClampNeg).length ≤ (α.2.1 0).length := by rw [List.length_take]; omega
        refine ⟨⟨h.1.sl (by decide) hl, ?_, h.2.2⟩, ch.rs (by decide), ⟨rfl, rfl⟩, hl⟩
        exact h.2.1.ch (ch.rs (I := []) (R := [0]) (by decide)) (by decide) (by decide)
    · cases e
/-- end of a number that is not beyond what was fed -/
theorem end_v {n : Nat} (h : KI c α) (hn : n ≤ (α.2.1 0).length) (hl : (α.2.1 0).length < 2 ^ 31) : ∃ γ, f_Ker_end N (nI n) α = some (some (some (nI n)), γ) ∧ KI c γ ∧ (γ.2.1 0).length = n := by
  have e : f_Ker_end N (nI n) α = some (some (some (nI n)), fR_cut α 0 (nI n)) := by
    unfold f_Ker_end
    rw [if_neg (nI_pos (by omega)), if_pos (by unfold fR_size; exact nI_le hn hl)]
  refine ⟨_, e, (end_ok h e).1, ?_⟩
  unfold fR_cut
  split
  · rename_i z
    rcases z with z | z
    · exact absurd z (nI_pos (by omega))
    · exact Nat.le_antisymm (Nat.not_lt.mp fun y => (nI_ge y hl) z) hn
  · show ((α.2.1 0).take (nI n).toNatClampNeg).length = n
    rw [nI_clamp (by omega), List.length_take]
    omega
theorem reset_ok (hN : 524288 < N) (h : KI c α) : ∃ v γ, f_Ker_reset N α = some (some (some v), γ) ∧ KI 0 γ ∧ tn γ = 0 ∧ ∀ r, r < 21 → r ∉ [5, 6] → γ.2.1 r = α.2.1 r := by
  obtain ⟨hT, he, -⟩ := h
  obtain ⟨β, e, tβ, cβ, l5, l6, -⟩ := cut_ok (c0 := 0) hT he.1 (Nat.zero_le _) he.2.1 (fun y => (he.2.2.2.2.2 0 y).1) (fun y => by subst y; exact he.2.2.2.2.1)
  unfold f_Ker_reset f_Env_clear
  rw [show f_Env_cut 0 α = β from e]
  obtain ⟨δ, er, tδ, nδ, gδ, iδ, rδ, mδ⟩ := rel_t (N := N) (m := 0) hN (tβ.si (i := 7) (v := 0) (by decide)) (Nat.zero_le _)
  rw [show f_Terms_release N 0 (kSi β 7 0) = some (some none, δ) from er, kBv_s]
  have k0 : KI 0 δ := ⟨⟨tδ.1, tδ.2.1, fun i hi => absurd hi (by omega)⟩, ⟨by rw [rδ]; exact l5, by omega, by omega, Nat.le_refl _, by rw [rδ]; exact l6, fun k hk => absurd hk (by omega)⟩, fun i hi => absurd hi (by omega)⟩
  exact ⟨_, _, rfl, k0.si (by decide), nδ, fun r hr hr' => by show δ.2.1 r = _; rw [rδ]; exact cβ.row hr hr'⟩
theorem const_ok {a1 a2 v : Int32} {γ : kS} (e : f_Ker_constant N a1 a2 α = some (some (some v), γ)) : γ = α := by
  have j : ∀ y, f_Ker_constant_j61 N y α = some (some (some v), γ) → γ = α := fun y e => by
    unfold f_Ker_constant_j61 at e
    split at e <;> (injection e with e; injection e with _ e; exact e.symm)
  unfold f_Ker_constant at e
  split at e
  · cases e
  split at e
  · split at e
    · cases e
    split at e
    · split at e
      · exact j _ e
      split at e
      · exact j _ e
      · injection e with e; injection e with _ e; exact e.symm
    · cases e
  · cases e
end CALLS
