-- what has changed, what stands
/-- TERMS have only grown -/
def grw (α β : kS) : Prop := tn α ≤ tn β ∧ ∀ i, i < tn α → β.2.2.2.1 i = α.2.2.2.1 i ∧ tLf β i = tLf α i ∧ tRt β i = tRt α i
theorem grw.rf {α : kS} : grw α α := ⟨Nat.le_refl _, fun _ _ => ⟨rfl, rfl, rfl⟩⟩
theorem grw.tr {α β γ : kS} (h1 : grw α β) (h2 : grw β γ) : grw α γ :=
  ⟨Nat.le_trans h1.1 h2.1, fun i hi => by
    obtain ⟨a1, a2, a3⟩ := h1.2 i hi
    obtain ⟨b1, b2, b3⟩ := h2.2 i (Nat.lt_of_lt_of_le hi h1.1)
    exact ⟨b1.trans a1, b2.trans a2, b3.trans a3⟩⟩
theorem g_n {α β : kS} (h : grw α β) {i : Nat} (hi : i < tn α) : nK β i = nK α i ∧ nS β i = nS α i ∧ nD β i = nD α i ∧ tLo β i = tLo α i ∧ tLf β i = tLf α i ∧ tRt β i = tRt α i := by
  obtain ⟨a, b, c⟩ := h.2 i hi
  unfold nK nS nD tKd tSz tDp tLo
  rw [a]
  exact ⟨rfl, rfl, rfl, rfl, b, c⟩
/-- no node is a FREE variable -/
def nf (α : kS) : Prop := ∀ i, i < tn α → nK α i ≠ 1
theorem nf.eq {α β : kS} (hg : grw α β) (e : tn β = tn α) (h : nf α) : nf β := fun i hi => by
  rw [e] at hi
  rw [(g_n hg hi).1]
  exact h i hi
/-- ints outside I and rows outside R are as they were, TERMS have only grown; with 100 outside I no FREE variable is made -/
def ch (I R : List Nat) (α β : kS) : Prop := ((∀ i, i ∉ I → β.1 i = α.1 i) ∧ (100 ∉ I → nf α → nf β)) ∧ (∀ r, r < 21 → r ∉ R → β.2.1 r = α.2.1 r ∧ β.2.2.1 r = α.2.2.1 r) ∧ grw α β
section CH
variable {I R I' R' : List Nat} {α β γ : kS} {i r : Nat}
theorem ch.rf : ch I R α α := ⟨⟨fun _ _ => rfl, fun _ h => h⟩, fun _ _ _ => ⟨rfl, rfl⟩, grw.rf⟩
theorem ch.tr (h1 : ch I R α β) (h2 : ch I R β γ) : ch I R α γ :=
  ⟨⟨fun i hi => (h2.1.1 i hi).trans (h1.1.1 i hi), fun h q => h2.1.2 h (h1.1.2 h q)⟩, fun r hr hR => ⟨(h2.2.1 r hr hR).1.trans (h1.2.1 r hr hR).1, (h2.2.1 r hr hR).2.trans (h1.2.1 r hr hR).2⟩, h1.2.2.tr h2.2.2⟩
theorem ch.mo (hI : ∀ i ∈ I, i ∈ I') (hR : ∀ r ∈ R, r ∈ R') (h : ch I R α β) : ch I' R' α β :=
  ⟨⟨fun i hi => h.1.1 i fun q => hi (hI i q), fun hi => h.1.2 fun q => hi (hI _ q)⟩, fun r hr hq => h.2.1 r hr fun q => hq (hR r q), h.2.2⟩
theorem ch.rs {l : List Int32} {M : Nat} (hr : r ∈ R) : ch I R α (kRs α r l M) :=
  ⟨⟨fun _ _ => rfl, fun _ h => h⟩, fun r' _ hq => ⟨kup_n fun e => hq (e ▸ hr), kup_n fun e => hq (e ▸ hr)⟩, grw.rf⟩
theorem ch.si {v : Int32} (hi : i ∈ I) (h6 : i ≠ 6) : ch I R α (kSi α i v) :=
  have e : tn (kSi α i v) = tn α := by unfold tn; rw [show (kSi α i v).1 6 = α.1 6 from kup_n (Ne.symm h6)]
  have g : grw α (kSi α i v) := ⟨by rw [e]; exact Nat.le_refl _, fun _ _ => ⟨rfl, rfl, rfl⟩⟩
  ⟨⟨fun j hj => kup_n fun e => hj (e ▸ hi), fun _ h => h.eq g e⟩, fun _ _ _ => ⟨rfl, rfl⟩, g⟩
theorem tEx.ch (h6 : 6 ∈ I) (h : tEx α β) (hf : 100 ∉ I → nf α → nf β) : ch I R α β := ⟨⟨fun i hi => h.1 i fun e => hi (e ▸ h6), hf⟩, fun r hr _ => ⟨by rw [h.2.1], h.2.2.1 r hr⟩, h.2.2.2⟩
theorem tFl.ch (h3 : 3 ∈ I) (h4 : 4 ∈ I) (h : tFl α β) : ch I R α β := by
  obtain ⟨c, p, rfl⟩ := h
  exact (ch.si h3 (by decide)).tr (ch.si h4 (by decide))
theorem ch.int (h : ch I R α β) (hi : i ∉ I) : β.1 i = α.1 i := h.1.1 i hi
theorem ch.nf (h : ch I R α β) (hi : 100 ∉ I) (q : nf α) : nf β := h.1.2 hi q
theorem ch.row (h : ch I R α β) (hr : r < 21) (hq : r ∉ R) : β.2.1 r = α.2.1 r := (h.2.1 r hr hq).1
end CH
theorem qT.g {α β : kS} (h : grw α β) {j : Nat} (hv : qT α j) : qT β j := ⟨Nat.lt_of_lt_of_le hv.1 h.1, by rw [(g_n h hv.1).1]; exact hv.2⟩
theorem qP.g {α β : kS} (h : grw α β) {p : Int32} (hv : qP α p) : qP β p := by
  obtain ⟨j, e, hv⟩ := hv
  exact ⟨j, e, hv.g h⟩
/-- CONSTANTS within are below K -/
def tC (K : Nat) (α : kS) : Prop := ∀ i, i < tn α → nK α i = 3 ∨ nK α i = 4 → ∃ c, tLf α i = nI c ∧ c < K
def tT (K : Nat) (α : kS) : Prop := tOk α ∧ tWf α ∧ tC K α
theorem tHs_rs {α : kS} {r M : Nat} {l : List Int32} (hr : r < 21) (h : tHs α) : tHs (kRs α r l M) := by
  have e : (kRs α r l M).2.2.1 25 = α.2.2.1 25 := kup_n (by omega)
  unfold tHs
  rw [e]
  exact h
theorem tT.rs {K : Nat} {α : kS} {r M : Nat} {l : List Int32} (h : tT K α) (hr : r < 21) (hk : kOk (kRs α r l M)) : tT K (kRs α r l M) := by
  obtain ⟨⟨a, b, c⟩, d, e⟩ := h
  refine ⟨⟨hk, ?_, tHs_rs hr c⟩, d, e⟩
  have q : ∀ j, 21 ≤ j → (kRs α r l M).2.2.1 j = α.2.2.1 j := fun j hj => kup_n (by omega)
  rw [q 21 (by omega), q 22 (by omega), q 23 (by omega), q 24 (by omega), q 25 (by omega)]
  exact b
theorem tT.sl {K : Nat} {α : kS} {r : Nat} {l : List Int32} (h : tT K α) (hr : r < 21) (hl : l.length ≤ (α.2.1 r).length) : tT K (kSl α r l) :=
  h.rs hr (kOk_rs hr h.1.1 (Nat.le_trans hl (h.1.1.1 r hr)) (h.1.1.2.1 r (by omega)))
theorem kOk.si {α : kS} {i : Nat} {v : Int32} (h : kOk α) (hi : i ≠ 6) : kOk (kSi α i v) := by
  have e : (kSi α i v).1 6 = α.1 6 := kup_n (Ne.symm hi)
  unfold kOk
  rw [e]
  exact h
theorem tT.si {K : Nat} {α : kS} {i : Nat} {v : Int32} (h : tT K α) (hi : i ≠ 6) : tT K (kSi α i v) := by
  obtain ⟨⟨a, b, c⟩, d, f⟩ := h
  have e : tn (kSi α i v) = tn α := by unfold tn; rw [show (kSi α i v).1 6 = α.1 6 from kup_n (Ne.symm hi)]
  refine ⟨⟨a.si hi, b, ?_⟩, ?_, ?_⟩
  · unfold tHs
    rw [e]
    exact c
  · unfold tWf
    rw [e]
    exact d
  · unfold tC
    rw [e]
    exact f
theorem tT.fl {K : Nat} {α β : kS} (h : tT K α) (hf : tFl α β) : tT K β := by
  obtain ⟨c, p, rfl⟩ := hf
  exact (h.si (by decide)).si (by decide)
theorem push_t {K : Nat} {α : kS} {r : Nat} (v : Int32) (h : tT K α) (hr : r < 21) (hl : (α.2.1 r).length < kMx r) : ∃ M, fR_push α r v = some (some none, kRs α r (α.2.1 r ++ [v]) M) ∧ tT K (kRs α r (α.2.1 r ++ [v]) M) := by
  obtain ⟨M, e, hk⟩ := push_ok v h.1.1 hr hl
  exact ⟨M, e, h.rs hr hk⟩
theorem pop_e {α : kS} {r : Nat} {L : List Int32} {v : Int32} (e : α.2.1 r = L ++ [v]) : fR_pop α r = (v, kSl α r L) := by
  unfold fR_pop
  rw [e]
  simp
theorem kRs_same {α : kS} {r : Nat} {l : List Int32} (e : α.2.1 r = l) : kSl α r l = α := by
  rw [← e]; exact kRs_id
theorem row_sm {K : Nat} {α : kS} (h : tT K α) {r : Nat} (hr : r < 21) : (α.2.1 r).length < 2 ^ 20 := Nat.lt_of_le_of_lt (h.1.1.1 r hr) (h.1.1.sm (by omega))
theorem cut_e {K : Nat} {α : kS} (h : tT K α) {r : Nat} (hr : r < 21) {n : Nat} (hn : n ≤ (α.2.1 r).length) : fR_cut α r (nI n) = kSl α r ((α.2.1 r).take n) := by
  have h1 := row_sm h hr
  unfold fR_cut
  by_cases q : n = (α.2.1 r).length
  · rw [if_pos (Or.inr (nI_le (by omega) (by omega))), q, List.take_length]
    exact kRs_id.symm
  · rw [if_neg (fun z => z.elim (nI_pos (by omega)) (nI_ge (by omega) (by omega))), nI_clamp (by omega)]
theorem cut0 {K : Nat} {α : kS} (h : tT K α) {r : Nat} (hr : r < 21) : fR_cut α r 0 = kSl α r [] := by
  have := cut_e h hr (n := 0) (Nat.zero_le _)
  rw [List.take_zero] at this
  exact this
abbrev tm (α β : kS) : Prop := ch [2, 3, 4, 6] [2, 3, 4] α β
abbrev tmL (L : List Nat) (α β : kS) : Prop := ch (2 :: 3 :: 4 :: 6 :: L) [2, 3, 4] α β
/-- make gives a TERM of just these parts, or fails -/
theorem mk_w {N K : Nat} {α : kS} {I : List Nat} (i3 : 3 ∈ I) (i4 : 4 ∈ I) (i6 : 6 ∈ I) (hN : 524288 < N) (h : tT K α) {k : Nat} (h100 : k = 1 → nf α → 100 ∈ I) (hk : k ≤ 9) {l r : Int32} (hp : 5 ≤ k → ∃ a b, l = nI a ∧ r = nI b ∧ tPr α k (tn α) a b) (hc : k = 3 ∨ k = 4 → ∃ c, l = nI c ∧ c < K) :
    tI (f_Terms_make N (nI k) l r α) (fun v β => tT K β ∧ ch I [] α β ∧ ∃ j, v = nI j ∧ j < tn β ∧ nK β j = k ∧ tLf β j = l ∧ tRt β j = r) (fun β => tT K β ∧ ch I [] α β) := by
  have hp' : ∃ a b, 5 ≤ k → l = nI a ∧ r = nI b ∧ tPr α k (tn α) a b := by
    by_cases h5 : 5 ≤ k
    · obtain ⟨a, b, q⟩ := hp h5
      exact ⟨a, b, fun _ => q⟩
    · exact ⟨0, 0, fun q => absurd q h5⟩
  obtain ⟨a, b, hp'⟩ := hp'
  refine (make_ok hN h.1 h.2.1 hk hp').mono (fun v β q => ?_) (fun β q => ⟨h.fl q, q.ch i3 i4⟩)
  obtain ⟨q1, q2, q3, j, q4, q5, q6, q7, q8, q9⟩ := q
  refine ⟨⟨q1, q2, fun i hi h34 => ?_⟩, q3.ch i6 (fun h1 hf i hi => ?_), j, q4, q5, q6, q7, q8⟩
  · rcases Nat.lt_or_ge i (tn α) with z | z
    · obtain ⟨n1, -, -, -, n2, -⟩ := ex_n q3 z
      rw [n1] at h34
      rw [n2]
      exact h.2.2 i z h34
    · have e : i = j := by omega
      rw [e, q6] at h34
      rw [e, q7]
      exact hc h34
  · rcases Nat.lt_or_ge i (tn α) with z | z
    · rw [(ex_n q3 z).1]
      exact hf i z
    · have e : i = j := by omega
      rw [e, q6]
      exact fun y => h1 (h100 y hf)
theorem mk_ok {N K : Nat} {α : kS} (hN : 524288 < N) (h : tT K α) {k : Nat} (hk : k ≤ 9) {l r : Int32} (hp : 5 ≤ k → ∃ a b, l = nI a ∧ r = nI b ∧ tPr α k (tn α) a b) (hc : k = 3 ∨ k = 4 → ∃ c, l = nI c ∧ c < K) (h1 : k ≠ 1) :
    tI (f_Terms_make N (nI k) l r α) (fun v β => tT K β ∧ ch [3, 4, 6] [] α β ∧ ∃ j, v = nI j ∧ j < tn β ∧ nK β j = k ∧ tLf β j = l ∧ tRt β j = r) (fun β => tT K β ∧ ch [3, 4, 6] [] α β) :=
  mk_w (by decide) (by decide) (by decide) hN h (fun y => absurd y h1) hk hp hc
theorem mk_n {N K : Nat} {α : kS} (hN : 524288 < N) (h : tT K α) {k a b : Nat} (hk : 5 ≤ k) (hk2 : k ≤ 7) (ha : qT α a) (hb : qT α b) :
    tI (f_Terms_make N (nI k) (nI a) (nI b) α) (fun v β => tT K β ∧ ch [3, 4, 6] [] α β ∧ ∃ j, v = nI j ∧ qT β j ∧ nK β j = k ∧ tLf β j = nI a ∧ tRt β j = nI b) (fun β => tT K β ∧ ch [3, 4, 6] [] α β) := by
  refine (mk_ok hN h (by omega) (fun _ => ⟨a, b, rfl, rfl, ha.1, hb.1, ha.2, fun z => absurd z hb.2, fun z => by omega⟩) (fun z => by omega) (by omega)).mono (fun v β q => ?_) (fun _ q => q)
  obtain ⟨q1, q2, j, q3, q4, q5, q6⟩ := q
  exact ⟨q1, q2, j, q3, ⟨q4, by omega⟩, q5, q6⟩
theorem mk_l {N K : Nat} {α : kS} (hN : 524288 < N) (h : tT K α) {k : Nat} (hk : k < 5) (l r : Int32) (hc : k = 3 ∨ k = 4 → ∃ c, l = nI c ∧ c < K) (h1 : k ≠ 1 := by decide) :
    tI (f_Terms_make N (nI k) l r α) (fun v β => tT K β ∧ ch [3, 4, 6] [] α β ∧ ∃ j, v = nI j ∧ qT β j ∧ nK β j = k ∧ tLf β j = l ∧ tRt β j = r) (fun β => tT K β ∧ ch [3, 4, 6] [] α β) := by
  refine (mk_ok hN h (by omega) (fun z => by omega) hc h1).mono (fun v β q => ?_) (fun _ q => q)
  obtain ⟨q1, q2, j, q3, q4, q5, q6⟩ := q
  exact ⟨q1, q2, j, q3, ⟨q4, by omega⟩, q5, q6⟩
/-- a FREE variable is made -/
theorem mk_f {N K : Nat} {α : kS} (hN : 524288 < N) (h : tT K α) (l r : Int32) :
    tI (f_Terms_make N (nI 1) l r α) (fun v β => tT K β ∧ ch [3, 4, 6, 100] [] α β ∧ ∃ j, v = nI j ∧ qT β j ∧ nK β j = 1 ∧ tLf β j = l ∧ tRt β j = r) (fun β => tT K β ∧ ch [3, 4, 6, 100] [] α β) := by
  refine (mk_w (I := [3, 4, 6, 100]) (by decide) (by decide) (by decide) hN h (k := 1) (fun _ _ => by decide) (by omega) (fun z => by omega) (fun z => by omega)).mono (fun v β q => ?_) (fun _ q => q)
  obtain ⟨q1, q2, j, q3, q4, q5, q6⟩ := q
  exact ⟨q1, q2, j, q3, ⟨q4, by omega⟩, q5, q6⟩
