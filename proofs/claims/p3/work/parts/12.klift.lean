-- what is known of a row alone, or read alone, said of the whole kernel
theorem kup_s {α : Type} {f : Nat → α} {r : Nat} {v : α} : va_up f r v r = v := if_pos rfl
theorem kup_n {α : Type} {f : Nat → α} {r j : Nat} {v : α} (h : j ≠ r) : va_up f r v j = f j := if_neg h
theorem kup_id {α : Type} {f : Nat → α} {r : Nat} : va_up f r (f r) = f := by
  funext j
  by_cases h : j = r
  · rw [h]; exact kup_s
  · exact kup_n h
def kRs (α : kS) (r : Nat) (l : List Int32) (N : Nat) : kS := (α.1, va_up α.2.1 r l, va_up α.2.2.1 r N, α.2.2.2)
def krc (g : kG) (r q n : Nat) : Nat × va_E := (kad g (11 + r), .inr (0, [.int (kMost r), .ref q, .int (nI n)]))
def kra' (g : kG) (q N : Nat) (f : Nat → Int32) : Nat × va_E := (q, .inl (kcI g, N, .inl f))
def kzr (z : kZ) (r q : Nat) (f : Nat → Int32) : kZ := (va_up z.1 r q, va_up z.2 r f)
/-- a row changed, its room kept -/
abbrev kSl (α : kS) (r : Nat) (l : List Int32) : kS := kRs α r l (α.2.2.1 r)
section KRS
variable {g : kG} {A : Nat → Prop} {α : kS} {z : kZ} {r q N : Nat} {l : List Int32} {f : Nat → Int32} {H H1 : Heap}
theorem ko_rs (hr : r < 21) : ∀ k, k < 11 → ko g (kRs α r l N) (kzr z r q f) k = ko g α z k
  | 0, _ => rfl
  | 1, _ => rfl
  | 2, _ => by
    have e : ∀ j, 21 ≤ j → (kzr z r q f).1 j = z.1 j := fun j hj => kup_n (by omega)
    unfold ko
    rw [e 21 (by omega), e 22 (by omega), e 23 (by omega), e 24 (by omega), e 25 (by omega)]
    rfl
  | 3, _ => rfl
  | 4, _ => rfl
  | 5, _ => rfl
  | 6, _ => rfl
  | 7, _ => rfl
  | 8, _ => rfl
  | 9, _ => rfl
  | 10, _ => rfl
  | k + 11, h => absurd h (by omega)
theorem kta_rs (hr : r < 21) : ∀ k, k < 5 → kta g (kRs α r l N) (kzr z r q f) k = kta g α z k := by
  have e : ∀ j, 21 ≤ j → (kzr z r q f).1 j = z.1 j := fun j hj => kup_n (by omega)
  have e2 : ∀ j, 21 ≤ j → (kRs α r l N).2.2.1 j = α.2.2.1 j := fun j hj => kup_n (by omega)
  intro k hk
  match k, hk with
  | 0, _ => unfold kta; rw [e 21 (by omega), e2 21 (by omega)]; rfl
  | 1, _ => unfold kta; rw [e 22 (by omega), e2 22 (by omega)]; rfl
  | 2, _ => unfold kta; rw [e 23 (by omega), e2 23 (by omega)]; rfl
  | 3, _ => unfold kta; rw [e 24 (by omega), e2 24 (by omega)]; rfl
  | 4, _ => unfold kta; rw [e 25 (by omega), e2 25 (by omega)]; rfl
  | k + 5, h => exact absurd h (by omega)
theorem kc_rs (hr : r < 21) {k : Nat} (hk : k < 58) : kc g (kRs α r l N) (kzr z r q f) k = if k = 11 + r then krc g r q l.length else if k = 32 + r then kra' g q N f else kc g α z k := by
  by_cases h1 : k = 11 + r
  · subst h1
    rw [if_pos rfl]
    unfold kc
    rw [if_neg (by omega), if_pos (by omega), show 11 + r - 11 = r by omega]
    unfold kro krc
    have e1 : (kzr z r q f).1 r = q := kup_s
    have e2 : (kRs α r l N).2.1 r = l := kup_s
    rw [e1, e2]
  · rw [if_neg h1]
    by_cases h2 : k = 32 + r
    · subst h2
      rw [if_pos rfl]
      unfold kc
      rw [if_neg (by omega), if_neg (by omega), if_pos (by omega), show 32 + r - 32 = r by omega]
      unfold kra kra'
      have e1 : (kzr z r q f).1 r = q := kup_s
      have e2 : (kRs α r l N).2.2.1 r = N := kup_s
      have e3 : (kzr z r q f).2 r = f := kup_s
      rw [e1, e2, e3]
    · rw [if_neg h2]
      unfold kc
      by_cases h3 : k < 11
      · rw [if_pos h3, if_pos h3]; exact ko_rs hr k h3
      · rw [if_neg h3, if_neg h3]
        by_cases h4 : k < 32
        · rw [if_pos h4, if_pos h4]
          unfold kro
          have e1 : (kzr z r q f).1 (k - 11) = z.1 (k - 11) := kup_n (by omega)
          have e2 : (kRs α r l N).2.1 (k - 11) = α.2.1 (k - 11) := kup_n (by omega)
          rw [e1, e2]
        · rw [if_neg h4, if_neg h4]
          by_cases h5 : k < 53
          · rw [if_pos h5, if_pos h5]
            unfold kra
            have e1 : (kzr z r q f).1 (k - 32) = z.1 (k - 32) := kup_n (by omega)
            have e2 : (kRs α r l N).2.2.1 (k - 32) = α.2.2.1 (k - 32) := kup_n (by omega)
            have e3 : (kzr z r q f).2 (k - 32) = z.2 (k - 32) := kup_n (by omega)
            rw [e1, e2, e3]
          · rw [if_neg h5, if_neg h5]; exact kta_rs hr _ (by omega)
theorem ka_rs {k : Nat} : ka g (kzr z r q f) k = if k = 32 + r then q else ka g z k := by
  unfold ka
  by_cases h1 : k < 32
  · rw [if_pos h1, if_pos h1, if_neg (by omega)]
  · rw [if_neg h1, if_neg h1]
    by_cases h2 : k = 32 + r
    · rw [if_pos h2, show k - 32 = r by omega]; exact kup_s
    · rw [if_neg h2]; exact kup_n (by omega)
abbrev kwc (g : kG) (α : kS) (z : kZ) (r : Nat) : va_W := [krc g r (z.1 r) (α.2.1 r).length, kra' g (z.1 r) (α.2.2.1 r) (z.2 r)]
theorem kP_rs (hr : r < 21) (hP : va_P (kD g) classes (kW g α z) H) (hD : va_D A (kW g α z)) (hA : ∀ q, H.size ≤ q → A q) (hk1 : ∀ q : Nat, q < H.size → ¬ va_A (kwc g α z r) H.size q → H1[q]? = H[q]?)
    (hP1 : va_P (kD g) classes [krc g r q l.length, kra' g q N f] H1) (hD1 : va_D (va_A (kwc g α z r) H.size) [krc g r q l.length, kra' g q N f]) :
    va_P (kD g) classes (kW g (kRs α r l N) (kzr z r q f)) H1 ∧ va_D A (kW g (kRs α r l N) (kzr z r q f)) := by
  obtain ⟨d1, d2⟩ := kD_to hD
  have a1 : ka g z (11 + r) = kad g (11 + r) := if_pos (by omega)
  have a2 : ka g z (32 + r) = z.1 r := by unfold ka; rw [if_neg (by omega), show 32 + r - 32 = r by omega]
  have lt : ∀ k, k < 58 → ka g z k < H.size := fun k hk => by have := (kP_at hP hk).lt; rw [kc_1 g α z hk] at this; exact this
  have nA : ∀ k, k < 58 → k ≠ 11 + r → k ≠ 32 + r → ¬ va_A (kwc g α z r) H.size (ka g z k) := by
    intro k hk n1 n2 h
    rcases h with ⟨j, e, h⟩ | h
    · match j, h with
      | 0, h =>
        have h0 : krc g r (z.1 r) (α.2.1 r).length = (ka g z k, e) := Option.some.inj h
        have h1 : kad g (11 + r) = ka g z k := congrArg Prod.fst h0
        exact n1 (d1 k (11 + r) hk (by omega) (by rw [a1]; exact h1.symm))
      | 1, h =>
        have h0 : kra' g (z.1 r) (α.2.2.1 r) (z.2 r) = (ka g z k, e) := Option.some.inj h
        have h1 : z.1 r = ka g z k := congrArg Prod.fst h0
        exact n2 (d1 k (32 + r) hk (by omega) (by rw [a2]; exact h1.symm))
      | j + 2, h => simp at h
    · have := lt k hk; omega
  have q1 : q ≠ kad g (11 + r) := fun e => absurd (hD1.1 1 0 _ _ rfl rfl e) (by decide)
  have q2 : q = z.1 r ∨ H.size ≤ q := by
    rcases hD1.2 1 _ rfl with ⟨j, e, h⟩ | h
    · match j, h with
      | 0, h =>
        have h0 : krc g r (z.1 r) (α.2.1 r).length = (q, e) := Option.some.inj h
        exact absurd (congrArg Prod.fst h0).symm q1
      | 1, h =>
        have h0 : kra' g (z.1 r) (α.2.2.1 r) (z.2 r) = (q, e) := Option.some.inj h
        exact Or.inl (congrArg Prod.fst h0).symm
      | j + 2, h => simp at h
    · exact Or.inr h
  refine ⟨kP_of fun k hk => ?_, kD_of (fun i j hi hj e => ?_) (fun k hk => ?_)⟩
  · rw [kc_rs hr hk]
    by_cases h1 : k = 11 + r
    · rw [if_pos h1]; exact hP1 0 _ rfl
    · rw [if_neg h1]
      by_cases h2 : k = 32 + r
      · rw [if_pos h2]; exact hP1 1 _ rfl
      · rw [if_neg h2]
        refine (kP_at hP hk).kept ?_
        rw [kc_1 g α z hk]
        exact hk1 _ (lt k hk) (nA k hk h1 h2)
  · rw [ka_rs, ka_rs] at e
    by_cases h1 : i = 32 + r
    · by_cases h2 : j = 32 + r
      · omega
      · rw [if_pos h1, if_neg h2] at e
        rcases q2 with h | h
        · rw [h, ← a2] at e
          have := d1 _ _ (by omega) hj e
          omega
        · have := lt j hj; omega
    · rw [if_neg h1] at e
      by_cases h2 : j = 32 + r
      · rw [if_pos h2] at e
        rcases q2 with h | h
        · rw [h, ← a2] at e
          have := d1 _ _ hi (by omega) e
          omega
        · have := lt i hi; omega
      · rw [if_neg h2] at e; exact d1 i j hi hj e
  · rw [ka_rs]
    by_cases h1 : k = 32 + r
    · rw [if_pos h1]
      rcases q2 with h | h
      · rw [h, ← a2]; exact d2 _ (by omega)
      · exact hA q h
    · rw [if_neg h1]; exact d2 k hk
theorem kOk_rs (hr : r < 21) (h : kOk α) (hl : l.length ≤ N) (hN : ∃ k, k ≤ kK r ∧ N = kBase r * 2 ^ k) : kOk (kRs α r l N) := by
  refine ⟨fun r' h' => ?_, fun r' h' => ?_, h.2.2.1, fun r' h1 h2 => ?_⟩
  · show (va_up α.2.1 r l r').length ≤ va_up α.2.2.1 r N r'
    by_cases e : r' = r
    · rw [e, kup_s, kup_s]; exact hl
    · rw [kup_n e, kup_n e]; exact h.1 r' h'
  · show ∃ k, k ≤ kK r' ∧ va_up α.2.2.1 r N r' = kBase r' * 2 ^ k
    by_cases e : r' = r
    · rw [e, kup_s]; exact hN
    · rw [kup_n e]; exact h.2.1 r' h'
  · show (α.1 6).toNatClampNeg ≤ va_up α.2.2.1 r N r'
    rw [kup_n (by omega)]; exact h.2.2.2 r' h1 h2
theorem kF_rs (hr : r < 21) : kF (kRs α r l N) + 2 * α.2.2.1 r = kF α + 2 * N := by
  have h1 := kSum_up (f := α.2.2.1) (r := r) (v := N) 26 (by omega)
  show 2 * kSum (va_up α.2.2.1 r N) 26 + 2 * α.2.2.1 r = 2 * kSum α.2.2.1 26 + 2 * N
  omega
end KRS
/-- a method that changes one row -/
theorem kl_row {l : Launch} {g : kG} {y : MethodName} {cd : ByteArray} {maxL : Nat} {ret : Option FieldType} {fr lo : Nat} {rm : Room} {av : List Value} {α : kS} {r : Nat} {Q : Outcome → kS → Prop} (hr : r < 21)
    (hrm : kOk α → rm.frames ≤ fr ∧ rm.cells ≤ (kM - kF α) / 32 + 1 ∧ rm.slots ≤ kM - kF α + 6 ∧ rm.locals ≤ lo)
    (hs : ∀ (q : Nat) (f : Nat → Int32) (sz : Nat), kOk α → (∀ (j : Nat) (v : Int32), (α.2.1 r)[j]? = some v → f j = v) → ∃ Qs : Array Value → State → Outcome → State → Nat → Nat → Prop, vE l y (Cond.code y cd maxL ret :: vT) rm (Pw g.1 g.2.1 av sz [krc g r q (α.2.1 r).length, kra' g q (α.2.2.1 r) f] [(kcI g, .int)]) Qs (va_A [krc g r q (α.2.1 r).length, kra' g q (α.2.2.1 r) f] sz) ∧
      ∀ a st o t k n, Qs a st o t k n → ∃ (v : Option Value) (l' : List Int32) (N' q' : Nat) (f' : Nat → Int32), o = .returned v ∧ Q o (kRs α r l' N') ∧ va_P (kD g) classes [krc g r q' l'.length, kra' g q' N' f'] t.heap ∧ va_D (va_A [krc g r q (α.2.1 r).length, kra' g q (α.2.2.1 r) f] sz) [krc g r q' l'.length, kra' g q' N' f'] ∧
        (∀ (j : Nat) (v : Int32), l'[j]? = some v → f' j = v) ∧ l'.length ≤ N' ∧ (∃ k, k ≤ kK r ∧ N' = kBase r * 2 ^ k) ∧ n + 2 * α.2.2.1 r ≤ 2 * N' ∧ 32 * k + 2 * α.2.2.1 r ≤ 2 * N' ∧ (N' = α.2.2.1 r → q' = q)) :
    kC l g y cd maxL ret fr lo av α Q := by
  intro A ad
  refine vE_use fun a st h => ?_
  obtain ⟨ha, ⟨zf, hP, hD, hz⟩, hO, hE⟩ := h
  obtain ⟨Qs, hv, hQ⟩ := hs (ad r) (zf r) st.heap.size hO (hz r hr)
  obtain ⟨d1, d2⟩ := kD_to hD
  have a1 : ka g (ad, zf) (11 + r) = kad g (11 + r) := if_pos (by omega)
  have a2 : ka g (ad, zf) (32 + r) = ad r := by unfold ka; rw [if_neg (by omega), show 32 + r - 32 = r by omega]
  have c1 : va_at (kD g) classes (krc g r (ad r) (α.2.1 r).length) st.heap := by
    have := kP_at hP (k := 11 + r) (by omega)
    unfold kc at this
    rw [if_neg (by omega), if_pos (by omega), show 11 + r - 11 = r by omega] at this
    exact this
  have c2 : va_at (kD g) classes (kra' g (ad r) (α.2.2.1 r) (zf r)) st.heap := by
    have := kP_at hP (k := 32 + r) (by omega)
    unfold kc at this
    rw [if_neg (by omega), if_neg (by omega), if_pos (by omega), show 32 + r - 32 = r by omega] at this
    exact this
  have hne : kad g (11 + r) ≠ ad r := fun e => by
    have := d1 (11 + r) (32 + r) (by omega) (by omega) (by rw [a1, a2]; exact e)
    omega
  have hAA : ∀ q, va_A [krc g r (ad r) (α.2.1 r).length, kra' g (ad r) (α.2.2.1 r) (zf r)] st.heap.size q → A q := by
    rintro q (⟨j, e, h⟩ | h)
    · match j, h with
      | 0, h =>
        have h1 : kad g (11 + r) = q := congrArg Prod.fst (Option.some.inj h)
        rw [← h1, ← a1]; exact d2 _ (by omega)
      | 1, h =>
        have h1 : ad r = q := congrArg Prod.fst (Option.some.inj h)
        rw [← h1, ← a2]; exact d2 _ (by omega)
      | j + 2, h => simp at h
    · exact hE.2.1 q h
  refine ⟨rm, _, Qs, _, hv, ⟨ha, rfl, ?_, hE.1.sub [0] rfl, ?_⟩, hrm hO, hAA, ?_⟩
  · intro k q h
    match k, h with
    | 0, h => cases h; exact c1
    | 1, h => cases h; exact c2
    | k + 2, h => simp at h
  · refine ⟨fun i j p q hi hj e => ?_, fun _ _ _ => trivial⟩
    match i, j, hi, hj with
    | 0, 0, _, _ => rfl
    | 1, 1, _, _ => rfl
    | 0, 1, hi, hj => cases hi; cases hj; exact absurd e hne
    | 1, 0, hi, hj => cases hi; cases hj; exact absurd e.symm hne
    | i + 2, _, hi, _ => simp at hi
    | 0, j + 2, _, hj => simp at hj
    | 1, j + 2, _, hj => simp at hj
  · intro o t k n hW hsz hF hq
    obtain ⟨v, l', N', q', f', rfl, hQ', hP1, hD1, hl', hlN, hN', hb1, hb2, hq'⟩ := hQ a st o t k n hq
    obtain ⟨hP2, hD2⟩ := kP_rs (H1 := t.heap) hr hP hD hE.2.1 hF hP1 hD1
    refine ⟨kRs α r l' N', va_up ad r q', hQ', ⟨⟨va_up zf r f', hP2, hD2, fun r' hr' j v h => ?_⟩, kOk_rs hr hO hlN hN', ?_⟩, ?_, kX.ret, ?_, ?_⟩
    · by_cases e : r' = r
      · subst e
        have e1 : (kRs α r' l' N').2.1 r' = l' := kup_s
        rw [e1] at h
        rw [kup_s]
        exact hl' j v h
      · have e1 : (kRs α r l' N').2.1 r' = α.2.1 r' := kup_n e
        rw [e1] at h
        rw [kup_n e]
        exact hz r' hr' j v h
    · exact hE.by hW hsz (fun q h1 h2 => hF q h1 (fun z => h2 (hAA q z)))
    · intro r' hr'
      show α.2.2.1 r' ≤ va_up α.2.2.1 r N' r' ∧ (va_up α.2.2.1 r N' r' = α.2.2.1 r' → va_up ad r q' r' = ad r')
      by_cases e : r' = r
      · subst e
        rw [kup_s, kup_s]
        exact ⟨by omega, hq'⟩
      · rw [kup_n e, kup_n e]
        exact ⟨Nat.le_refl _, fun _ => rfl⟩
    · have := kF_rs (α := α) (l := l') (N := N') hr
      show n + kF α ≤ kF (kRs α r l' N') + 6 * 0
      omega
    · have := kF_rs (α := α) (l := l') (N := N') hr
      show 32 * k + kF α ≤ kF (kRs α r l' N') + 32 * 0
      omega
/-- a method that reads one row -/
theorem kl_read {l : Launch} {g : kG} {y : MethodName} {cd : ByteArray} {maxL : Nat} {ret : Option FieldType} {fr lo : Nat} {av : List Value} {α : kS} {r : Nat} {v : Int32} (hr : r < 21) {ws : va_W → va_W} {tys : List (ClassId × FieldType)} (hw : ∀ (W1 : va_W) (k : Nat) (q : Nat × va_E), (ws W1)[k]? = some q → ∃ j : Nat, W1[j]? = some q) (ht : ∀ (k : Nat) (q : ClassId × FieldType), tys[k]? = some q → ∃ j : Nat, (kTy g)[j]? = some q)
    (hs : ∀ (q : Nat) (f : Nat → Int32), kOk α → (∀ (j : Nat) (v : Int32), (α.2.1 r)[j]? = some v → f j = v) → Met l y (Cond.code y cd maxL ret :: vT) { frames := fr, cells := 0, slots := 0, locals := lo } (Pp g.1 g.2.1 av (ws [krc g r q (α.2.1 r).length, kra' g q (α.2.2.1 r) f]) tys) (QcRead v) 0 0 (fun _ => False)) :
    kV l g y cd maxL ret fr lo av α v := by
  intro A ad p e ha hc hk s m args below hf happ hP hK
  obtain ⟨ha', ⟨zf, hP', hD, hz⟩, hO, hE⟩ := hP
  refine hs (ad r) (zf r) hO (hz r hr) p e ha hc hk s m args below hf happ ⟨ha', ?_, ?_⟩ hK
  · intro k q h
    obtain ⟨j, h⟩ := hw _ k q h
    match j, h with
    | 0, h =>
      cases h
      have := kP_at hP' (k := 11 + r) (by omega)
      unfold kc at this
      rw [if_neg (by omega), if_pos (by omega), show 11 + r - 11 = r by omega] at this
      exact this
    | 1, h =>
      cases h
      have := kP_at hP' (k := 32 + r) (by omega)
      unfold kc at this
      rw [if_neg (by omega), if_neg (by omega), if_pos (by omega), show 32 + r - 32 = r by omega] at this
      exact this
    | j + 2, h => simp at h
  · refine ⟨hE.1.1, fun k q h => ?_⟩
    obtain ⟨j, h⟩ := ht k q h
    exact hE.1.2 j q h
