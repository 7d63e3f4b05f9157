-- what the reference shows
def OS (α : mS) : Prop := ∃ o, α.1 1 = nI o ∧ o ≤ 65536
def sQ (f : Option (kO × mS)) (α : mS) : Prop := ∃ β, f = some (some none, β) ∧ mch [1] [1] α β ∧ OS β
section SAY
variable {N : Nat} {α : mS} {f : Option (kO × mS)}
theorem sQ.ret (h : OS α) : sQ (some (some none, α)) α := ⟨α, rfl, mch.rf, h⟩
theorem sQ.bv {k : mS → Option (kO × mS)} (h : sQ f α) (hk : ∀ β, mch [1] [1] α β → OS β → sQ (k β) β) : sQ (mBv f k) α := by
  obtain ⟨β, rfl, c, o⟩ := h
  obtain ⟨γ, e, c', o'⟩ := hk β c o
  exact ⟨γ, e, c.tr c', o'⟩
theorem sQ.end (h : sQ f α) : sQ (mBv f fun β => some (some none, β)) α := h.bv fun _ _ o => sQ.ret o
theorem sQ.ix {c : Prop} [Decidable c] {b : Option (kO × mS)} (h : ¬ c) (hb : sQ b α) : sQ (if c then none else b) α := by
  rw [if_neg h]; exact hb
theorem sQ.ite {c : Prop} [Decidable c] {a b : Option (kO × mS)} (ha : c → sQ a α) (hb : ¬ c → sQ b α) : sQ (if c then a else b) α := by
  by_cases h : c
  · rw [if_pos h]; exact ha h
  · rw [if_neg h]; exact hb h
theorem sQ.ob {x : Int32} {o : Option Int32} {k : Int32 → Option (kO × mS)} (e : o = some x) (h : sQ (k x) α) : sQ (o.bind k) α := by rw [e]; exact h
theorem say0 (b : Int32) (h : OS α) : sQ (f_Mod_say_0 N b α) α := by
  obtain ⟨o, e, ho⟩ := h
  unfold f_Mod_say_0
  refine sQ.ite (fun _ => sQ.ret ⟨o, e, ho⟩) fun c => ?_
  rw [e] at c
  have h6 : o < 65536 := Nat.not_le.mp fun z => c (nI_le (a := 65536) z (by omega))
  refine sQ.ix (by rw [e]; exact mix h6 (by decide)) ⟨_, rfl, (mch.si (by decide)).tr (mch.sA (by decide)), o + 1, ?_, by omega⟩
  show α.1 1 + 1 = _
  rw [e, nI_1]
theorem say2_go {r : Nat} (hr : r < 51) : ∀ (d i nn : Nat) (α : mS), OS α → i + d = sLen.getD r 0 → d < nn → sQ (f_Mod_say_2_2 N r nn (nI i) α) α
  | 0, i, nn, α, h, hi, hn => by
    obtain ⟨nn, rfl⟩ : ∃ n', nn = n' + 1 := ⟨nn - 1, by omega⟩
    have h9 := sLen_sm r hr
    rw [f_Mod_say_2_2, if_pos (show sLn r ≤ nI i from nI_le (by omega) (by omega))]
    exact sQ.ret h
  | d + 1, i, nn, α, h, hi, hn => by
    obtain ⟨nn, rfl⟩ : ∃ n', nn = n' + 1 := ⟨nn - 1, by omega⟩
    have h9 := sLen_sm r hr
    have hc : sCh r (nI i) = some ((sByt.getD r []).getD (nI i).toNatClampNeg 0) := by
      unfold sCh
      rw [if_neg]
      rintro (z | z)
      · exact nI_pos (by omega) z
      · rw [nI_clamp (by omega)] at z; omega
    rw [f_Mod_say_2_2, if_neg (show ¬ sLn r ≤ nI i from nI_ge (by omega) (by omega))]
    refine sQ.ob hc ((say0 _ h).bv fun β _ o => ?_)
    rw [nI_1]
    exact say2_go hr d (i + 1) nn β o (by omega) (by omega)
theorem say2 {r : Nat} (hN : 400000 < N) (hr : r < 51) (h : OS α) : sQ (f_Mod_say_2 N r α) α := by
  have h9 := sLen_sm r hr
  exact say2_go hr (sLen.getD r 0) 0 N α h (by omega) (by omega)
theorem sayN_go : ∀ (d : Nat) (v : Int32) (α : mS), OS α → (v ≤ 9 ∨ ∃ m, v = nI m ∧ m < 10 ^ d ∧ m < 2 ^ 31) → 1 ≤ d → sQ (G_sayNumber N d v α) α
  | 0, _, _, _, _, h => absurd h (by decide)
  | d + 1, v, α, h, hv, _ => by
    show sQ (f_Mod_sayNumber N (G_sayNumber N d) v α) α
    have j14 : ∀ γ, OS γ → sQ (f_Mod_sayNumber_j14 N (G_sayNumber N d) v γ) γ := fun γ o => by
      unfold f_Mod_sayNumber_j14
      exact (say0 _ o).end
    unfold f_Mod_sayNumber
    refine sQ.ite (fun _ => j14 α h) fun c => ?_
    obtain ⟨m, rfl, hm, h31⟩ := hv.resolve_left c
    have m9 : 9 < m := Nat.not_le.mp fun z => c (nI_le (b := 9) z (by decide))
    have hd : 1 ≤ d := by
      cases d with
      | zero => exact absurd hm (by omega)
      | succ d => omega
    rw [show nI m / 10 = nI (m / 10) from pk_div h31 (by decide) (by decide)]
    refine (sayN_go d _ α h (Or.inr ⟨_, rfl, ?_, by omega⟩) hd).bv fun β _ o => j14 β o
    rw [Nat.pow_succ] at hm
    omega
theorem sayN (v : Int32) (h : OS α) : sQ (G_sayNumber N dp_sayNumber v α) α := by
  refine sayN_go dp_sayNumber v α h ?_ (by decide)
  by_cases hv : v < 0
  · exact Or.inl (Int32.le_of_lt (Int32.lt_trans hv (by decide)))
  · obtain ⟨m, hm, e⟩ := nI_of hv
    refine Or.inr ⟨m, e, ?_, hm⟩
    show m < 10 ^ 12
    omega
theorem saySort_ok (hN : 400000 < N) (v : Int32) (h : OS α) : sQ (f_Mod_saySort N v α) α := by
  unfold f_Mod_saySort
  refine sQ.ite (fun _ => (say2 hN (by decide) h).end) fun _ => (say2 hN (by decide) h).bv fun β _ o => (sayN _ o).end
/-- names of the CONSTANTS -/
def NMs (L : Nat) (α : mS) : Prop := L ≤ 301 ∧ ∀ j, j < L → ∃ a z, α.2 10 j = nI a ∧ α.2 11 j = nI z ∧ a + z ≤ 9400
theorem NMs.ch {L : Nat} {I R : List Nat} {β : mS} (h : NMs L α) (hc : mch I R α β) (h10 : 10 ∉ R) (h11 : 11 ∉ R) : NMs L β := ⟨h.1, fun j hj => by rw [hc.arr h10, hc.arr h11]; exact h.2 j hj⟩
theorem sayName_go {j a z : Nat} (hj : j < 301) (hz : a + z ≤ 9400) : ∀ (d i nn : Nat) (α : mS), OS α → α.2 10 j = nI a → α.2 11 j = nI z → i + d = z → d < nn → sQ (f_Mod_sayName_2 N nn (nI i) (nI j) α) α
  | 0, i, nn, α, h, ea, ez, hi, hn => by
    obtain ⟨nn, rfl⟩ : ∃ n', nn = n' + 1 := ⟨nn - 1, by omega⟩
    rw [f_Mod_sayName_2, nI_clamp (show j < 2 ^ 31 by omega), ez]
    refine sQ.ix (mix' hj (by decide)) ?_
    rw [if_pos (nI_le (by omega) (by omega))]
    exact sQ.ret h
  | d + 1, i, nn, α, h, ea, ez, hi, hn => by
    obtain ⟨nn, rfl⟩ : ∃ n', nn = n' + 1 := ⟨nn - 1, by omega⟩
    rw [f_Mod_sayName_2, nI_clamp (show j < 2 ^ 31 by omega), ez, ea, nI_add]
    refine sQ.ix (mix' hj (by decide)) ?_
    rw [if_neg (nI_ge (by omega) (by omega))]
    refine sQ.ix (mix' hj (by decide)) (sQ.ix (mix (by omega) (by decide)) ((say0 _ h).bv fun β c o => ?_))
    rw [nI_1]
    exact sayName_go hj hz d (i + 1) nn β o (by rw [c.arr (by decide)]; exact ea) (by rw [c.arr (by decide)]; exact ez) (by omega) (by omega)
theorem sayName_ok {L j : Nat} (hN : 400000 < N) (hn : NMs L α) (hj : j < L) (h : OS α) : sQ (f_Mod_sayName N (nI j) α) α := by
  obtain ⟨a, z, e1, e2, e3⟩ := hn.2 j hj
  have := hn.1
  exact sayName_go (by omega) e3 z 0 N α h e1 e2 (by omega) (by omega)
end SAY
section SAYT
variable {N Lc : Nat} {Lr : Nat → Prop} {L : Nat} {V : Nat → Prop} {kk : (Nat → Int32 → Int32 → mS → Option (kO × mS)) × (Int32 → Int32 → Int32 → mS → Option (kO × mS)) × (Int32 → Int32 → mS → Option (kO × mS))}
/-- what showing a TERM needs -/
def SE (V : Nat → Prop) (Lc : Nat) (Lr : Nat → Prop) (α : mS) : Prop := nWf V Lc Lr α ∧ (∃ M, NMs M α ∧ Lc ≤ M ∧ ∀ j, Lr j → j < M) ∧ OS α
theorem SE.ch {α β : mS} (h : SE V Lc Lr α) (hc : mch [1] [1] α β) (ho : OS β) : SE V Lc Lr β := by
  obtain ⟨h1, ⟨M, a, b⟩, -⟩ := h
  exact ⟨h1.sn (sN.ch hc fun r a b z => by have := List.mem_singleton.mp z; omega), ⟨M, a.ch hc (by decide) (by decide), b⟩, ho⟩
theorem sn1 {α β : mS} (hc : mch [1] [1] α β) : sN V α β := sN.ch hc fun r a b z => by have := List.mem_singleton.mp z; omega
def need (α : mS) (t : Nat) : Nat := 4 * uD α t - (if uK α t = 8 then 0 else 2)
theorem need_le {α : mS} {t d : Nat} (h : uD α t ≤ d) : need α t ≤ 4 * d := by unfold need; omega
def SyS (V : Nat → Prop) (Lc : Nat) (Lr : Nat → Prop) (L : Nat) (f : Int32 → Int32 → mS → Option (kO × mS)) : Prop := ∀ (α : mS) (t : Nat) (ar : Int32), SE V Lc Lr α → V t → clo α t → uD α t ≤ 200 → need α t ≤ L → sQ (f (nI t) ar α) α
theorem sayIn_ok (hk : SyS V Lc Lr L kk.2.2) {α : mS} {t : Nat} {ar b : Int32} (h : SE V Lc Lr α) (ht : V t) (hc : clo α t) (hd : uD α t ≤ 200) (hl : need α t ≤ L) : sQ (f_Mod_sayIn N kk (nI t) ar b α) α := by
  have j10 : ∀ γ, mch [1] [1] α γ → OS γ → sQ (f_Mod_sayIn_j10 N kk (nI t) ar b γ) γ := fun γ c o => by
    have s := sn1 (V := V) c
    unfold f_Mod_sayIn_j10
    refine (hk γ t ar (h.ch c o) ht (hc.sn h.1 s ht) (by rw [s.d ht]; exact hd) (by unfold need; rw [s.d ht, s.k ht]; exact hl)).bv fun β _ o => sQ.ite (fun _ => sQ.ret o) fun _ => (say0 _ o).end
  unfold f_Mod_sayIn
  exact sQ.ite (fun _ => j10 α mch.rf h.2.2) fun _ => (say0 _ h.2.2).bv fun β c o => j10 β c o
theorem sayB_ok (hN : 400000 < N) (hk : SyS V Lc Lr L kk.2.2) {α : mS} {t r : Nat} {ar : Int32} (hr : r < 51) (h : SE V Lc Lr α) (ht : V t) (h6 : 6 ≤ uK α t) (hc : clo α t) (hd : uD α t ≤ 200) (hl : need α (uA α t) ≤ L) : sQ (f_Mod_sayBinder N kk r (nI t) ar α) α := by
  unfold f_Mod_sayBinder
  refine (say2 hN hr h.2.2).bv fun β c1 o1 => (sayN _ o1).bv fun γ c2 o2 => (say2 hN (by decide) o2).bv fun δ c3 o3 => ?_
  have c := (c1.tr c2).tr c3
  have s := sn1 (V := V) c
  have p3 := h.1.p3 ht h6
  rw [h.1.cl ht, s t ht 3 (by decide) (by decide), p3.1]
  have dd := (h.1.dd ht h6).2.1
  exact sQ.ix (h.1.ix ht) (hk δ _ ar (h.ch c o3) p3.2.2 ((hc.p h6).1.sn h.1 s p3.2.2) (by rw [s.d p3.2.2]; omega) (by unfold need; rw [s.d p3.2.2, s.k p3.2.2]; exact hl)).end
theorem binds_ok {α : mS} {x : Nat} (hW : nWf V Lc Lr α) (hx : V x) : oK (f_Mod_binds N (nI x) α) := by
  unfold f_Mod_binds
  rw [hW.cl hx]
  have ix := hW.ix hx
  exact oK.ix ix (oK.ite (fun _ => oK.so) fun _ => oK.ix ix (oK.ite (fun _ => oK.so) fun _ => oK.ix ix (oK.ite (fun _ => oK.so) fun _ => oK.so)))
theorem say_170 {t b D : Nat} {ar : Int32} (hN : 400000 < N) (hk : ∀ (α : mS) (x : Nat) (ar b : Int32), SE V Lc Lr α → V x → clo α x → uD α x + 1 ≤ D → sQ (kk.2.1 (nI x) ar b α) α) : ∀ (d i nn : Nat) (α : mS), i + d = b → d < nn → SE V Lc Lr α → V t → clo α t → uD α t ≤ D → apn α b t → sQ (f_Mod_say_1_170 N kk nn (nI i) (nI b) (nI t) ar α) α
  | 0, i, nn, α, hi, hn, h, ht, hc, hD, ha => by
    obtain ⟨nn, rfl⟩ : ∃ n', nn = n' + 1 := ⟨nn - 1, by omega⟩
    have l := (itr_v h.1 ht b ha).2
    have t4 := (h.1 t ht).1
    rw [f_Mod_say_1_170, if_pos (nI_le (by omega) (by omega))]
    exact sQ.ret h.2.2
  | d + 1, i, nn, α, hi, hn, h, ht, hc, hD, ha => by
    obtain ⟨nn, rfl⟩ : ∃ n', nn = n' + 1 := ⟨nn - 1, by omega⟩
    have l := (itr_v h.1 ht b ha).2
    have t4 := (h.1 t ht).1
    rw [f_Mod_say_1_170, if_neg (nI_ge (by omega) (by omega))]
    obtain ⟨r, er, er2, vr, dr⟩ := nth_m hN h.1 ht ha (show i < b by omega)
    have cr : clo α r := by
      have a1 : apn α (b - 1 - i) t := fun j hj => ha j (by omega)
      rw [er2]
      exact ((hc.itr h.1 _ a1).p (by rw [ha (b - 1 - i) (by omega)]; decide)).2.1
    refine sQ.ob er ((say0 _ h.2.2).bv fun β c1 o1 => ?_)
    have s1 := sn1 (V := V) c1
    have h1 := h.ch c1 o1
    rw [h1.1.cl vr, nI_1]
    have go : ∀ bb, sQ (mBv (kk.2.1 (nI r) ar bb β) fun γ => f_Mod_say_1_170 N kk nn (nI (i + 1)) (nI b) (nI t) ar γ) β := fun bb => (hk β r ar bb h1 vr (cr.sn h.1 s1 vr) (by rw [s1.d vr]; omega)).bv fun γ c2 o2 => by
      have s2 := sn1 (V := V) (c1.tr c2)
      exact say_170 hN hk d (i + 1) nn γ (by omega) (by omega) (h1.ch c2 o2) ht (hc.sn h.1 s2 ht) (by rw [s2.d ht]; exact hD) (apn_sn h.1 s2 ht ha)
    exact sQ.ix (h1.1.ix vr) (sQ.ite (fun _ => go 0) fun _ => go 1)
theorem say_1 (hN : 400000 < N) (hB : ∀ (α : mS) (t r : Nat) (ar : Int32), r < 51 → SE V Lc Lr α → V t → 6 ≤ uK α t → clo α t → uD α t ≤ 200 → need α (uA α t) ≤ L → sQ (kk.1 r (nI t) ar α) α) (hI : ∀ (α : mS) (t : Nat) (ar b : Int32), SE V Lc Lr α → V t → clo α t → uD α t ≤ 200 → need α t ≤ L → sQ (kk.2.1 (nI t) ar b α) α) (hS : SyS V Lc Lr (L + 1) kk.2.2) : SyS V Lc Lr (L + 2) (f_Mod_say_1 N kk) := by
  intro α t ar h ht hc hd hl
  have hW := h.1
  have ix := hW.ix ht
  have o := h.2.2
  unfold f_Mod_say_1
  rw [hW.cl ht, hW.kd ht]
  obtain ⟨M, nm, l1, l2⟩ := h.2.1
  have nl : 6 ≤ uK α t → uK α t ≠ 8 → 4 * uD α t ≤ L + 4 := fun h6 h8 => by
    unfold need at hl
    rw [if_neg h8] at hl
    omega
  rcases hW.ks ht with l | e | e | e | e
  · rcases l with e | e | e | e | e | e <;> rw [e]
    · exact sQ.ix ix (sQ.ite (fun _ => sQ.ix ix (saySort_ok hN _ o).end) fun z => absurd rfl z)
    · obtain ⟨-, -, -, -, -, -, a7, -, -⟩ := hW t ht
      obtain ⟨ej, hj⟩ := a7 e
      rw [ej]
      exact sQ.ix ix (sQ.ite (fun z => absurd z (by decide)) fun _ => sQ.ite (fun _ => sQ.ix ix (sayName_ok hN nm (by omega) o).end) fun z => absurd rfl z)
    · obtain ⟨-, -, -, -, -, -, -, a8, -⟩ := hW t ht
      obtain ⟨ej, hj⟩ := a8 e
      refine sQ.ix ix (sQ.ite (fun z => absurd z (by decide)) fun _ => sQ.ite (fun z => absurd z (by decide)) fun _ => sQ.ite (fun _ => ?_) fun z => absurd rfl z)
      refine (say2 hN (by decide) o).bv fun β c1 o1 => sQ.ix ix ?_
      rw [sn1 (V := V) c1 t ht 3 (by decide) (by decide), ej]
      exact (sayName_ok hN (nm.ch c1 (by decide) (by decide)) (l2 _ hj) o1).bv fun γ c2 o2 => (say0 _ o2).bv fun δ c3 o3 => sQ.ix ix (saySort_ok hN _ o3).end
    · obtain ⟨v, -, -, z⟩ := hc.f3 e
      exact z.elim
    · refine sQ.ix ix (sQ.ite (fun z => absurd z (by decide)) fun _ => sQ.ite (fun z => absurd z (by decide)) fun _ => sQ.ite (fun z => absurd z (by decide)) fun _ => sQ.ite (fun z => absurd z (by decide)) fun _ => sQ.ite (fun _ => ?_) fun z => absurd rfl z)
      exact (say0 _ o).bv fun β c1 o1 => sQ.ix ix (sayN _ o1).end
    · exact absurd e (hc 1).2.1
  · rw [e]
    refine sQ.ix ix (sQ.ite (fun z => absurd z (by decide)) fun _ => sQ.ite (fun z => absurd z (by decide)) fun _ => sQ.ite (fun z => absurd z (by decide)) fun _ => sQ.ite (fun z => absurd z (by decide)) fun _ => sQ.ite (fun z => absurd z (by decide)) fun _ => sQ.ite (fun z => absurd z (by decide)) fun _ => sQ.ite (fun _ => sQ.ix ix ?_) fun z => absurd rfl z)
    have h6 : 6 ≤ uK α t := by omega
    have p3 := hW.p3 ht h6
    have p4 := hW.p4 ht h6
    have dd := hW.dd ht h6
    have d3 := dd.2.2.1 (by omega)
    have n4 := nl h6 (by omega)
    have n1 := need_le (α := α) (t := uA α t) (d := uD α t - 1) (by omega)
    have n2 := need_le (α := α) (t := uC α t) (d := uD α t - 1) (by omega)
    have j286 : ∀ β, mch [1] [1] α β → OS β → sQ (f_Mod_say_1_j286 N kk (nI t) ar β) β := fun β c oo => by
      have s := sn1 (V := V) c
      unfold f_Mod_say_1_j286
      rw [hW.cl ht, s t ht 4 (by decide) (by decide), p4.1]
      exact sQ.ix ix (hS β _ _ (h.ch c oo) p4.2.2 ((hc.p h6).2.1.sn hW s p4.2.2) (by rw [s.d p4.2.2]; omega) (by unfold need; rw [s.d p4.2.2, s.k p4.2.2]; show need α _ ≤ _; omega)).end
    rw [p3.1, p4.1]
    obtain ⟨z, ez⟩ := boundm_ok hN hW dp_bound (uC α t) 0 p4.2.2 (by show _ ≤ 260; omega)
    obtain ⟨z2, ez2⟩ := binds_ok (N := N) hW p3.2.2
    refine sQ.ob ez (sQ.ite (fun _ => sQ.ix ix (sQ.ix ix (sQ.ob ez2 ?_))) fun _ => ?_)
    · exact (hI α _ ar z2 h p3.2.2 (hc.p h6).1 (by omega) (by omega)).bv fun β c1 o1 => (say2 hN (by decide) o1).bv fun γ c2 o2 => j286 γ (c1.tr c2) o2
    · exact (hB α t 42 ar (by decide) h ht h6 hc hd (by omega)).bv fun β c1 o1 => (say2 hN (by decide) o1).bv fun γ c2 o2 => j286 γ (c1.tr c2) o2
  · rw [e]
    have h6 : 6 ≤ uK α t := by omega
    have p4 := hW.p4 ht h6
    have dd := hW.dd ht h6
    have d3 := dd.2.2.1 (by omega)
    have n4 := nl h6 (by omega)
    have n1 := need_le (α := α) (t := uA α t) (d := uD α t - 1) (by omega)
    have n2 := need_le (α := α) (t := uC α t) (d := uD α t - 1) (by omega)
    refine sQ.ix ix (sQ.ite (fun z => absurd z (by decide)) fun _ => sQ.ite (fun z => absurd z (by decide)) fun _ => sQ.ite (fun z => absurd z (by decide)) fun _ => sQ.ite (fun z => absurd z (by decide)) fun _ => sQ.ite (fun z => absurd z (by decide)) fun _ => sQ.ite (fun z => absurd z (by decide)) fun _ => sQ.ite (fun z => absurd z (by decide)) fun _ => sQ.ite (fun _ => ?_) fun z => absurd rfl z)
    refine (hB α t 46 ar (by decide) h ht h6 hc hd (by omega)).bv fun β c1 o1 => (say2 hN (by decide) o1).bv fun γ c2 o2 => ?_
    have s := sn1 (V := V) (c1.tr c2)
    rw [s t ht 4 (by decide) (by decide), p4.1]
    exact sQ.ix ix (hS γ _ _ (h.ch (c1.tr c2) o2) p4.2.2 ((hc.p h6).2.1.sn hW s p4.2.2) (by rw [s.d p4.2.2]; omega) (by unfold need; rw [s.d p4.2.2, s.k p4.2.2]; show need α _ ≤ _; omega)).end
  · rw [e]
    refine sQ.ix ix (sQ.ite (fun z => absurd z (by decide)) fun _ => sQ.ite (fun z => absurd z (by decide)) fun _ => sQ.ite (fun z => absurd z (by decide)) fun _ => sQ.ite (fun z => absurd z (by decide)) fun _ => sQ.ite (fun z => absurd z (by decide)) fun _ => sQ.ite (fun z => absurd z (by decide)) fun _ => sQ.ite (fun z => absurd z (by decide)) fun _ => sQ.ite (fun z => absurd z (by decide)) fun _ => sQ.ite (fun _ => ?_) fun z => absurd rfl z)
    obtain ⟨b, a1, a2, a3, a4, a5, a6⟩ := head_m hN hW ht
    obtain ⟨z2, ez2⟩ := binds_ok (N := N) hW a5
    have l4 : 4 * uD α t ≤ L + 2 := by
      unfold need at hl
      rw [if_pos e] at hl
      omega
    have dh : uD α (itr α b t) ≤ uD α t := by
      have : ∀ b, apn α b t → uD α (itr α b t) ≤ uD α t := by
        intro b
        induction b with
        | zero => exact fun _ => Nat.le_refl _
        | succ b ih =>
          intro hb
          have h1 : apn α b t := fun j hj => hb j (by omega)
          exact Nat.le_trans (hW.dd (itr_v hW ht b h1).1 (by rw [hb b (by omega)]; decide)).2.1 (ih h1)
      exact this b a1
    refine sQ.ob a4 (sQ.ob a3 (sQ.ob ez2 ((hI α _ ar z2 h a5 (hc.itr hW b a1) (by omega) (by unfold need; rw [if_neg a2]; omega)).bv fun β c1 o1 => ?_)))
    have s := sn1 (V := V) c1
    exact say_170 (D := uD α t) hN (fun γ x ar' bb h' vx cx dx => hI γ x ar' bb h' vx cx (by omega) (by have := need_le (α := γ) (t := x) (d := uD α t - 1) (by omega); omega)) b 0 N β (by omega) (by omega) (h.ch c1 o1) ht (hc.sn hW s ht) (by rw [s.d ht]; omega) (apn_sn hW s ht a1)
  · rw [e]
    have h6 : 6 ≤ uK α t := by omega
    have p4 := hW.p4 ht h6
    have p5 := hW.p5 ht e
    have dd := hW.dd ht h6
    have d3 := dd.2.2.1 (by omega)
    have d5 := dd.2.2.2 e
    have n4 := nl h6 (by omega)
    have n1 := need_le (α := α) (t := uA α t) (d := uD α t - 1) (by omega)
    have n2 := need_le (α := α) (t := uC α t) (d := uD α t - 1) (by omega)
    have n5 := need_le (α := α) (t := uE α t) (d := uD α t - 1) (by omega)
    refine sQ.ix ix (sQ.ite (fun z => absurd z (by decide)) fun _ => sQ.ite (fun z => absurd z (by decide)) fun _ => sQ.ite (fun z => absurd z (by decide)) fun _ => sQ.ite (fun z => absurd z (by decide)) fun _ => sQ.ite (fun z => absurd z (by decide)) fun _ => sQ.ite (fun z => absurd z (by decide)) fun _ => sQ.ite (fun z => absurd z (by decide)) fun _ => sQ.ite (fun z => absurd z (by decide)) fun _ => sQ.ite (fun z => absurd z (by decide)) fun _ => ?_)
    unfold f_Mod_say_1_j334
    refine (hB α t 48 ar (by decide) h ht h6 hc hd (by omega)).bv fun β c1 o1 => (say2 hN (by decide) o1).bv fun γ c2 o2 => ?_
    have s := sn1 (V := V) (c1.tr c2)
    rw [hW.cl ht, s t ht 4 (by decide) (by decide), p4.1]
    refine sQ.ix ix ((hS γ _ _ (h.ch (c1.tr c2) o2) p4.2.2 ((hc.p h6).2.1.sn hW s p4.2.2) (by rw [s.d p4.2.2]; omega) (by unfold need; rw [s.d p4.2.2, s.k p4.2.2]; show need α _ ≤ _; omega)).bv fun δ c3 o3 => (say2 hN (by decide) o3).bv fun ε c4 o4 => ?_)
    have cc := ((c1.tr c2).tr c3).tr c4
    have s2 := sn1 (V := V) cc
    rw [s2 t ht 5 (by decide) (by decide), p5.1]
    exact sQ.ix ix (hS ε _ _ (h.ch cc o4) p5.2.2 (((hc.p h6).2.2 e).sn hW s2 p5.2.2) (by rw [s2.d p5.2.2]; omega) (by unfold need; rw [s2.d p5.2.2, s2.k p5.2.2]; show need α _ ≤ _; omega)).end
/-- a TERM is said -/
theorem say_all (hN : 400000 < N) : ∀ L, SyS V Lc Lr L (G_sayBinder N L).2.2
  | 0 => fun α t ar h ht _ _ hl => by
    have := (h.1 t ht).2.2.2.1.2.1
    unfold need at hl
    split at hl <;> omega
  | 1 => fun α t ar h ht _ _ hl => by
    have := (h.1 t ht).2.2.2.1.2.1
    unfold need at hl
    split at hl <;> omega
  | L + 2 => by
    have s0 := say_all hN L
    exact say_1 hN (fun α t r ar hr h ht h6 hc hd hl => sayB_ok hN s0 hr h ht h6 hc hd hl) (fun α t ar b h ht hc hd hl => sayIn_ok s0 h ht hc hd hl) (say_all hN (L + 1))
theorem say_ok {α : mS} {t : Nat} {ar : Int32} (hN : 400000 < N) (h : SE V Lc Lr α) (ht : V t) (hc : clo α t) (hd : uD α t ≤ 200) : sQ ((G_sayBinder N dp_sayBinder).2.2 (nI t) ar α) α := say_all hN dp_sayBinder α t ar h ht hc hd (by have := need_le hd; show _ ≤ 820; omega)
end SAYT
