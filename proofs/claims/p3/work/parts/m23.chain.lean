-- chain, of, heads, ended, applied2
def FEn (α : mS) (nq : Nat) : Nat → Nat → Prop
  | 0, t => apn α nq t ∧ uK α (itr α nq t) = 1
  | x + 1, t => uK α t = 6 ∧ FEn α nq x (uC α t)
section CHAIN
variable {N : Nat} {W : Nat → Prop} {s Lc : Nat} {Lr : Nat → Prop} {w n U q D : Nat} {S S' : Nat → Prop}
theorem i32_m1 (x : Int32) : x + (-1) = x - 1 := (Int32.sub_eq_add_neg ..).symm
theorem nI_s1 {e : Nat} : nI (e + 1) - 1 = nI e := sub_nI (b := 1) (by omega)
theorem nI_s1_lt {f : Nat} (hf : f < 2 ^ 31) : nI f - 1 < nI f := by
  cases f with
  | zero => decide
  | succ f => rw [nI_s1]; exact nI_lt (by omega) hf
/-- the chain of PI or LAM over the list -/
theorem ch_20 {k f ℓ : Nat} {L : Nat → Nat} {Si : Nat → Nat → Prop} (hN : 400000 < N) (hn : nrm W s) (hk : k = 6 ∨ k = 7) (hq : 4000 ≤ q) (hD : D ≤ 800) (h9 : ℓ ≤ 9000) (hS : ∀ i, f ≤ i → i < ℓ → ∀ v, Si i v → S v ∨ ∃ j, f ≤ j ∧ j < i ∧ L j = v) : ∀ (d e x nn t0 : Nat) (y : Int32) (α : mS), f + d = e → e ≤ ℓ → d < nn → y = nI e - 1 → MV W s Lc Lr U t0 α w n → (∀ i, f ≤ i → i < ℓ → α.2 41 i = nI (L i)) → (∀ i, f ≤ i → i < ℓ → ∃ B, VT W s t0 α n B D (Si i) (L i)) → TM W s t0 α q (D + (ℓ - e)) S x → rI (f_Mod_chain_20 N nn y (nI x) (nI k) (nI f) α) (fun v β => ∃ r t1, v = nI r ∧ QW W s Lc Lr w t0 α n U t1 n β ∧ TM W s t1 β q (D + (ℓ - f)) S r ∧ β.1 30 = nI f ∧ β.2 41 = α.2 41) (XV W s t0 α)
  | 0, e, x, nn, t0, y, α, hd, he, hm, hy, h, hL, hV, hx => by
    obtain ⟨nn, rfl⟩ : ∃ n', nn = n' + 1 := ⟨nn - 1, by omega⟩
    have ef : e = f := by omega
    subst ef
    rw [f_Mod_chain_20, hy, if_pos (nI_s1_lt (by omega))]
    have c1 : mch [30] [] α (mSi α 30 (nI e)) := mch.si (by decide)
    have s1 : ∀ V : Nat → Prop, sN V α (mSi α 30 (nI e)) := fun V => sN.ch c1 (fun r _ _ z => by cases z)
    have g : QW W s Lc Lr w t0 α n U t0 n (mSi α 30 (nI e)) := ⟨Nat.le_refl _, c1.mo (by decide) (fun r z => by cases z), s1 _, ⟨h.1.sn c1 (by decide) (s1 _), h.2⟩, Nat.le_refl _, fun _ _ => rfl⟩
    exact rI.ret ⟨x, t0, rfl, g, hx.qw h.1 g, rfl, rfl⟩
  | d + 1, e, x, nn, t0, y, α, hd, he, hm, hy, h, hL, hV, hx => by
    obtain ⟨nn, rfl⟩ : ∃ n', nn = n' + 1 := ⟨nn - 1, by omega⟩
    obtain ⟨e, rfl⟩ : ∃ e', e = e' + 1 := ⟨e - 1, by omega⟩
    rw [nI_s1] at hy
    obtain ⟨B, ⟨v1, v2⟩, ty, v3, v4, -⟩ := hV e (by omega) (by omega)
    rw [f_Mod_chain_20, hy, if_neg (nI_nlt (by omega) (by omega)), nI_clamp (show e < 2 ^ 31 by omega), hL e (by omega) (by omega), nI_clamp (show L e < 2 ^ 31 by omega), v3]
    refine rI.ix (mix' (show e < 9000 by omega) (by decide)) (rI.ix (mix' v2 (by decide)) ?_)
    refine (under_v (S' := S) hN hn h v4 (by decide) hD (f := f) (ℓ := e) (by omega) (by omega) (fun i i1 hi => hL i i1 (by omega)) (hS e (by omega) (by omega))).bi (fun v β g => ?_) (fun _ g => g)
    obtain ⟨r, t1, rfl, g1, g2⟩ := g
    have hx1 := hx.qw h.1 g1.1
    refine (bnd_v (k := k) hn g1.mv hk (g2.su hq (Nat.le_add_right D (ℓ - (e + 1))) (fun _ z => z)) hx1).bi (fun v γ u => ?_) (fun γ u => g1.1.tx u)
    obtain ⟨r2, t2, rfl, u1, u2, -⟩ := u
    have q2 := g1.tr u1
    have hW := u1.mv.1.2.2.2
    rw [hW.cl u2.1]
    refine rI.ix (hW.ix u2.1) (rI.ite (fun _ => ?_) fun _ => rI.thr (q2.1.tx (mch_v nx_th (by decide))))
    refine (ch_20 hN hn hk hq hD h9 hS d e r2 nn t2 _ γ (by omega) (by omega) (by omega) (i32_m1 _) u1.mv (fun i i1 hi => by rw [q2.2.2.2]; exact hL i i1 hi) (fun i i1 i2 => ?_) (u2.su (Nat.le_refl _) (by omega) (fun _ z => z))).mono (fun v δ z => ?_) (fun δ z => q2.1.tx z)
    · obtain ⟨B, b⟩ := hV i i1 i2
      exact ⟨B, b.qw h.1 q2.1⟩
    · obtain ⟨r3, t3, e3, z1, z2, z3, z4⟩ := z
      exact ⟨r3, t3, e3, q2.1.tr z1, z2, z3, z4.trans q2.2.2.2⟩
theorem chain_ok' {k f ℓ x : Nat} {α : mS} {t0 : Nat} {Sb : Nat → Prop} {L : Nat → Nat} {Si : Nat → Nat → Prop} (hN : 400000 < N) (hn : nrm W s) (hk : k = 6 ∨ k = 7) (hq : 4000 ≤ q) (hq8 : q ≤ 8000) (hD : D ≤ 800) (h9 : ℓ ≤ 9000) (hf : f ≤ ℓ) (hS : ∀ i, f ≤ i → i < ℓ → ∀ v, Si i v → S v ∨ ∃ j, f ≤ j ∧ j < i ∧ L j = v) (hSb : ∀ v, Sb v → S v ∨ ∃ j, f ≤ j ∧ j < ℓ ∧ L j = v) (h : MV W s Lc Lr U t0 α w n) (h30 : α.1 30 = nI ℓ) (hL : ∀ i, f ≤ i → i < ℓ → α.2 41 i = nI (L i)) (hV : ∀ i, f ≤ i → i < ℓ → ∃ B, VT W s t0 α n B D (Si i) (L i)) (hx : TM W s t0 α q D Sb x) : rI (f_Mod_chain N (nI k) (nI f) (nI x) α) (fun v β => ∃ r t1, v = nI r ∧ QW W s Lc Lr w t0 α n U t1 n β ∧ TM W s t1 β q (D + (ℓ - f)) S r ∧ β.1 30 = nI f ∧ β.2 41 = α.2 41) (XV W s t0 α) := by
  unfold f_Mod_chain
  rw [h30]
  refine (under_v (S' := S) hN hn h hx hq8 hD hf h9 hL hSb).bi (fun v β g => ?_) (fun _ g => g)
  obtain ⟨r, t1, rfl, g1, g2⟩ := g
  rw [g1.2.1, h30]
  refine (ch_20 hN hn hk hq hD h9 hS (ℓ - f) ℓ r N t1 _ β (by omega) (Nat.le_refl _) (by omega) rfl g1.mv (fun i i1 hi => by rw [g1.2.2.2]; exact hL i i1 hi) (fun i i1 i2 => ?_) (g2.su (Nat.le_refl _) (by omega) (fun _ z => z))).mono (fun v δ z => ?_) (fun δ z => g1.1.tx z)
  · obtain ⟨B, b⟩ := hV i i1 i2
    exact ⟨B, b.qw h.1 g1.1⟩
  · obtain ⟨r3, t3, e3, z1, z2, z3, z4⟩ := z
    exact ⟨r3, t3, e3, g1.1.tr z1, z2, z3, z4.trans g1.2.2.2⟩
/-- of -/
theorem of_6 {f m : Nat} {P : Nat → Nat} (hN : 400000 < N) (hn : nrm W s) (hD : 2 ≤ D) (hfm : f + m ≤ 5000) : ∀ (d i x nn t0 : Nat) (α : mS), i + d = m → d < nn → MV W s Lc Lr U t0 α w n → (∀ l, l < m → α.2 33 (f + l) = nI (P (f + l)) ∧ P (f + l) < 66000 ∧ S (P (f + l))) → TM W s t0 α (q + i) D S x → rI (f_Mod_of_6 N nn (nI i) (nI x) (nI f) (nI m) α) (fun v β => ∃ r t1, v = nI r ∧ QV W s Lc Lr w t0 α n U t1 n β ∧ TM W s t1 β (q + m) D S r) (XV W s t0 α)
  | 0, i, x, nn, t0, α, hd, hm, h, hP, hx => by
    obtain ⟨nn, rfl⟩ : ∃ n', nn = n' + 1 := ⟨nn - 1, by omega⟩
    have ef : i = m := by omega
    subst ef
    rw [f_Mod_of_6, if_pos (nI_le (by omega) (by omega))]
    exact rI.ret ⟨x, t0, rfl, QV.rf h, hx⟩
  | d + 1, i, x, nn, t0, α, hd, hm, h, hP, hx => by
    obtain ⟨nn, rfl⟩ : ∃ n', nn = n' + 1 := ⟨nn - 1, by omega⟩
    obtain ⟨p1, p2, p3⟩ := hP i (by omega)
    rw [f_Mod_of_6, if_neg (nI_ge (by omega) (by omega)), nI_add, nI_clamp (show f + i < 2 ^ 31 by omega), p1]
    refine rI.ix (mix' (show f + i < 5000 by omega) (by decide)) ((free_v (S := S) hn h p2 p3).bi (fun v β g => ?_) (fun _ g => g))
    obtain ⟨r, t1, rfl, g1, -, g2⟩ := g
    refine (appl_v (q := q + (i + 1)) (D := D) hn g1.mv (hx.qw h.1 g1.1) g2 (by omega) (by omega)).bi (fun v γ u => ?_) (fun γ u => g1.1.tx u)
    obtain ⟨r2, t2, rfl, u1, u2⟩ := u
    have q2 := g1.tr u1
    rw [nI_1]
    refine (of_6 (P := P) hN hn hD hfm d (i + 1) r2 nn t2 γ (by omega) (by omega) u1.mv (fun l hl => ?_) u2).mono (fun v δ z => ?_) (fun δ z => q2.1.tx z)
    · rw [q2.1.2.1.arr (by decide)]; exact hP l hl
    · obtain ⟨r3, t3, e3, z1, z2⟩ := z
      exact ⟨r3, t3, e3, q2.tr z1, z2⟩
theorem of_ok {f m x t0 : Nat} {α : mS} {P : Nat → Nat} (hN : 400000 < N) (hn : nrm W s) (hD : 2 ≤ D) (hfm : f + m ≤ 5000) (h : MV W s Lc Lr U t0 α w n) (hP : ∀ l, l < m → α.2 33 (f + l) = nI (P (f + l)) ∧ P (f + l) < 66000 ∧ S (P (f + l))) (hx : TM W s t0 α q D S x) : rI (f_Mod_of N (nI x) (nI f) (nI m) α) (fun v β => ∃ r t1, v = nI r ∧ QV W s Lc Lr w t0 α n U t1 n β ∧ TM W s t1 β (q + m) D S r) (XV W s t0 α) := by
  unfold f_Mod_of
  exact of_6 (P := P) hN hn hD hfm m 0 x N t0 α (by omega) (by omega) h hP hx
/-- applied2 -/
theorem a2_16 {ℓ x0 : Nat} {L : Nat → Nat} (hN : 400000 < N) (hn : nrm W s) (hD : 2 ≤ D) (h9 : ℓ ≤ 9000) : ∀ (d i x nn t0 : Nat) (α : mS), i + d = ℓ → d < nn → x0 ≤ i → MV W s Lc Lr U t0 α w n → α.1 30 = nI ℓ → (∀ l, x0 ≤ l → l < ℓ → α.2 41 l = nI (L l) ∧ L l < 66000 ∧ S (L l)) → TM W s t0 α (q + (i - x0)) D S x → rI (f_Mod_applied2_16 N nn (nI i) (nI x) α) (fun v β => ∃ r t1, v = nI r ∧ QV W s Lc Lr w t0 α n U t1 n β ∧ TM W s t1 β (q + (ℓ - x0)) D S r) (XV W s t0 α)
  | 0, i, x, nn, t0, α, hd, hm, hi, h, h30, hP, hx => by
    obtain ⟨nn, rfl⟩ : ∃ n', nn = n' + 1 := ⟨nn - 1, by omega⟩
    have ef : i = ℓ := by omega
    subst ef
    rw [f_Mod_applied2_16, h30, if_pos (nI_le (by omega) (by omega))]
    exact rI.ret ⟨x, t0, rfl, QV.rf h, hx⟩
  | d + 1, i, x, nn, t0, α, hd, hm, hi, h, h30, hP, hx => by
    obtain ⟨nn, rfl⟩ : ∃ n', nn = n' + 1 := ⟨nn - 1, by omega⟩
    obtain ⟨p1, p2, p3⟩ := hP i hi (by omega)
    rw [f_Mod_applied2_16, h30, if_neg (nI_ge (by omega) (by omega)), nI_clamp (show i < 2 ^ 31 by omega), p1]
    refine rI.ix (mix' (show i < 9000 by omega) (by decide)) ((free_v (S := S) hn h p2 p3).bi (fun v β g => ?_) (fun _ g => g))
    obtain ⟨r, t1, rfl, g1, -, g2⟩ := g
    refine (appl_v (q := q + (i + 1 - x0)) (D := D) hn g1.mv (hx.qw h.1 g1.1) g2 (by omega) (by omega)).bi (fun v γ u => ?_) (fun γ u => g1.1.tx u)
    obtain ⟨r2, t2, rfl, u1, u2⟩ := u
    have q2 := g1.tr u1
    rw [nI_1]
    refine (a2_16 (L := L) hN hn hD h9 d (i + 1) r2 nn t2 γ (by omega) (by omega) (by omega) u1.mv (q2.2.1.trans h30) (fun l l1 l2 => ?_) u2).mono (fun v δ z => ?_) (fun δ z => q2.1.tx z)
    · rw [q2.2.2.2]; exact hP l l1 l2
    · obtain ⟨r3, t3, e3, z1, z2⟩ := z
      exact ⟨r3, t3, e3, q2.tr z1, z2⟩
theorem app2_ok {ℓ x a t0 : Nat} {α : mS} {L : Nat → Nat} (hN : 400000 < N) (hn : nrm W s) (h9 : ℓ ≤ 9000) (hxl : x ≤ ℓ) (h : MV W s Lc Lr U t0 α w n) (h30 : α.1 30 = nI ℓ) (h31 : α.1 31 = nI x) (ha : a < 66000 ∧ S a) (hL : ∀ l, ℓ - x ≤ l → l < ℓ → α.2 41 l = nI (L l) ∧ L l < 66000 ∧ S (L l)) : rI (f_Mod_applied2 N (nI a) α) (fun v β => ∃ r t1, v = nI r ∧ QV W s Lc Lr w t0 α n U t1 n β ∧ TM W s t1 β x 2 S r) (XV W s t0 α) := by
  unfold f_Mod_applied2
  refine (free_v (S := S) hn h ha.1 ha.2).bi (fun v β g => ?_) (fun _ g => g)
  obtain ⟨r, t1, rfl, g1, -, g2⟩ := g
  rw [g1.2.1, g1.2.2.1, h30, h31, sub_nI hxl]
  refine (a2_16 (L := L) (q := 0) (x0 := ℓ - x) hN hn (Nat.le_refl 2) h9 x (ℓ - x) r N t1 β (by omega) (by omega) (Nat.le_refl _) g1.mv (g1.2.1.trans h30) (fun l l1 l2 => by rw [g1.2.2.2]; exact hL l l1 l2) (g2.su (by omega) (by omega) (fun _ z => z))).mono (fun v δ z => ?_) (fun δ z => g1.1.tx z)
  obtain ⟨r3, t3, e3, z1, z2⟩ := z
  exact ⟨r3, t3, e3, g1.tr z1, z2.su (by omega) (Nat.le_refl _) (fun _ z => z)⟩
/-- onto the list -/
theorem push_q {t0 ℓ : Nat} {X : Int32} {α : mS} (h : MV W s Lc Lr U t0 α w n) (h30 : α.1 30 = nI ℓ) (h9 : ℓ < 9000) : ∃ γ, mSA (mSi α 30 (α.1 30 + 1)) 41 (upd ((mSi α 30 (α.1 30 + 1)).2 41) (α.1 30).toNatClampNeg X) = γ ∧ ¬ (α.1 30 < 0 ∨ 9000 ≤ (α.1 30).toNatClampNeg) ∧ mch [30] [41] α γ ∧ QW W s Lc Lr w t0 α n U t0 n γ ∧ γ.1 30 = nI (ℓ + 1) ∧ γ.2 41 = upd (α.2 41) ℓ X := by
  rw [h30, nI_1, nI_clamp (show ℓ < 2 ^ 31 by omega)]
  have c1 : mch [30] [41] α (mSA (mSi α 30 (nI (ℓ + 1))) 41 (upd ((mSi α 30 (nI (ℓ + 1))).2 41) ℓ X)) := (mch.si (by decide)).tr (mch.sA (by decide))
  have s1 : sN (vd W s t0) α (mSA (mSi α 30 (nI (ℓ + 1))) 41 (upd ((mSi α 30 (nI (ℓ + 1))).2 41) ℓ X)) := sN.ch c1 (fun r a b z => by have := List.mem_singleton.mp z; omega)
  exact ⟨_, rfl, mix' h9 (by decide), c1, ⟨Nat.le_refl _, c1.mo (by decide) (by decide), s1, ⟨h.1.sn c1 (by decide) s1, h.2⟩, Nat.le_refl _, fun _ _ => rfl⟩, rfl, rfl⟩
theorem FEn.sn {V : Nat → Prop} {α β : mS} (hW : nWf V Lc Lr α) (hs : sN V α β) {nq : Nat} : ∀ {x t : Nat}, V t → FEn α nq x t → FEn β nq x t
  | 0, t, ht, h => ⟨apn_sn hW hs ht h.1, by rw [itr_sn hW hs ht nq h.1, hs.k (itr_v hW ht nq h.1).1]; exact h.2⟩
  | x + 1, t, ht, h => ⟨by rw [hs.k ht]; exact h.1, by rw [hs.c ht]; exact FEn.sn hW hs (hW.p4 ht (by rw [h.1]; decide)).2.2 h.2⟩
theorem Rn_apn {Rl : mS → Nat → Nat → Prop} {α : mS} : ∀ (b m t r : Nat), Rn Rl α m t r → apn α b t → apn α b r ∧ ∃ m', Rn Rl α m' (itr α b t) (itr α b r)
  | 0, m, t, r, h, _ => ⟨fun j hj => by omega, m, h⟩
  | b + 1, m, t, r, h, ha => by
    obtain ⟨a1, m', a2⟩ := Rn_apn b m t r h (fun j hj => ha j (by omega))
    have k8 := ha b (by omega)
    cases m' with
    | zero => exact a2.elim
    | succ m' =>
      rcases a2 with ⟨h1, -⟩ | ⟨h1, h2, h3, -⟩
      · omega
      · refine ⟨fun j hj => ?_, m', h3⟩
        rcases Nat.lt_or_ge j b with z | z
        · exact a1 j z
        · have : j = b := by omega
          rw [this, h2]; exact k8
theorem FEn.put {α : mS} {v nq : Nat} : ∀ {x t r : Nat}, Rs (RPut v) α t r → FEn α nq x t → FEn α nq x r
  | 0, t, r, ⟨m, h⟩, f => by
    obtain ⟨a, m', b⟩ := Rn_apn nq m t r h f.1
    refine ⟨a, ?_⟩
    cases m' with
    | zero => exact b.elim
    | succ m' =>
      rcases b with ⟨-, b | ⟨b, -⟩⟩ | ⟨b, -⟩
      · rw [b]; exact f.2
      · rw [f.2] at b; cases b
      · rw [f.2] at b; omega
  | x + 1, t, r, ⟨m, h⟩, f => by
    have f1 := f.1
    cases m with
    | zero => exact h.elim
    | succ m =>
      rcases h with ⟨h1, -⟩ | ⟨h1, h2, h3, h4, -⟩
      · omega
      · exact ⟨h2.trans f1, FEn.put ⟨m, h4⟩ f.2⟩
theorem FEn.ne {α : mS} {nq t : Nat} (h : FEn α nq 0 t) : uK α t ≠ 6 := by
  cases nq with
  | zero => have := h.2; rw [show itr α 0 t = t from rfl] at this; omega
  | succ q => have := h.1 0 (by omega); rw [show itr α 0 t = t from rfl] at this; omega
theorem FEn.sz {V : Nat → Prop} {α : mS} (hW : nWf V Lc Lr α) {nq : Nat} : ∀ {x t : Nat}, V t → FEn α nq x t → uB α t < 1000000 → x + 1 ≤ uD α t ∧ 2 * x + 1 ≤ uB α t
  | 0, t, ht, _, _ => by
    obtain ⟨-, -, ⟨-, b, -⟩, ⟨-, d, -⟩, -⟩ := hW t ht
    omega
  | x + 1, t, ht, h, hb => by
    have h6 : 6 ≤ uK α t := by rw [h.1]; decide
    have e := big_eq hW ht h6 hb
    have d := hW.dd ht h6
    have a1 := big_pos hW (hW.p3 ht h6).2.2
    obtain ⟨i1, i2⟩ := FEn.sz hW (hW.p4 ht h6).2.2 h.2 (by omega)
    omega
/-- ended: the VARIABLES of a PI chain, its end -/
theorem en_7 {nq Q : Nat} (hQ : Q ≤ 4000) (hN : 400000 < N) (hn : nrm W s) : ∀ (x ℓ xs ty nn t0 n U : Nat) (S : Nat → Prop) (α : mS), x < nn → MV W s Lc Lr U t0 α w n → α.1 30 = nI ℓ → ℓ + x ≤ 9000 → α.1 31 = nI xs → U + x ≤ 6000 → FEn α nq x ty → TM W s t0 α Q 200 S ty → rI (f_Mod_ended_7 N nn (nI ty) α) (fun v β => ∃ r t1, v = nI r ∧ QW W s Lc Lr w t0 α n (U + x) t1 (n + x) β ∧ TM W s t1 β Q 200 (fun v => S v ∨ n ≤ v ∧ v < n + x) r ∧ apn β nq r ∧ β.1 30 = nI (ℓ + x) ∧ β.1 31 = nI (xs + x) ∧ (∀ i, i < ℓ → β.2 41 i = α.2 41 i) ∧ ∀ l, l < x → β.2 41 (ℓ + l) = nI (n + l) ∧ VT W s t1 β (n + x) 1000000 200 (fun v => S v ∨ n ≤ v ∧ v < n + l) (n + l)) (XV W s t0 α)
  | 0, ℓ, xs, ty, nn, t0, n, U, S, α, hm, h, h30, h9, h31, hU, hf, ht => by
    obtain ⟨nn, rfl⟩ : ∃ n', nn = n' + 1 := ⟨nn - 1, by omega⟩
    have hW := h.1.2.2.2
    rw [f_Mod_ended_7, hW.cl ht.1]
    refine rI.ix (hW.ix ht.1) (rI.ite (fun z => absurd ((hW.is ht.1 (m := 6) (by decide)).mp z) hf.ne) fun _ => rI.ret ⟨ty, t0, rfl, QW.rf h, ht.su (Nat.le_refl _) (Nat.le_refl _) (fun _ z => Or.inl z), hf.1, h30, h31, fun _ _ => rfl, fun l hl => by omega⟩)
  | x + 1, ℓ, xs, ty, nn, t0, n, U, S, α, hm, h, h30, h9, h31, hU, hf, ht => by
    obtain ⟨nn, rfl⟩ : ∃ n', nn = n' + 1 := ⟨nn - 1, by omega⟩
    have hW := h.1.2.2.2
    have k6 := hf.1
    have h6 : 6 ≤ uK α ty := by omega
    have p3 := hW.p3 ht.1 h6
    have p4 := hW.p4 ht.1 h6
    have dd := hW.dd ht.1 h6
    have sp := ht.2.2.1.bnd h6 (by omega)
    have ap := ht.2.2.2.p h6
    have td := ht.2.1
    have ta : TM W s t0 α Q 200 S (uA α ty) := ⟨p3.2.2, by omega, sp.1, ap.1⟩
    have tc : TM W s t0 α Q 200 S (uC α ty) := ⟨p4.2.2, by omega, sp.2.1, ap.2.1⟩
    rw [f_Mod_ended_7, hW.cl ht.1, p3.1]
    refine rI.ix (hW.ix ht.1) (rI.ite (fun _ => rI.ix (hW.ix ht.1) ?_) fun z => absurd ((hW.is ht.1 (m := 6) (by decide)).mpr k6) z)
    refine (fresh_v hn h (by omega)).bi (fun v β g => ?_) (fun _ g => g)
    obtain ⟨v, t1, rfl, g1, ⟨g2, g3⟩, g4, g5, g6⟩ := g
    have hW1 := g1.mv.1.2.2.2
    obtain ⟨γ, eγ, c1, c2, c3, c4, c5⟩ := push_q (X := β.2 3 v) g1.mv (g1.2.1.trans h30) (by omega)
    rw [hW1.cl g6.1]
    refine rI.ix (hW1.ix g6.1) (rI.ix c1 (rI.ix (hW.ix ht.1) ?_))
    show rI (mBi (f_Mod_put N ((mSA (mSi β 30 (β.1 30 + 1)) 41 (upd ((mSi β 30 (β.1 30 + 1)).2 41) (β.1 30).toNatClampNeg (β.2 3 v))).2 4 ty) (nI v) (mSA (mSi β 30 (β.1 30 + 1)) 41 (upd ((mSi β 30 (β.1 30 + 1)).2 41) (β.1 30).toNatClampNeg (β.2 3 v)))) _) _ _
    rw [eγ]
    have q2 := g1.1.tr c3
    rw [q2.2.2.1 ty ht.1 4 (by decide) (by decide), p4.1]
    have kv : uK γ v = 3 := by rw [c3.2.2.1.k g6.1]; exact g2
    refine (put_v hN hn c3.mv ((tc.qw h.1 q2).su (S' := fun v => S v ∨ v = n) (Nat.le_refl _) (Nat.le_refl _) (fun _ z => Or.inl z)) ((g6.qw g1.mv.1 c3).su (Nat.le_refl _) (Nat.le_refl _) (fun _ z => Or.inr z)) kv (by decide) (by omega) (by decide)).bi (fun z δ u => ?_) (fun δ u => q2.tx u)
    obtain ⟨r, t2, rfl, u1, u2, -, u3⟩ := u
    have q3 := q2.tr u1.1
    have d31 : δ.1 31 = nI xs := by rw [u1.2.2.1, c2.int (by decide), g1.2.2.1]; exact h31
    rw [d31, nI_1]
    obtain ⟨ε, eε⟩ : ∃ ε, ε = mSi δ 31 (nI (xs + 1)) := ⟨_, rfl⟩
    rw [← eε]
    have ce : mch [31] [] δ ε := by rw [eε]; exact mch.si (by decide)
    have se : ∀ V : Nat → Prop, sN V δ ε := fun V => sN.ch ce (fun r _ _ z => by cases z)
    have q4 : QW W s Lc Lr w t2 δ (n + 1) (U + 1) t2 (n + 1) ε := ⟨Nat.le_refl _, ce.mo (by decide) (fun r z => by cases z), se _, ⟨u1.mv.1.sn ce (by decide) (se _), by rw [eε]; exact u1.mv.2⟩, Nat.le_refl _, fun i _ => by rw [ce.arr (fun z => by cases z)]⟩
    have q5 := q3.tr q4
    have e30 : ε.1 30 = nI (ℓ + 1) := by rw [ce.int (by decide), u1.2.1]; exact c4
    have e41 : ε.2 41 = upd (α.2 41) ℓ (nI n) := by rw [ce.arr (fun z => by cases z), u1.2.2.2, c5, g1.2.2.2, g3]
    have fe : FEn ε nq x r := by
      have hWγ := c3.mv.1.2.2.2
      have f1 : FEn γ nq x (uC α ty) := FEn.sn hW q2.2.2.1 p4.2.2 hf.2
      exact FEn.sn u1.mv.1.2.2.2 (se _) u2.1 (FEn.put u3 (FEn.sn hWγ u1.1.2.2.1 (q2.v p4.2.2) f1))
    refine (en_7 hQ hN hn x (ℓ + 1) (xs + 1) r nn t2 (n + 1) (U + 1) (fun v => S v ∨ v = n) ε (by omega) q4.mv e30 (by omega) (by rw [eε]; rfl) (by omega) fe (u2.qw u1.mv.1 q4)).mono (fun z ζ y => ?_) (fun ζ y => q5.tx y)
    obtain ⟨r2, t3, e2, y1, y2, y3, y4, y5, y6, y7⟩ := y
    have q6 := q5.tr y1
    have sub : ∀ m v, (S v ∨ v = n) ∨ n + 1 ≤ v ∧ v < n + 1 + m → S v ∨ n ≤ v ∧ v < n + (m + 1) := fun m v z => by
      rcases z with (z | z) | z
      · exact Or.inl z
      · exact Or.inr (by omega)
      · exact Or.inr (by omega)
    refine ⟨r2, t3, e2, ?_, y2.su (Nat.le_refl _) (Nat.le_refl _) (sub x), y3, by rw [y4]; congr 1; omega, by rw [y5]; congr 1; omega, fun i hi => ?_, fun l hl => ?_⟩
    · rw [show U + (x + 1) = U + 1 + x by omega, show n + (x + 1) = n + 1 + x by omega]; exact q6
    · rw [y6 i (by omega), e41, upd_ne (by omega)]
    · cases l with
      | zero =>
        refine ⟨by rw [y6 (ℓ + 0) (by omega), e41]; exact upd_at, ?_⟩
        have vt : VT W s t1 β (n + 1) 1000000 200 (fun v => S v ∨ n ≤ v ∧ v < n + 0) n := ⟨⟨by omega, g4⟩, _, g5, ((ta.qw h.1 g1.1).su hQ (Nat.le_refl _) (fun _ z => Or.inl z)), (hW1 _ (ta.qw h.1 g1.1).1).2.2.1.2.2⟩
        have := vt.qw g1.mv.1 (c3.tr (u1.1.tr (q4.tr y1)))
        rw [show n + (x + 1) = n + 1 + x by omega]; exact this
      | succ l =>
        obtain ⟨y8, y9⟩ := y7 l (by omega)
        refine ⟨by rw [show ℓ + (l + 1) = ℓ + 1 + l by omega, y8]; congr 1; omega, ?_⟩
        rw [show n + (x + 1) = n + 1 + x by omega, show n + (l + 1) = n + 1 + l by omega]
        exact y9.su (Nat.le_refl _) (Nat.le_refl _) (fun v z => by have := sub l v z; rcases this with y | y; exact Or.inl y; exact Or.inr (by omega))
theorem ended_ok {nq x ℓ ty t0 Q : Nat} {α : mS} (hQ : Q ≤ 4000) (hN : 400000 < N) (hn : nrm W s) (h : MV W s Lc Lr U t0 α w n) (h30 : α.1 30 = nI ℓ) (h9 : ℓ + x ≤ 9000) (hU : U + x ≤ 6000) (hx : x < N) (hf : FEn α nq x ty) (ht : TM W s t0 α Q 200 S ty) : rI (f_Mod_ended N (nI ty) α) (fun v β => ∃ r t1, v = nI r ∧ QW W s Lc Lr w t0 α n (U + x) t1 (n + x) β ∧ TM W s t1 β Q 200 (fun v => S v ∨ n ≤ v ∧ v < n + x) r ∧ apn β nq r ∧ β.1 30 = nI (ℓ + x) ∧ β.1 31 = nI x ∧ (∀ i, i < ℓ → β.2 41 i = α.2 41 i) ∧ ∀ l, l < x → β.2 41 (ℓ + l) = nI (n + l) ∧ VT W s t1 β (n + x) 1000000 200 (fun v => S v ∨ n ≤ v ∧ v < n + l) (n + l)) (XV W s t0 α) := by
  unfold f_Mod_ended
  obtain ⟨ε, eε⟩ : ∃ ε, ε = mSi α 31 0 := ⟨_, rfl⟩
  rw [← eε]
  have ce : mch [31] [] α ε := by rw [eε]; exact mch.si (by decide)
  have se : ∀ V : Nat → Prop, sN V α ε := fun V => sN.ch ce (fun r _ _ z => by cases z)
  have q4 : QW W s Lc Lr w t0 α n U t0 n ε := ⟨Nat.le_refl _, ce.mo (by decide) (fun r z => by cases z), se _, ⟨h.1.sn ce (by decide) (se _), by rw [eε]; exact h.2⟩, Nat.le_refl _, fun i _ => by rw [ce.arr (fun z => by cases z)]⟩
  refine (en_7 (xs := 0) hQ hN hn x ℓ ty N t0 n U S ε hx q4.mv ((ce.int (by decide)).trans h30) h9 (by rw [eε]; rfl) hU (FEn.sn h.1.2.2.2 (se _) ht.1 hf) (ht.qw h.1 q4)).mono (fun z ζ y => ?_) (fun ζ y => q4.tx y)
  obtain ⟨r2, t3, e2, y1, y2, y3, y4, y5, y6, y7⟩ := y
  exact ⟨r2, t3, e2, q4.tr y1, y2, y3, y4, by rw [y5, Nat.zero_add], fun i hi => by rw [y6 i hi, ce.arr (fun z => by cases z)], y7⟩
/-- an argument of an application -/
theorem nth_v {nq k e t0 : Nat} {α : mS} (hN : 400000 < N) (h : PO W s Lc Lr t0 α) (he : TM W s t0 α q (D + 1) S e) (ha : apn α nq e) (hk : k < nq) : ∃ r, f_Mod_nth N (nI e) (nI nq) (nI k) α = some (nI r) ∧ TM W s t0 α q D S r := by
  have hW := h.2.2.2
  obtain ⟨r, er, e2, vr, dr⟩ := nth_m hN hW he.1 ha hk
  have a1 : apn α (nq - 1 - k) e := fun j hj => ha j (by omega)
  have k8 := ha (nq - 1 - k) (by omega)
  have spi : ∀ b, apn α b e → SP α q (itr α b e) := by
    intro b
    induction b with
    | zero => exact fun _ => he.2.2.1
    | succ b ih =>
      intro hb
      exact (((ih fun j hj => hb j (by omega)).app (hb b (by omega))).2.1).up (by omega)
  refine ⟨r, er, vr, by have := he.2.1; omega, ?_, ?_⟩
  · rw [e2]; exact ((spi _ a1).app k8).2.2
  · rw [e2]; exact ((he.2.2.2.itr hW _ a1).p (by omega)).2.1
end CHAIN
