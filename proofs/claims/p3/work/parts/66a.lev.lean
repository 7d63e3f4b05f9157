-- NORMAL FORM alone: the levels at each frame
theorem FP.fl {α : kS} {y t : Nat} (hO : kOk α) (h : FP α y (nI t)) (ht : t < tn α) : FL α y t := by
  obtain ⟨-, hn, -⟩ := hO.n
  obtain ⟨t', e, h1, h2⟩ := h
  have : t' = t := (nI_eq (by omega) (by omega)).mp e.symm
  subst this
  exact h2
theorem lvk1 {α : kS} {m y : Nat} {key : Int32} (hm : m ≤ 1) (h : FP α y key) : lvk m key y y α := Or.inl ⟨hm, rfl, h⟩
theorem aP_max {α : kS} : ∀ (b j : Nat) {p : Int32}, aP α b p → f_Terms_kind (spn α b p) α ≠ 5 → aP α j p → j ≤ b
  | _, 0, _, _, _, _ => Nat.zero_le _
  | 0, j + 1, _, _, h, h' => absurd h'.1 h
  | b + 1, j + 1, _, h1, h, h' => Nat.succ_le_succ (aP_max b j h1.2 h h'.2)
theorem spn_g {α β : kS} (hO : kOk α) (hW : tWf α) (hO' : kOk β) (hg : grw α β) : ∀ (k : Nat) {p : Int32}, qP α p → aP α k p → spn β k p = spn α k p
  | 0, _, _, _ => rfl
  | k + 1, p, hp, h => by
    have h1 := (app_parts hO hW hp h.1).1
    obtain ⟨j, rfl, hj⟩ := hp
    show spn β k (f_Terms_left (nI j) β) = spn α k (f_Terms_left (nI j) α)
    rw [lf_g hO hO' hg hj.1]
    exact spn_g hO hW hO' hg k h1 h.2
/-- the MAJOR is there -/
def mjr (α : kS) (a : Int32) : Prop := qP α a ∧ ∃ k q, aP α (q + 1) a ∧ aP α k a ∧ f_Terms_kind (spn α k a) α = 4 ∧ f_Red_majorPlace (f_Terms_left (spn α k a) α) α = nI q ∧ q < 2 ^ 31
theorem mjr.w {K : Nat} {α β : kS} {a : Int32} (hα : tT K α) (hβ : tT K β) (w : wk α β) (h : mjr α a) : mjr β a := by
  obtain ⟨ha, k, q, h1, h2, h3, h4, h5⟩ := h
  have hs := spn_ok hα.1.1 hα.2.1 k ha h2
  refine ⟨ha.g w.2.2, k, q, aP_g hα.1.1 hα.2.1 hβ.1.1 w.2.2 _ ha h1, aP_g hα.1.1 hα.2.1 hβ.1.1 w.2.2 _ ha h2, ?_, ?_, h5⟩
  · rw [spn_g hα.1.1 hα.2.1 hβ.1.1 w.2.2 k ha h2]
    obtain ⟨j, e, hj⟩ := hs
    rw [e] at h3 ⊢
    rw [kd_g hα.1.1 hβ.1.1 w.2.2 hj.1]
    exact h3
  · rw [spn_g hα.1.1 hα.2.1 hβ.1.1 w.2.2 k ha h2]
    obtain ⟨j, e, hj⟩ := hs
    rw [e] at h4 ⊢
    rw [lf_g hα.1.1 hβ.1.1 w.2.2 hj.1, ← h4]
    unfold f_Red_majorPlace f_Env_fact fR_at
    rw [w.row (by decide) (by decide)]
/-- the TERMS of a frame above y VARIABLES -/
def ls (α : kS) (n y : Nat) (a b : Int32) : Prop := match n with
  | 0 => True
  | 1 => FP α y a
  | 2 => FP α y a ∧ mjr α a
  | 9 => FP α y a
  | 10 => True
  | 11 => FP α y a
  | 12 => FP α y b
  | 13 => FP α y a ∧ FP α y b
  | 14 => FP α y a ∧ FP α y b
  | _ => False
theorem ls.w {K : Nat} {α β : kS} {n y : Nat} {a b : Int32} (hα : tT K α) (hβ : tT K β) (w : wk α β) (h : ls α n y a b) : ls β n y a b := by
  have hO := hα.1.1
  have hW := hα.2.1
  have hg := w.2.2
  unfold ls at h ⊢
  split at h
  · trivial
  · exact FP.g hO hW hg h
  · exact ⟨FP.g hO hW hg h.1, h.2.w hα hβ w⟩
  · exact FP.g hO hW hg h
  · trivial
  · exact FP.g hO hW hg h
  · exact FP.g hO hW hg h
  · exact ⟨FP.g hO hW hg h.1, FP.g hO hW hg h.2⟩
  · exact ⟨FP.g hO hW hg h.1, FP.g hO hW hg h.2⟩
  · exact h.elim
def lev (α : kS) : List F5 → Prop
  | [] => True
  | f :: fs => (∃ n, f.1 = nI n ∧ n ≤ 14 ∧ ls α n (vc fs) f.2.1 f.2.2.1) ∧ lev α fs
theorem lev.w {K : Nat} {α β : kS} (hα : tT K α) (hβ : tT K β) (w : wk α β) : ∀ (fs : List F5), lev α fs → lev β fs
  | [], _ => trivial
  | f :: fs, ⟨⟨n, e, hn, h⟩, h'⟩ => ⟨⟨n, e, hn, h.w hα hβ w⟩, lev.w hα hβ w fs h'⟩
theorem lev_c {α : kS} {n y : Nat} {a b t d : Int32} {fs : List F5} (hn : n ≤ 14) (hy : vc fs = y) (h : ls α n y a b) (h' : lev α fs) : lev α ((nI n, a, b, t, d) :: fs) := ⟨⟨n, rfl, hn, by rw [hy]; exact h⟩, h'⟩
def LVS (α : kS) (fs : List F5) (r : Int32) (g : Nat) : Prop := lev α fs ∧ (g ≠ 0 → FP α (vc fs) r)
/-- what is known before a turn of NORMAL FORM -/
def LC (m yv n g : Nat) (α : kS) (a b : Int32) (fs : List F5) (r : Int32) : Prop := yv = 0 ∧ (0 < m ∧ NM m α) ∧ ls α n (vc fs) a b ∧ lev α fs ∧ (g ≠ 0 → FP α (vc fs + (if n = 12 then 1 else 0)) r)
def SI2 (L : Prop) (yv z : Nat) (β : kS) : Prop := ∃ fs ty r g, vw β fs ty r ∧ st β z fs g ∧ (g ≠ 0 → qP β r) ∧ g ≠ 2 ∧ tvp yv β fs ty ∧ (L → LVS β fs r g)
def TI2 (L : Prop) (K yv z : Nat) (α β : kS) : Prop := tT K β ∧ wk α β ∧ SI2 L yv z β
theorem TI2.ti {L : Prop} {K yv z : Nat} {α β : kS} (h : TI2 L K yv z α β) : TI K yv z α β := by
  obtain ⟨h1, h2, fs, ty, r, g, a, b, c, d, e, -⟩ := h
  exact ⟨h1, h2, fs, ty, r, g, a, b, c, d, e⟩
section SIL
variable {L : Prop} {K yv z n n1 dd d1 g : Nat} {α β : kS} {a b t a1 b1 t1 r p : Int32} {fs : List F5} {ty : List Int32}
theorem SI2.top (h : tT K α) (hβ : tT K β) (w : grw α β) (v : vw β ((nI n, a, b, t, nI dd) :: fs) ty r) (hn : n ≤ 31) (hf : fo β n dd fs.length g a b t) (hl : lvs (lv n) fs) (hs : st α (zs n z) fs (gv β n g a)) (hr : g ≠ 0 → qP β r) (hg : g ≠ 2) (ht : tvp yv β ((nI n, a, b, t, nI dd) :: fs) ty) (hL : L → LVS β ((nI n, a, b, t, nI dd) :: fs) r g) : SI2 L yv z β :=
  ⟨_, _, _, g, v, ⟨n, dd, rfl, ⟨by omega, fun y => by omega⟩, rfl, hf, hl, fun _ => st.w h hβ w hs⟩, hr, hg, ht, hL⟩
theorem SI2.top2 (h : tT K α) (hβ : tT K β) (w : grw α β) (v : vw β ((nI n1, a1, b1, t1, nI d1) :: (nI n, a, b, t, nI dd) :: fs) ty r) (hn1 : n1 ≤ 31) (hf1 : fo β n1 d1 (fs.length + 1) 0 a1 b1 t1) (hl1 : lv n ≤ lv n1) (hn : n ≤ 31) (hf : fo β n dd fs.length (gv β n1 0 a1) a b t) (hl : lvs (lv n) fs) (hs : st α (zs n (zs n1 z)) fs (gv β n (gv β n1 0 a1) a)) (ht : tvp yv β ((nI n1, a1, b1, t1, nI d1) :: (nI n, a, b, t, nI dd) :: fs) ty) (hL : L → lev β ((nI n1, a1, b1, t1, nI d1) :: (nI n, a, b, t, nI dd) :: fs)) : SI2 L yv z β :=
  ⟨_, _, _, 0, v, ⟨n1, d1, rfl, ⟨by omega, fun y => by omega⟩, rfl, hf1, ⟨n, rfl, by omega, hl1⟩, fun _ => ⟨n, dd, rfl, ⟨by omega, fun y => by omega⟩, rfl, hf, hl, fun _ => st.w h hβ w hs⟩⟩, fun q => absurd q (by decide), by decide, ht, fun l => ⟨hL l, fun q => absurd rfl q⟩⟩
theorem SI2.give (h : tT K α) (hβ : tT K β) (w : grw α β) (v : vw β fs ty p) (hs : st α z fs 1) (hp : qP β p) (ht : tvp yv β fs ty) (hL : L → lev β fs ∧ FP β (vc fs) p) : SI2 L yv z β :=
  ⟨_, _, _, 1, v, st.w h hβ w hs, fun _ => hp, by decide, ht, fun l => ⟨(hL l).1, fun _ => (hL l).2⟩⟩
end SIL
theorem value_f {K c m k y : Nat} {α : kS} (h : tT K α) (he : eI c K m α) (hk : k < K) (hd : f_Env_fact (nI k) 0 α = 1) (hn : NM m α) : FP α y (f_Env_fact (nI k) 2 α) := by
  have h1 := he.2.1
  have h2 := he.2.2.1
  rw [fact_l (k := k) (w := 0) h (by omega) (by decide) 0 rfl] at hd
  rw [fact_l (k := k) (w := 2) h (by omega) (by decide) 2 rfl]
  obtain ⟨j, e, hj, -⟩ := ((he.2.2.2.2.2 k (by omega)).2.2.2.2.2 hk).2 hd
  rw [e]
  exact hn.fp h.1.1 h.2.1 he.2.2.2.1 hj
theorem elim_f {K c m k y : Nat} {α : kS} (h : tT K α) (he : eI c K m α) (hk : k < c) (hm : 0 < m) (hn : NM m α) : FP α y (f_Env_fact (nI k) 10 α) := by
  have h1 := he.2.1
  rw [fact_l (k := k) (w := 10) h (by omega) (by decide) 10 rfl]
  rcases (he.2.2.2.2.2 k hk).2.2.2.1 with z | z
  · rw [z]
    exact hn.fp (t := 0) h.1.1 h.2.1 he.2.2.2.1 hm
  · obtain ⟨j, e, hj, -⟩ := z
    rw [e]
    exact hn.fp h.1.1 h.2.1 he.2.2.2.1 hj
section LWITHIN
variable {N K : Nat} {β : kS} {r : Int32} {fs : List F5} {ty : List Int32}
/-- a new VARIABLE, with its level -/
theorem var_l {f : F5} (hN : 524288 < N) (h : tT K β) (v : vw β (f :: fs) ty r) (hl : ty.length < 1024) (x : Int32) {k : Int32 → kS → Option (kO × kS)} {P X : kS → Prop} (hk : ∀ j γ, tT K γ → wk β γ → vw γ (f :: fs) (ty ++ [x]) r → qT γ j → FL γ (ty.length + 1) j → tV (k (nI j) γ) P X) (hX : ∀ γ, tT K γ → wk β γ → X γ) :
    tV (kBi (f_Fra_newVariable N x β) fun y γ => kBi (f_Terms_make N 1 y 0 γ) k) P X := by
  obtain ⟨γ, e, g1, g2, g3⟩ := newvar (N := N) h v hl x
  rw [e, kBi_s]
  refine (mk_f hN g1 (nI ty.length) 0).bv (fun y δ q => ?_) (fun δ q => hX δ q.1 (g2.tr (q.2.mo (by decide) (by decide))))
  obtain ⟨q1, q2, j, rfl, q3, q4, q5, -⟩ := q
  exact hk j δ q1 (g2.tr (q2.mo (by decide) (by decide))) (g3.ch q2 (by decide) (by decide) (by decide)) q3 (FL_leaf (by omega) fun _ => ⟨ty.length, q5, by omega⟩)
theorem rw_l {m' : Nat} {p key : Int32} {f : F5} (hN : 16777216 < N) (h : tT K β) (hm : m' ≤ 5) (hp : qP β p) (hkey : m' ≤ 1 → qP β key) (v : vw β (f :: fs) ty r) {k : Int32 → kS → Option (kO × kS)} {P X : kS → Prop} (hk : ∀ x γ, tT K γ → wk β γ → vw γ (f :: fs) ty r → qP γ x → (∀ y y', lvk m' key y y' β → FP β y p → FP γ y' x) → tV (k x γ) P X) (hX : ∀ γ, tT K γ → wk β γ → X γ) :
    tV (kBi (f_Terms_rewrite N (nI m') p key β) k) P X := by
  obtain ⟨j, rfl, hj⟩ := hp
  obtain ⟨-, hn, -⟩ := h.1.1.n
  refine (rewrite_w (L := [100]) hN h hm hj.1 hkey (fun _ => by decide)).bv (fun y δ q => ?_) (fun δ q => hX δ q.1 (q.2.mo (by decide) (by decide)))
  obtain ⟨q1, q2, i, rfl, q3, q4, -, q5⟩ := q
  refine hk _ δ q1 (q2.mo (by decide) (by decide)) (v.ch q2 (by decide) (by decide) (by decide)) ⟨i, rfl, q3, fun y => hj.2 (q4.mp y)⟩ fun y y' z1 z2 => ?_
  obtain ⟨t, et, ht, hF⟩ := z2
  have hj1 := hj.1
  have : t = j := (nI_eq (by omega) (by omega)).mp et.symm
  subst this
  exact ⟨i, rfl, q3, q5 y y' z1 hF⟩
theorem mk_lv {k' : Nat} {p q : Int32} {f : F5} (hN : 524288 < N) (h : tT K β) (hk5 : 5 ≤ k') (hk7 : k' ≤ 7) (hp : qP β p) (hq : qP β q) (v : vw β (f :: fs) ty r) {k : Int32 → kS → Option (kO × kS)} {P X : kS → Prop} (hk : ∀ x γ, tT K γ → wk β γ → vw γ (f :: fs) ty r → qP γ x → (∀ y, FP β y p → FP β y q → FP γ y x) → tV (k x γ) P X) (hX : ∀ γ, tT K γ → wk β γ → X γ) :
    tV (kBi (f_Terms_make N (nI k') p q β) k) P X := by
  obtain ⟨a, rfl, ha⟩ := hp
  obtain ⟨b, rfl, hb⟩ := hq
  obtain ⟨-, hn, -⟩ := h.1.1.n
  refine (mk_n hN h hk5 hk7 ha hb).bv (fun y δ q => ?_) (fun δ q => hX δ q.1 (q.2.mo (by decide) (by decide)))
  obtain ⟨q1, q2, j, rfl, q3, q4, q5, q6⟩ := q
  refine hk _ δ q1 (q2.mo (by decide) (by decide)) (v.ch q2 (by decide) (by decide) (by decide)) ⟨j, rfl, q3⟩ fun y z1 z2 => ?_
  have ha1 := ha.1
  have hb1 := hb.1
  obtain ⟨a', ea, fa1, fa2⟩ := z1
  have : a' = a := (nI_eq (by omega) (by omega)).mp ea.symm
  subst this
  obtain ⟨b', eb, fb1, fb2⟩ := z2
  have : b' = b := (nI_eq (by omega) (by omega)).mp eb.symm
  subst this
  refine ⟨j, rfl, q3.1, FL_mk (by omega) ?_ ?_⟩
  · rw [show lfN δ j = a' by unfold lfN; rw [q5, nI_clamp (by omega)]]
    exact fa2.g h.1.1 h.2.1 q2.2.2 fa1
  · rw [show rtN δ j = b' by unfold rtN; rw [q6, nI_clamp (by omega)]]
    exact fb2.g h.1.1 h.2.1 q2.2.2 fb1
end LWITHIN
