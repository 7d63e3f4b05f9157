-- WHNF: its turns
theorem SI.top2 {K yv z n n1 dd d1 : Nat} {α β : kS} {a b t a1 b1 t1 r : Int32} {fs : List F5} {ty : List Int32} (h : tT K α) (hβ : tT K β) (w : grw α β) (v : vw β ((nI n1, a1, b1, t1, nI d1) :: (nI n, a, b, t, nI dd) :: fs) ty r) (hn1 : n1 ≤ 31) (hf1 : fo β n1 d1 (fs.length + 1) 0 a1 b1 t1) (hl1 : lv n ≤ lv n1) (hn : n ≤ 31) (hf : fo β n dd fs.length (gv β n1 0 a1) a b t) (hl : lvs (lv n) fs) (hs : st α (zs n (zs n1 z)) fs (gv β n (gv β n1 0 a1) a)) (ht : tvp yv β ((nI n1, a1, b1, t1, nI d1) :: (nI n, a, b, t, nI dd) :: fs) ty) : SI yv z β :=
  ⟨_, _, _, 0, v, ⟨n1, d1, rfl, ⟨by omega, fun y => by omega⟩, rfl, hf1, ⟨n, rfl, by omega, hl1⟩, fun _ => ⟨n, dd, rfl, ⟨by omega, fun y => by omega⟩, rfl, hf, hl, fun _ => st.w h hβ w hs⟩⟩, fun q => absurd q (by decide), by decide, ht⟩
theorem SI.top3 {K yv z n n1 n2 dd d1 d2 : Nat} {α β : kS} {a b t a1 b1 t1 a2 b2 t2 r : Int32} {fs : List F5} {ty : List Int32} (h : tT K α) (hβ : tT K β) (w : grw α β) (v : vw β ((nI n2, a2, b2, t2, nI d2) :: (nI n1, a1, b1, t1, nI d1) :: (nI n, a, b, t, nI dd) :: fs) ty r) (hn2 : n2 ≤ 31) (hf2 : fo β n2 d2 (fs.length + 2) 0 a2 b2 t2) (hl2 : lv n1 ≤ lv n2) (hn1 : n1 ≤ 31) (hf1 : fo β n1 d1 (fs.length + 1) (gv β n2 0 a2) a1 b1 t1) (hl1 : lv n ≤ lv n1) (hn : n ≤ 31) (hf : fo β n dd fs.length (gv β n1 (gv β n2 0 a2) a1) a b t) (hl : lvs (lv n) fs) (hs : st α (zs n (zs n1 (zs n2 z))) fs (gv β n (gv β n1 (gv β n2 0 a2) a1) a)) (ht : tvp yv β ((nI n2, a2, b2, t2, nI d2) :: (nI n1, a1, b1, t1, nI d1) :: (nI n, a, b, t, nI dd) :: fs) ty) : SI yv z β :=
  ⟨_, _, _, 0, v, ⟨n2, d2, rfl, ⟨by omega, fun y => by omega⟩, rfl, hf2, ⟨n1, rfl, by omega, hl2⟩, fun _ => ⟨n1, d1, rfl, ⟨by omega, fun y => by omega⟩, rfl, hf1, ⟨n, rfl, by omega, hl1⟩, fun _ => ⟨n, dd, rfl, ⟨by omega, fun y => by omega⟩, rfl, hf, hl, fun _ => st.w h hβ w hs⟩⟩⟩, fun q => absurd q (by decide), by decide, ht⟩
/-- the top frame ends with an answer -/
theorem SI.give {K yv z : Nat} {α β : kS} {p : Int32} {fs : List F5} {ty : List Int32} (h : tT K α) (hβ : tT K β) (w : grw α β) (v : vw β fs ty p) (hs : st α z fs 1) (hp : qP β p) (ht : tvp yv β fs ty) : SI yv z β :=
  ⟨_, _, _, 1, v, st.w h hβ w hs, fun _ => hp, by decide, ht⟩
/-- the top frame ends with none -/
theorem SI.none {K yv z : Nat} {α β : kS} {p : Int32} {fs : List F5} {ty : List Int32} (h : tT K α) (hβ : tT K β) (w : grw α β) (v : vw β fs ty p) (hs : st α z fs 0) (ht : tvp yv β fs ty) : SI yv z β :=
  ⟨_, _, _, 0, v, st.w h hβ w hs, fun q => absurd q (by decide), by decide, ht⟩
theorem fail_x {K : Nat} {α β : kS} (N : Nat) (x : Int32) (h : tT K β) (w : wk α β) {k : kS → Option (kO × kS)} {P : kS → Prop} : tV (kBv (f_Meter_fail N x β) k) P (TX K α) := by
  obtain ⟨γ, e, h1, h2⟩ := fail_t N x h (I := [2, 3, 4, 6, 100, 24]) (R := [2, 3, 4, 12, 13, 14]) (by decide) (by decide)
  rw [e]
  exact tV.thr ⟨h1, w.tr h2⟩
theorem major_e {K c m k : Nat} {α : kS} (h : tT K α) (he : eI c K m α) (hk : k < c) : ∃ p, p ≤ 12289 ∧ f_Red_majorPlace (nI k) α = nI p := by
  obtain ⟨a, b, d, e, e3, e4, e5, -, ha, hb, hd, -⟩ := counts_v h he hk
  unfold f_Red_majorPlace
  rw [e3, e5, e4, nI_1, nI_add, nI_add]
  exact ⟨_, by omega, rfl⟩
section WHNF
variable {N K c m yv z dd g : Nat} {α : kS} {a b t r : Int32} {fs : List F5} {ty : List Int32}
/-- what is on top is rewritten by what was handed over -/
theorem given_ok {L : Prop} {β : kS} {x : Int32} (hN : 2 ^ 31 ≤ N) (h : tT K α) (hd : dd ≤ 60) (hh : fs.length < 423 + dd) (hl : lvs (lv 1) fs) (hs : st α z fs 1) (ht : tvp yv α fs ty) (hβ : tT K β) (w : wk α β) (v : vw β ((nI 1, a, b, t, nI dd) :: fs) ty r) (hg : aQ β (β.2.1 14)) (hx : qP β x) (hv : L → lev α fs ∧ FP β (vc fs) x ∧ aF β (vc fs) (β.2.1 14)) : tV (f_Red_applyGiven N x β) (TI2 L K yv z α) (TX K α) := by
  have hr := row_sm hβ (r := 14) (by decide)
  refine (apply_go (by omega) (β.2.1 14).length N x β hβ rfl hg hx (by omega)).mono (fun δ q => ?_) (fun δ q => ⟨q.1, w.tr (q.2.mo (by decide) (by decide))⟩)
  obtain ⟨ε, y, q1, q2, q3, q5, rfl⟩ := q
  have wε : wk α ε := w.tr (q2.mo (by decide) (by decide))
  obtain ⟨ζ, e', z1, z2, z3⟩ := set1 q1 (v.ch q2 (by decide) (by decide) (by decide)) y
  rw [e']
  have wζ : wk α ζ := wε.tr z2
  exact ⟨z1, wζ, SI2.top (n := 1) (g := 0) h z1 wζ.2.2 z3 (by decide) ⟨q3.g z2.2.2, hd, hh⟩ hl hs (fun q => absurd q (by decide)) (by decide) ((ht.g wζ.2.2).push (by decide)) (fun l => ⟨lev_c (n := 1) (by decide) rfl (FP.g q1.1.1 q1.2.1 z2.2.2 (q5 _ (hv l).2.1 (hv l).2.2)) (lev.w h z1 wζ fs (hv l).1), fun q => absurd rfl q⟩)⟩
theorem step_ok {L : Prop} {β : kS} {x : Int32} {k : Nat} (hN : 2 ^ 31 ≤ N) (h : tT K α) (hd : dd ≤ 60) (hh : fs.length < 423 + dd) (hl : lvs (lv 1) fs) (hs : st α z fs 1) (ht : tvp yv α fs ty) (hβ : tT K β) (w : wk α β) (v : vw β ((nI 1, a, b, t, nI dd) :: fs) ty r) (hk : k ≤ 1499) (ap : aP β k a) (hx : qP β x) (hv : L → lev α fs ∧ FP β (vc fs) x ∧ FP β (vc fs) a) : tV (f_Red_step N x (nI k) β) (TI2 L K yv z α) (TX K α) := by
  have h1 : tT K (kSl β 14 []) := hβ.sl (by decide) (Nat.zero_le _)
  have v1 : vw (kSl β 14 []) ((nI 1, a, b, t, nI dd) :: fs) ty r := ⟨v.1, v.2.1, v.2.2⟩
  have w1 : wk β (kSl β 14 []) := ch.rs (by decide)
  have s1 : sT β (kSl β 14 []) := ⟨rfl, rfl⟩
  unfold f_Red_step
  rw [cut0 hβ (by decide), top1 h1 v1]
  obtain ⟨γ, l, e, g1, g2, g3, g4, g5, g6⟩ := giveLast_ok (N := N) (k := k) hN (p := a) (x := nI k) h1 (Or.inr rfl) (by omega) ((s1.ap k a).mpr ap) (by show 0 + k ≤ 2048; omega)
  show tV (kBi (f_Red_giveLast N a (nI k) (kSl β 14 [])) _) _ _
  rw [e]
  have wγ : wk α γ := (w.tr w1).tr (g2.mo (by decide) (by decide))
  have vγ : vw γ ((nI 1, a, b, t, nI dd) :: fs) ty r := v1.ch g2 (by decide) (by decide) (by decide)
  have r14 : γ.2.1 14 = l := g4
  exact (given_ok hN h hd hh hl hs ht g1 wγ vγ (by rw [r14]; exact g6.1) (hx.g (w1.tr (g2.mo (by decide) (by decide))).2.2) (fun l => ⟨(hv l).1, (hv l).2.1.g hβ.1.1 hβ.2.1 (w1.tr (g2.mo (by decide) (by decide))).2.2, by rw [r14]; exact g6.2 _ ((hv l).2.2.g hβ.1.1 hβ.2.1 w1.2.2)⟩)).bv (fun β q => tV.ret q) (fun β q => q)
theorem whnf_ok (hN : 2 ^ 31 ≤ N) (T : Top K c m yv z 1 α a b t dd fs ty r g) : tV (f_Red_whnf N α) (TI2 (LC m yv 1 g α a b fs r) K yv z α) (TX K α) := by
  obtain ⟨h, he, v, ⟨hqa, hd, hh⟩, hl, hs, hr, hg, ht⟩ := T
  have hO := h.1.1
  have hW := h.2.1
  have ht0 : tvp yv α fs ty := ht.pop (by decide)
  have e1 : f_Fra_top 1 α = a := top1 h v
  have e4 : f_Fra_top 4 α = nI dd := top4 h v
  obtain ⟨p, eh, qh⟩ := head_ok (N := N) (by omega) hO hW hqa
  obtain ⟨k, eb, hk, ak⟩ := behind_sz (N := N) (by omega) hO hW a
  have stp : ∀ (β : kS) (x y : Int32) (k' : Nat), tT K β → tm α β → qP β x → (LC m yv 1 g α a b fs r → FP β (vc fs) x) → k' ≤ k → y = nI k' → tV (kBv (f_Red_step N x y β) fun δ => some (some none, δ)) (TI2 (LC m yv 1 g α a b fs r) K yv z α) (TX K α) := by
    intro β x y k' hβ w qx fx hk' ey
    subst ey
    exact (step_ok hN h hd hh hl hs ht0 hβ (w.mo (by decide) (by decide)) (v.ch w (by decide) (by decide) (by decide)) (by omega) (aP_g hO hW hβ.1.1 w.2.2 k' hqa (aP_le k k' ak hk')) qx (fun l => ⟨l.2.2.2.1, fx l, FP.g hO hW w.2.2 l.2.2.1⟩)).bv (fun β q => tV.ret q) (fun β q => q)
  have gv1 : tV (some (some none, f_Fra_give a α)) (TI2 (LC m yv 1 g α a b fs r) K yv z α) (TX K α) := by
    obtain ⟨β, e, g1, g2, g3⟩ := fgive h v a
    rw [e]
    exact tV.ret ⟨g1, g2, SI2.give h g1 g2.2.2 g3 hs (hqa.g g2.2.2) (ht0.g g2.2.2) (fun l => ⟨lev.w h g1 g2 fs l.2.2.2.1, FP.g hO hW g2.2.2 l.2.2.1⟩)⟩
  have j190 : ∀ y4, y4 = f_Terms_kind p α → tV (f_Red_whnf_j190 N y4 (nI k) p a α) (TI2 (LC m yv 1 g α a b fs r) K yv z α) (TX K α) := by
    intro y4 ey
    unfold f_Red_whnf_j190
    refine tV.ite (fun c4 => ?_) (fun _ => gv1)
    obtain ⟨j, rfl, hj⟩ := kin hO (p := p) (by rw [← ey, c4]; decide)
    have k4 : nK α j = 4 := kd_is hO hj (k := 4) (by decide) (by rw [← ey, c4]; rfl)
    obtain ⟨fam, ef, hfam⟩ := const_v h hj (Or.inr k4)
    obtain ⟨q, hq, eq⟩ := major_e h he (k := fam) (by have := he.2.2.1; omega)
    rw [ef, eq]
    refine tV.ite (fun _ => gv1) (fun cq => ?_)
    have hqk : q < k := Nat.not_le.mp fun y => cq (nI_le y (by omega))
    have ey2 : (nI k - 1) - nI q = nI (k - 1 - q) := by
      rw [show nI k - 1 = nI (k - 1) from pk_sub (a := k) (b := 1) (by omega), pk_sub (a := k - 1) (b := q) (by omega)]
    rw [ey2]
    unfold f_Red_askMajor
    rw [e4, nI_1]
    refine tV.bv (Pv := TI2 (LC m yv 1 g α a b fs r) K yv z α) (Px := TX K α) ?_ (fun β q => tV.ret q) (fun β q => q)
    refine tV.ite (fun c6 => ?_) (fun _ => fail_x N 10 h ch.rf)
    have hd1 : dd + 1 ≤ 60 := Nat.not_lt.mp fun y => absurd c6 (nI_ge (a := 60) (b := dd + 1) y (by omega))
    unfold f_Red_askMajor_j26
    obtain ⟨β, e, g1, g2, g3⟩ := set0 h v 2
    rw [e]
    have ap : aP β (k - 1 - q + 1) a := aP_g hO hW g1.1.1 g2.2.2 _ hqa (aP_le k _ ak (by omega))
    have qa' := hqa.g g2.2.2
    rw [fromLast_ok (N := N) (by omega) (by omega)]
    have qf := fromLast_vP g1.1.1 g1.2.1 qa' ap
    obtain ⟨γ, e', y1, y2, y3⟩ := fpush (N := N) g1 g3 (by show fs.length + 1 < 512; omega) 1 (f_Terms_right (spn β (k - 1 - q) a) β) 0 (nI (dd + 1))
    show tV (kBv (f_Fra_push N 1 (f_Terms_right (spn β (k - 1 - q) a) β) 0 (nI (dd + 1)) β) _) _ _
    rw [e']
    have w := g2.tr y2
    refine tV.ret ⟨y1, w, SI2.top2 (n := 2) (n1 := 1) h y1 w.2.2 y3 (by decide) ⟨qf.g y2.2.2, hd1, by omega⟩ (by decide) (by decide) ⟨qa'.g y2.2.2, by omega, hh, one0⟩ hl hs ?_ (fun l => ?_)⟩
    · exact ((ht0.g w.2.2).push (n' := 2) (by decide)).push (by decide)
    · have fa : FP α (vc fs) a := l.2.2.1
      have fx : FP γ (vc fs) (f_Terms_right (spn β (k - 1 - q) a) β) := (FP_from g1.1.1 g1.2.1 ap (fa.g hO hW g2.2.2)).g g1.1.1 g1.2.1 y2.2.2
      refine lev_c (n := 1) (by decide) (vc_p (n := 2) (by decide)).1 fx (lev_c (n := 2) (by decide) rfl ⟨fa.g hO hW w.2.2, mjr.w h y1 w ⟨hqa, ?_⟩⟩ (lev.w h y1 w fs l.2.2.2.1))
      obtain ⟨b', e2, h2, -⟩ := head_go (N := N) (α := α) 3000 0 N a (by omega) (by omega)
      have e3 : some (nI j) = some (spn α b' a) := eh.symm.trans e2
      injection e3 with e3
      refine ⟨b', q, aP_le k _ ak (by omega), h2, ?_, ?_, by omega⟩
      · rw [← e3, ← ey, c4]
      · rw [← e3, ef, eq]
  have j89 : ∀ y4, y4 = f_Terms_kind p α → tV (f_Red_whnf_j89 N y4 (nI k) p a α) (TI2 (LC m yv 1 g α a b fs r) K yv z α) (TX K α) := by
    intro y4 ey
    unfold f_Red_whnf_j89
    refine tV.ite (fun c8 => ?_) (fun _ => tV.ite (fun c3 => ?_) (fun _ => j190 y4 ey))
    · have k8 : f_Terms_kind p α = nI 8 := by rw [← ey, c8]; rfl
      obtain ⟨-, -, p9⟩ := part_q hO hW (k := 8) (by decide) (by decide) k8
      have p9 := p9 rfl
      obtain ⟨pl, pr, -⟩ := part_q hO hW (k := 9) (by decide) (by decide) (p9.kd hO)
      obtain ⟨tt, et, qt⟩ := pr (by decide)
      rw [et]
      refine (rewrite_w (L := []) (m' := 1) (by omega) h (by decide) qt.1 (fun _ => pl) (fun y => absurd y (by decide))).bv (fun v β q => ?_) (fun β q => ⟨q.1, q.2.mo (by decide) (by decide)⟩)
      obtain ⟨q1, q2, j, rfl, q3, q4, -, q5⟩ := q
      refine stp β (nI j) (nI k) k q1 q2 ⟨j, rfl, q3, fun y => qt.2 (q4.mp y)⟩ (fun l => ?_) (Nat.le_refl _) rfl
      have fa : FP α (vc fs) a := l.2.2.1
      have f2 := (FP_part hO hW (k := 8) (by decide) (by decide) k8 (FP_head (by omega) hO hW eh fa)).2
      obtain ⟨f3, f4⟩ := FP_part hO hW (k := 9) (by decide) (by decide) (p9.kd hO) f2
      rw [et] at f4
      exact ⟨j, rfl, q3, q5 _ _ (lvk1 (by decide) f3) (f4.fl hO qt.1)⟩
    · have k3 : f_Terms_kind p α = nI 3 := by rw [← ey, c3]; rfl
      obtain ⟨j, rfl, hj⟩ := kin hO (p := p) (by rw [k3]; decide)
      obtain ⟨cc, ec, hc⟩ := const_v h hj (Or.inl (kd_is hO hj (by decide) k3))
      rw [ec]
      exact tV.ite (fun c1 => stp α _ (nI k) k h ch.rf (value_v h he hc c1) (fun l => value_f h he hc c1 l.2.1.2) (Nat.le_refl _) rfl) (fun _ => j190 y4 ey)
  unfold f_Red_whnf
  rw [e1, eh]
  show tV ((f_Terms_behind N a α).bind _) _ _
  rw [eb]
  show tV (if f_Terms_kind p α = 7 then _ else _) _ _
  refine tV.ite (fun c7 => ?_) (fun _ => j89 _ rfl)
  refine tV.ite (fun _ => j89 _ rfl) (fun c0 => ?_)
  have hk0 : 0 < k := Nat.not_le.mp fun y => c0 (nI_le (b := 0) y (by omega))
  have ek : nI k - 1 = nI (k - 1) := pk_sub (a := k) (b := 1) hk0
  rw [ek, fromLast_ok (N := N) (by omega) (by omega)]
  have qf : qP α (f_Terms_right (spn α (k - 1) a) α) := fromLast_vP hO hW hqa (by rw [show k - 1 + 1 = k by omega]; exact ak)
  obtain ⟨-, pr, -⟩ := part_q hO hW (k := 7) (by decide) (by decide) c7
  obtain ⟨tt, et, qt⟩ := pr (by decide)
  show tV (kBi (f_Terms_rewrite N 1 (f_Terms_right p α) (f_Terms_right (spn α (k - 1) a) α) α) _) _ _
  rw [et]
  refine (rewrite_w (L := []) (m' := 1) (by omega) h (by decide) qt.1 (fun _ => qf) (fun y => absurd y (by decide))).bv (fun v β q => ?_) (fun β q => ⟨q.1, q.2.mo (by decide) (by decide)⟩)
  obtain ⟨q1, q2, j, rfl, q3, q4, -, q5⟩ := q
  refine stp β (nI j) (nI (k - 1)) (k - 1) q1 q2 ⟨j, rfl, q3, fun y => qt.2 (q4.mp y)⟩ (fun l => ?_) (by omega) rfl
  have fa : FP α (vc fs) a := l.2.2.1
  have f2 := (FP_part hO hW (k := 7) (by decide) (by decide) c7 (FP_head (by omega) hO hW eh fa)).2
  have f3 : FP α (vc fs) (f_Terms_right (spn α (k - 1) a) α) := FP_from hO hW (by rw [show k - 1 + 1 = k by omega]; exact ak) fa
  rw [et] at f2
  exact ⟨j, rfl, q3, q5 _ _ (lvk1 (by decide) f3) (f2.fl hO qt.1)⟩
end WHNF
