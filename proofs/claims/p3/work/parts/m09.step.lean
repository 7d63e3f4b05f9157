-- a step of WHNF
section STEP
variable {N : Nat} {W : Nat → Prop} {s Lc : Nat} {Lr : Nat → Prop} {t0 : Nat} {α : mS} {kk : (Int32 → Int32 → Int32 → mS → Option (kO × mS)) × (Int32 → mS → Option (kO × mS)) × (Int32 → mS → Option (kO × mS))}
/-- the k-th behind the head, with what is known of it -/
theorem nth_f {S : Nat → Prop} {t n k : Nat} (hN : 400000 < N) (hP : PO W s Lc Lr t0 α) (ht : vd W s t0 t) (ha : apn α n t) (hk : k < n) : ∃ r, f_Mod_nth N (nI t) (nI n) (nI k) α = some (nI r) ∧ vd W s t0 r ∧ (fit α t → fit α r) ∧ ∀ S, AL S α t → AL S α r := by
  have hW := hP.2.2.2
  obtain ⟨r, er, e2, vr, -⟩ := nth_m hN hW ht ha hk
  have a1 : apn α (n - 1 - k) t := fun j hj => ha j (by omega)
  have h6 : 6 ≤ uK α (itr α (n - 1 - k) t) := by rw [ha (n - 1 - k) (by omega)]; decide
  refine ⟨r, er, vr, fun h => ?_, fun S h => ?_⟩
  · rw [e2]; exact ((fit.itr hW ht h _ a1).p hW (itr_v hW ht _ a1).1 h6).2.1
  · rw [e2]; exact ((h.itr hW _ a1).p h6).2.1
theorem rec_248 {t n mm many at' : Nat} (hN : 400000 < N) (hn : nrm W s) (hat : at' < n) : ∀ (d i x nn t0 : Nat) (α : mS), many ≤ i + d → i ≤ many ∨ d = 0 → d < nn → i < 2 ^ 31 → PO W s Lc Lr t0 α → vd W s t0 t → vd W s t0 mm → vd W s t0 x → apn α n t → apn α many mm → rI (f_Mod_recursion_248 N kk nn (nI i) (nI x) (nI many) (nI mm) (nI at') (nI t) (nI n) α) (fun v β => ∃ r t1, v = nI r ∧ QN W s Lc Lr [10] t0 α r t1 β ∧ ∀ S, AL S α x → AL S α mm → AL S α t → AL S β r) (XN W s [10, 100, 101] t0 α)
  | 0, i, x, nn, t0, α, hd, hi, hm, hi3, hP, ht, hmm, hx, ha, hb => by
    obtain ⟨nn, rfl⟩ : ∃ n', nn = n' + 1 := ⟨nn - 1, by omega⟩
    have l := (itr_v hP.2.2.2 ht n ha).2
    have t4 := (hP.nw ht).1
    rw [f_Mod_recursion_248, if_pos (nI_le (by omega) (by omega)), nI_1]
    refine ((with_ok (k := at' + 1) hN hn hP ht hx ha (by omega)).mono (fun v β q => ?_) (fun _ q => q)).end
    obtain ⟨r, t1, e, q1, q2⟩ := q
    exact ⟨r, t1, e, q1, fun S h1 _ h3 => q2 S h1 h3⟩
  | d + 1, i, x, nn, t0, α, hd, hi, hm, hi3, hP, ht, hmm, hx, ha, hb => by
    obtain ⟨nn, rfl⟩ : ∃ n', nn = n' + 1 := ⟨nn - 1, by omega⟩
    have l := (itr_v hP.2.2.2 ht n ha).2
    have t4 := (hP.nw ht).1
    have l2 := (itr_v hP.2.2.2 hmm many hb).2
    have m4 := (hP.nw hmm).1
    rcases Nat.lt_or_ge i many with z | z
    · rw [f_Mod_recursion_248, if_neg (nI_ge z (by omega))]
      obtain ⟨r, er, vr, -, ar⟩ := nth_f (S := fun _ => True) hN hP hmm hb z
      refine rI.ob er ((appm_ok hn hP hx vr).bi (fun v β q => ?_) (fun _ q => q))
      obtain ⟨r1, t1, rfl, q1, -, q2⟩ := q
      rw [nI_1]
      refine (rec_248 hN hn hat d (i + 1) r1 nn t1 β (by omega) (by omega) (by omega) (by omega) q1.2.1 (ht.up q1.1) (hmm.up q1.1) q1.2.2.2.2 (apn_sn hP.2.2.2 q1.2.2.2.1 ht ha) (apn_sn hP.2.2.2 q1.2.2.2.1 hmm hb)).mono (fun v γ u => ?_) (fun γ u => q1.tx u (by decide))
      obtain ⟨r2, t2, e2, u1, u2⟩ := u
      exact ⟨r2, t2, e2, q1.tr u1, fun S h1 h2 h3 => u2 S (q2 S h1 (ar S h2)) (q1.al hP hmm h2) (q1.al hP ht h3)⟩
    · exact rec_248 hN hn hat 0 i x (nn + 1) t0 α (by omega) (Or.inr rfl) (by omega) hi3 hP ht hmm hx ha hb
theorem rec_210 {t n mm many at' before K a : Nat} (hN : 400000 < N) (hn : nrm W s) (hat : at' < n) (hbf : before ≤ at') (hK : K < 301) (ha4 : a ≤ 4096) : ∀ (d i x nn t0 : Nat) (α : mS), i + d = before → d < nn → PO W s Lc Lr t0 α → α.2 15 K = nI a → vd W s t0 t → vd W s t0 mm → vd W s t0 x → apn α n t → apn α many mm → rI (f_Mod_recursion_210 N kk nn (nI i) (nI x) (nI many) (nI mm) (nI at') (nI before) (nI K) (nI t) (nI n) α) (fun v β => ∃ r t1, v = nI r ∧ QN W s Lc Lr [10] t0 α r t1 β ∧ ∀ S, AL S α x → AL S α mm → AL S α t → AL S β r) (XN W s [10, 100, 101] t0 α)
  | 0, i, x, nn, t0, α, hd, hm, hP, hA, ht, hmm, hx, ha, hb => by
    obtain ⟨nn, rfl⟩ : ∃ n', nn = n' + 1 := ⟨nn - 1, by omega⟩
    have l := (itr_v hP.2.2.2 ht n ha).2
    have t4 := (hP.nw ht).1
    have l2 := (itr_v hP.2.2.2 hmm many hb).2
    have m4 := (hP.nw hmm).1
    rw [f_Mod_recursion_210, if_pos (nI_le (by omega) (by omega))]
    refine rI.ix (mix hK (by decide)) ?_
    rw [nI_clamp (by omega), hA]
    rcases Nat.lt_or_ge many a with z | z
    · exact rec_248 hN hn hat 0 a x N t0 α (by omega) (Or.inr rfl) (by omega) (by omega) hP ht hmm hx ha hb
    · exact rec_248 hN hn hat (many - a) a x N t0 α (by omega) (Or.inl z) (by omega) (by omega) hP ht hmm hx ha hb
  | d + 1, i, x, nn, t0, α, hd, hm, hP, hA, ht, hmm, hx, ha, hb => by
    obtain ⟨nn, rfl⟩ : ∃ n', nn = n' + 1 := ⟨nn - 1, by omega⟩
    have l := (itr_v hP.2.2.2 ht n ha).2
    have t4 := (hP.nw ht).1
    rw [f_Mod_recursion_210, if_neg (nI_ge (by omega) (by omega))]
    obtain ⟨r, er, vr, -, ar⟩ := nth_f (S := fun _ => True) hN hP ht ha (show i < n by omega)
    refine rI.ob er ((appm_ok hn hP hx vr).bi (fun v β q => ?_) (fun _ q => q))
    obtain ⟨r1, t1, rfl, q1, -, q2⟩ := q
    rw [nI_1]
    refine (rec_210 hN hn hat hbf hK ha4 d (i + 1) r1 nn t1 β (by omega) (by omega) q1.2.1 (by rw [q1.2.2.1.arr (by decide)]; exact hA) (ht.up q1.1) (hmm.up q1.1) q1.2.2.2.2 (apn_sn hP.2.2.2 q1.2.2.2.1 ht ha) (apn_sn hP.2.2.2 q1.2.2.2.1 hmm hb)).mono (fun v γ u => ?_) (fun γ u => q1.tx u (by decide))
    obtain ⟨r2, t2, e2, u1, u2⟩ := u
    exact ⟨r2, t2, e2, q1.tr u1, fun S h1 h2 h3 => u2 S (q2 S h1 (ar S h3)) (q1.al hP hmm h2) (q1.al hP ht h3)⟩
theorem AL.lev {S V : Nat → Prop} {t r : Nat} (hW : nWf V Lc Lr α) (ht : V t) (hr : V r) (h : Rs RLev α t r) (ha : AL S α t) : AL S α r :=
  AL.rs hW ht hr h (fun t r _ _ _ h1 h2 => by
    rcases h2 with rfl | h2 | h2
    · exact h1
    · exact AL.lf (by omega) (fun z => by omega) (by omega)
    · exact AL.lf (by omega) (fun z => by omega) (by omega)) ha
/-- the answer 'no step' -/
theorem SQ.no {t1 w w' t : Nat} {β : mS} (ht : vd W s t0 t) (h : QN W s Lc Lr whI t0 α t t1 β) (hw : WS W s Lc Lr t1 β w') (hl : w ≤ w') (hm : β.1 24 = α.1 24) : rI (some (some (some (-1)), β)) (SQ W s Lc Lr t0 α w t) (WX W s t0 α) := rI.ret ⟨t, t1, w', h, hw, hl, hm, Or.inl rfl⟩
theorem recursion_ok {e : Nat} (hN : 400000 < N) (hn : nrm W s) (he : e ≤ 60) (hk : ∀ e', e = e' + 1 → WhS W s Lc Lr e' kk.2.2) : RcS W s Lc Lr e (f_Mod_recursion N kk) := by
  intro t0 t b w α hw hm ht hf ha h2
  have hP := hw.1
  have hW := hP.2.2.2
  obtain ⟨vh, lh⟩ := itr_v hW ht b ha
  have t4 := (hP.nw ht).1
  obtain ⟨h, eh⟩ : ∃ h, h = itr α b t := ⟨_, rfl⟩
  rw [← eh] at vh h2 lh ⊢
  have ix := hW.ix vh
  obtain ⟨-, -, -, -, -, -, -, a8, -⟩ := hW h vh
  obtain ⟨eK, hK⟩ := a8 h2
  obtain ⟨K, eK'⟩ : ∃ K, K = uA α h := ⟨_, rfl⟩
  rw [← eK'] at eK hK
  obtain ⟨⟨hLc, hLr⟩, en1, en2⟩ := hw.2.1
  have K3 : K < 301 := hLr K hK
  obtain ⟨⟨a, b', c, f15, f17, f16, la, lb, lc⟩, -⟩ := en2 K hK
  have iK := mix' K3 (show 301 ≤ 400000 by decide)
  have q0 : QN W s Lc Lr whI t0 α t t0 α := ⟨Nat.le_refl _, hP, mch.rf, sN.rf, ht⟩
  have es : (((nI a + 1) + nI b') + nI c) = nI (a + 1 + b' + c) := by rw [nI_1, nI_add, nI_add]
  unfold f_Mod_recursion
  rw [hW.cl vh, eK, nI_clamp (show K < 2 ^ 31 by omega), f15, f17, f16, es]
  refine rI.ix ix (rI.ix iK (rI.ix iK (rI.ix iK (rI.ite (fun c1 => ?_) fun _ => SQ.no ht q0 hw (Nat.le_refl _) rfl))))
  have hat : a + 1 + b' + c < b := (nI_ltI (by omega) (by omega)).mp c1
  rw [hm]
  refine rI.ite (fun _ => rI.thr (thr_x (by decide))) fun c2 => ?_
  obtain ⟨e', rfl⟩ : ∃ e', e = e' + 1 := by
    cases e with
    | zero => exact absurd rfl c2
    | succ e' => exact ⟨e', rfl⟩
  have hk := hk e' rfl
  have em : nI (60 - (e' + 1)) + 1 = nI (60 - e') := by rw [nI_1, show 60 - (e' + 1) + 1 = 60 - e' by omega]
  rw [em]
  obtain ⟨α1, eα1⟩ : ∃ α1, α1 = mSi α 24 (nI (60 - e')) := ⟨_, rfl⟩
  rw [← eα1]
  have ch1 : mch [24] [] α α1 := by rw [eα1]; exact mch.si (by decide)
  have w1 : WS W s Lc Lr t0 α1 w := hw.ch ch1 (by decide) (fun r _ z => by cases z)
  have s1 : sN (vd W s t0) α α1 := sN.ch ch1 (fun r _ _ z => by cases z)
  have ha1 : apn α1 b t := apn_sn hW s1 ht ha
  have m1 : α1.1 24 = nI (60 - e') := by rw [eα1]; rfl
  obtain ⟨r7, er7, vr7, fr7, ar7⟩ := nth_f (S := fun _ => True) hN w1.1 ht ha1 hat
  refine rI.ob er7 ((hk t0 r7 w α1 w1 m1 vr7 (fr7 (hf.sn s1 ht))).bi (fun v α9 q => ?_) (fun β q => ⟨(ch1.mo (by decide) (fun r z => by cases z)).tr q.1, s1.tr q.2⟩))
  obtain ⟨mm, t1, w', rfl, q1, q2, q3, q4, q5, q6⟩ := q
  have em2 : α9.1 24 - 1 = nI (60 - (e' + 1)) := by
    rw [q4, m1, show 60 - e' = 60 - (e' + 1) + 1 by omega]
    exact nI_pred _
  rw [em2]
  obtain ⟨αa, eαa⟩ : ∃ αa, αa = mSi α9 24 (nI (60 - (e' + 1))) := ⟨_, rfl⟩
  rw [← eαa]
  have ch2 : mch [24] [] α9 αa := by rw [eαa]; exact mch.si (by decide)
  have w2 : WS W s Lc Lr t1 αa w' := q2.ch ch2 (by decide) (fun r _ z => by cases z)
  have s2 : sN (vd W s t1) α9 αa := sN.ch ch2 (fun r _ _ z => by cases z)
  have m2 : αa.1 24 = α.1 24 := by rw [eαa, hm]; rfl
  have s02 : sN (vd W s t0) α αa := (s1.tr q1.2.2.2.1).tr (s2.su fun _ z => z.up q1.1)
  have c02 : mch whI mpR α αa := ((ch1.mo (by decide) (fun r z => by cases z)).tr q1.2.2.1).tr (ch2.mo (by decide) (fun r z => by cases z))
  have qq : ∀ r, vd W s t1 r → QN W s Lc Lr whI t0 α r t1 αa := fun r hr => ⟨q1.1, w2.1, c02, s02, hr⟩
  have vm := q1.2.2.2.2
  have hWa := w2.1.2.2.2
  obtain ⟨b2, a1, a2, a3, a4, a5, a6⟩ := head_m hN hWa vm
  refine rI.ob a3 (rI.ob a4 ?_)
  have no : rI (some (some (some (-1)), αa)) (SQ W s Lc Lr t0 α w t) (WX W s t0 α) := SQ.no ht (qq t (ht.up q1.1)) w2 q3 m2
  have ic := hWa.ix a5
  rw [hWa.cl a5]
  refine rI.ix ic (rI.ite (fun k1 => rI.ix ic ?_) fun _ => no)
  have k1 : uK αa (itr αa b2 mm) = 1 := (hWa.is a5 (m := 1) (by decide)).mp k1
  obtain ⟨-, -, -, -, -, -, a7, -, -⟩ := hWa _ a5
  obtain ⟨ej, hj⟩ := a7 k1
  obtain ⟨j, ej'⟩ : ∃ j, j = uA αa (itr αa b2 mm) := ⟨_, rfl⟩
  rw [← ej'] at ej hj
  have j3 : j < 301 := by omega
  have ij := mix' j3 (show 301 ≤ 400000 by decide)
  rw [ej, nI_clamp (show j < 2 ^ 31 by omega)]
  refine rI.ix ij (rI.ite (fun s4 => rI.ix ic (rI.ix ij ?_)) fun _ => no)
  obtain ⟨-, en1', en2'⟩ := w2.2.1
  obtain ⟨f, ef, f3, hfr⟩ := (en1' j hj).2 s4
  rw [ef]
  refine rI.ite (fun c3 => ?_) fun _ => no
  have efK : f = K := (nI_eq (by omega) (by omega)).mp c3
  obtain ⟨⟨am, eam, lam⟩, rr, err, vrr, crr, frr⟩ := hfr (by rw [efK]; exact hK)
  refine rI.ix iK (rI.ix ic (rI.ix ij ?_))
  have f15' : αa.2 15 K = nI a := by rw [c02.arr (by decide)]; exact f15
  rw [f15', eam, nI_add]
  refine rI.ite (fun _ => rI.ix ic (rI.ix ij (rI.ix ix ?_))) fun _ => no
  rw [err]
  obtain ⟨d1, d2⟩ := frr.sp w2.1 (Or.inl vrr)
  refine (leveled_ok hN hn w2.1 (Or.inl vrr) d1 d2).bi (fun v β u => ?_) (fun β u => (qq t (ht.up q1.1)).tx u.xn (by decide))
  obtain ⟨x, t2, rfl, u1, u2⟩ := u.qn
  have apt : apn αa b t := apn_sn hW s02 ht ha
  have es2 : (nI a + 1) + nI b' = nI (a + 1 + b') := by rw [nI_1, nI_add]
  rw [es2]
  refine (rec_210 (kk := kk) hN hn hat (by omega) K3 la (a + 1 + b') 0 x N t2 β (by omega) (by omega) u1.2.1 (by rw [u1.2.2.1.arr (by decide)]; exact f15') ((ht.up q1.1).up u1.1) (vm.up u1.1) u1.2.2.2.2 (apn_sn hWa u1.2.2.2.1 (ht.up q1.1) apt) (apn_sn hWa u1.2.2.2.1 vm a1)).mono (fun v γ y => ?_) (fun γ y => (qq t (ht.up q1.1)).tx ((u1.mo (J := whI) (by decide)).tx (y.mo (by decide)) (by decide)) (by decide))
  obtain ⟨r, t3, e3, y1, y2⟩ := y
  have qa : QN W s Lc Lr whI t0 α x t2 β := ⟨Nat.le_trans q1.1 u1.1, u1.2.1, c02.tr (u1.2.2.1.mo (by decide) (fun _ z => z)), s02.tr (u1.2.2.2.1.su fun _ z => z.up q1.1), u1.2.2.2.2⟩
  have w3 : WS W s Lc Lr t2 β w' := w2.qn u1 (by decide)
  have w4 : WS W s Lc Lr t3 γ w' := w3.qn y1 (by decide)
  refine ⟨r, t3, w', qa.tr (y1.mo (by decide)), w4, q3, ?_, Or.inr ⟨e3, fun S hS => y2 S ?_ ?_ ?_⟩⟩
  · exact ((y1.2.2.1.int (by decide)).trans (u1.2.2.1.int (by decide))).trans m2
  · exact AL.lev u1.2.1.2.2.2 (Or.inl vrr) u1.2.2.2.2 u2 (u1.al w2.1 (Or.inl vrr) (crr.su fun _ z => z.elim))
  · exact u1.al w2.1 vm ((q6 S (ar7 S (hS.sn hW s1 ht))).sn q2.1.2.2.2 s2 vm)
  · exact u1.al w2.1 (ht.up q1.1) (hS.sn hW s02 ht)
theorem stepm_ok {e : Nat} (hN : 400000 < N) (hn : nrm W s) (hk : RcS W s Lc Lr e kk.1) : StS W s Lc Lr e (f_Mod_step N kk) := by
  intro t0 t w α hw hm ht hf
  have hP := hw.1
  have hW := hP.2.2.2
  have t4 := (hP.nw ht).1
  obtain ⟨b, a1, a2, a3, a4, a5, a6⟩ := head_m hN hW ht
  unfold f_Mod_step
  refine rI.ob a3 (rI.ob a4 ?_)
  have q0 : QN W s Lc Lr whI t0 α t t0 α := ⟨Nat.le_refl _, hP, mch.rf, sN.rf, ht⟩
  have no : rI (some (some (some (-1)), α)) (SQ W s Lc Lr t0 α w t) (WX W s t0 α) := SQ.no ht q0 hw (Nat.le_refl _) rfl
  have fh : fit α (itr α b t) := fit.itr hW ht hf b a1
  have ah : ∀ S, AL S α t → AL S α (itr α b t) := fun S h => h.itr hW b a1
  obtain ⟨h, eh⟩ : ∃ h, h = itr α b t := ⟨_, rfl⟩
  rw [← eh] at a2 a5 fh ah ⊢
  have ix := hW.ix a5
  -- a TERM opened, before what stands behind
  have fin : ∀ (x t1 k : Nat) (β : mS), QN W s Lc Lr mI5 t0 α x t1 β → k ≤ b → (∀ S, AL S α t → AL S β x) → rI (mBi (f_Mod_with N (nI x) (nI t) (nI b) (nI k) β) fun v γ => some (some (some v), γ)) (SQ W s Lc Lr t0 α w t) (WX W s t0 α) := fun x t1 k β q hkb hx => by
    have w1 : WS W s Lc Lr t1 β w := hw.qn q (by decide)
    refine ((with_ok hN hn q.2.1 (ht.up q.1) q.2.2.2.2 (apn_sn hW q.2.2.2.1 ht a1) hkb).mono (fun v γ u => ?_) (fun γ u => (q.mo (J := whI) (by decide)).tx (u.mo (by decide)) (by decide))).end
    obtain ⟨r, t2, e2, u1, u2⟩ := u
    exact ⟨r, t2, w, (q.mo (by decide)).tr (u1.mo (by decide)), w1.qn u1 (by decide), Nat.le_refl _, (u1.2.2.1.int (by decide)).trans (q.2.2.1.int (by decide)), Or.inr ⟨e2, fun S hS => u2 S (hx S hS) (q.al hP ht hS)⟩⟩
  rw [hW.cl a5]
  refine rI.ix ix (rI.ite (fun k1 => rI.ix ix ?_) fun _ => rI.ite (fun k2 => ?_) fun _ => rI.ite (fun _ => no) fun _ => rI.ite (fun _ => no) fun _ => rI.ite (fun _ => no) fun _ => rI.ite (fun _ => no) fun _ => rI.ite (fun k7 => ?_) fun _ => rI.ite (fun _ => no) fun _ => rI.ite (fun k9 => rI.ix ix (rI.ix ix ?_)) fun _ => no)
  · have k1 : uK α h = 1 := (hW.is a5 (m := 1) (by decide)).mp k1
    obtain ⟨-, -, -, -, -, -, a7, -, -⟩ := hW h a5
    obtain ⟨ej, hj⟩ := a7 k1
    obtain ⟨⟨hLc, hLr⟩, en1, en2⟩ := hw.2.1
    rw [ej, nI_clamp (show uA α h < 2 ^ 31 by omega)]
    have ij := mix' (show uA α h < 301 by omega) (show 301 ≤ 400000 by decide)
    refine rI.ix ij (rI.ite (fun s1 => rI.ix ix (rI.ix ij ?_)) fun _ => no)
    obtain ⟨v, ev, vv, cv, fv⟩ := (en1 _ hj).1 s1
    rw [ev]
    exact fin v t0 0 α ⟨Nat.le_refl _, hP, mch.rf, sN.rf, Or.inl vv⟩ (Nat.zero_le _) (fun S _ => cv.su fun _ z => z.elim)
  · have k2 : uK α h = 2 := (hW.is a5 (m := 2) (by decide)).mp k2
    rw [eh] at k2 ⊢
    exact (hk t0 t b w α hw hm ht hf a1 k2).end
  · have k7 : uK α h = 7 := (hW.is a5 (m := 7) (by decide)).mp k7
    refine rI.ite (fun _ => no) fun nb => ?_
    have hb : 0 < b := Nat.pos_of_ne_zero fun z => nb (by rw [z]; rfl)
    refine rI.ix ix ?_
    obtain ⟨r, er, vr, -, ar⟩ := nth_f (S := fun _ => True) hN hP ht a1 hb
    rw [(hW.p4 a5 (by omega)).1]
    refine rI.ob er ((opened_ok hN hn hP (hW.p4 a5 (by omega)).2.2 vr (fh.p hW a5 (by omega)).2.1).bi (fun v β q => ?_) (fun β q => q.mo (by decide)))
    obtain ⟨x, t1, rfl, q1, -, q2⟩ := q
    exact fin x t1 1 β q1 hb (fun S hS => q2 S (ar S hS) ((ah S hS).p (by omega)).2.1)
  · have k9 : uK α h = 9 := (hW.is a5 (m := 9) (by decide)).mp k9
    rw [(hW.p4 a5 (by omega)).1, (hW.p5 a5 k9).1]
    refine (opened_ok hN hn hP (hW.p5 a5 k9).2.2 (hW.p4 a5 (by omega)).2.2 ((fh.p hW a5 (by omega)).2.2 k9)).bi (fun v β q => ?_) (fun β q => q.mo (by decide))
    obtain ⟨x, t1, rfl, q1, -, q2⟩ := q
    exact fin x t1 0 β q1 (Nat.zero_le _) (fun S hS => q2 S ((ah S hS).p (by omega)).2.1 (((ah S hS).p (by omega)).2.2 k9))
/-- WHNF ends -/
theorem whnf_all (hN : 400000 < N) (hn : nrm W s) : ∀ (e L : Nat), e ≤ 60 → 3 * e + 3 ≤ L → WhS W s Lc Lr e (G_recursion N L).2.2
  | e, L, he, hL => by
    obtain ⟨L, rfl⟩ : ∃ l, L = l + 3 := ⟨L - 3, by omega⟩
    have hr : RcS W s Lc Lr e (f_Mod_recursion N (G_recursion N L)) := recursion_ok hN hn he fun e' ee => by
      subst ee
      exact whnf_all hN hn e' L (by omega) (by omega)
    have hs : StS W s Lc Lr e (f_Mod_step N (G_recursion N (L + 1))) := stepm_ok hN hn hr
    exact whnf_st hN hs
end STEP
