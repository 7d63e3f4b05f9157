theorem kq_keep {D : va_G} {cl : List vw_C} {A : Nat → Prop} {ws : va_W} {i : Nat} {c0 cn : Nat × va_E} {H H1 : Heap} (hP : va_P D cl ws H) (hD : va_D A ws) (hi : ws[i]? = some c0) (hk1 : ∀ q : Nat, q < H.size → ¬ va_A [c0] H.size q → H1[q]? = H[q]?)
    (hP1 : va_P D cl [c0, cn] H1) (hD1 : va_D (va_A [c0] H.size) [c0, cn]) (hAn : ∀ q, H.size ≤ q → A q) : va_P D cl (cn :: ws) H1 ∧ va_D A (cn :: ws) := by
  have hn : H.size ≤ cn.1 := by
    rcases hD1.2 1 _ rfl with ⟨j, e, h⟩ | h
    · match j, h with
      | 0, h =>
        have h0 : c0 = (cn.1, e) := Option.some.inj h
        have h1 : c0.1 = cn.1 := by rw [h0]
        exact absurd (hD1.1 0 1 _ _ rfl rfl h1) (by decide)
      | j + 1, h => simp at h
    · exact h
  refine ⟨fun k q hk => ?_, fun i' j' p q h1 h2 e => ?_, fun k q hk => ?_⟩
  · match k, hk with
    | 0, hk => cases hk; exact hP1 1 _ rfl
    | k + 1, hk =>
      have hk : ws[k]? = some q := hk
      by_cases hki : k = i
      · subst hki
        cases hi.symm.trans hk
        exact hP1 0 _ rfl
      · refine (hP k q hk).kept (hk1 _ (hP k q hk).lt ?_)
        rintro (⟨j, e, h⟩ | h)
        · match j, h with
          | 0, h =>
            have h0 : c0 = (q.1, e) := Option.some.inj h
            have h1 : c0.1 = q.1 := by rw [h0]
            exact hki (hD.1 k i q c0 hk hi h1.symm)
          | j + 1, h => simp at h
        · have := (hP k q hk).lt
          omega
  · match i', j', h1, h2 with
    | 0, 0, _, _ => rfl
    | 0, j' + 1, h1, h2 =>
      cases h1
      have h2 : ws[j']? = some q := h2
      have := (hP j' q h2).lt
      omega
    | i' + 1, 0, h1, h2 =>
      cases h2
      have h1 : ws[i']? = some p := h1
      have := (hP i' p h1).lt
      omega
    | i' + 1, j' + 1, h1, h2 =>
      have := hD.1 i' j' p q h1 h2 e
      omega
  · match k, hk with
    | 0, hk => cases hk; exact hAn _ hn
    | k + 1, hk => exact hD.2 k q hk
def kG_infos (α : kS) : kS := (α.1, α.2.1, va_up α.2.2.1 21 (2 * α.2.2.1 21), va_cpy α.2.2.2.1 (fun _ => 0) 0 0 (α.2.2.1 21), α.2.2.2.2)
def kG_lefts (α : kS) : kS := (α.1, α.2.1, va_up α.2.2.1 22 (2 * α.2.2.1 22), α.2.2.2.1, va_up α.2.2.2.2 0 (va_cpy (α.2.2.2.2 0) (fun _ => 0) 0 0 (α.2.2.1 22)))
def kG_rights (α : kS) : kS := (α.1, α.2.1, va_up α.2.2.1 23 (2 * α.2.2.1 23), α.2.2.2.1, va_up α.2.2.2.2 1 (va_cpy (α.2.2.2.2 1) (fun _ => 0) 0 0 (α.2.2.1 23)))
def kG_links (α : kS) : kS := (α.1, α.2.1, va_up α.2.2.1 24 (2 * α.2.2.1 24), α.2.2.2.1, va_up α.2.2.2.2 2 (va_cpy (α.2.2.2.2 2) (fun _ => 0) 0 0 (α.2.2.1 24)))
def kG_heads (α : kS) : kS := (α.1, α.2.1, va_up α.2.2.1 25 (2 * α.2.2.1 25), α.2.2.2.1, va_up α.2.2.2.2 3 (fun _ => 0))
theorem kOk_gr {α β : kS} {K : Nat} (hK : 21 ≤ K) (hK2 : K < 26) (h : kOk α) (h2 : 2 * α.2.2.1 K ≤ kMx K) (e1 : β.1 = α.1) (e2 : β.2.1 = α.2.1) (e3 : β.2.2.1 = va_up α.2.2.1 K (2 * α.2.2.1 K)) : kOk β ∧ kF β = kF α + 2 * α.2.2.1 K := by
  refine ⟨⟨fun r hr => ?_, fun r hr => ?_, by rw [e1]; exact h.2.2.1, fun r a b => ?_⟩, ?_⟩
  · rw [e2, e3, kup_n (by omega)]; exact h.1 r hr
  · rw [e3]
    by_cases e : r = K
    · subst e; rw [kup_s]; exact h.dbl hr h2
    · rw [kup_n e]; exact h.2.1 r hr
  · rw [e1, e3]
    by_cases e : r = K
    · subst e; rw [kup_s]
      have := h.2.2.2 r a b
      omega
    · rw [kup_n e]; exact h.2.2.2 r a b
  · have := kSum_up (f := α.2.2.1) (r := K) (v := 2 * α.2.2.1 K) 26 hK2
    unfold kF
    rw [e3]
    omega
theorem kRm_gr {α0 α β : kS} {ad0 ad : Nat → Nat} {K a : Nat} (h : kRm α0 ad0 α ad) (h16 : 1 ≤ α.2.2.1 K) (e3 : β.2.2.1 = va_up α.2.2.1 K (2 * α.2.2.1 K)) : kRm α0 ad0 β (va_up ad K a) := by
  refine h.tr fun r hr => ?_
  rw [e3]
  by_cases e : r = K
  · subst e; rw [kup_s]; exact ⟨by omega, fun q => by omega⟩
  · rw [kup_n e, kup_n e]; exact ⟨Nat.le_refl _, fun _ => rfl⟩
section KGROW
variable {p : Program} {l : Launch} {e : Env} {R : Room} {s : State} {m : MethodId} {args : Array Value} {below : List Frame} {meth : Method} {c : Code} {H : Heap} {locs : List Loc} {cells slots : Nat} {Q : State → Prop} {g : kG} {A : Nat → Prop} {α0 α : kS} {ad0 ad : Nat → Nat} {cc : ByteArray} {nL index pc : Nat} {own : String} {ls : Array Slot} {rest : List Value}
variable {fr0 lo0 : Nat}
theorem kg_inst_infos {a : Nat} {zf : Nat → Nat → Int32} (S : CallFix p m c cc nL s args vT own) (E : kE g A s) (hP : va_P (kD g) classes ((a, .inl (kcJ g, 2 * α.2.2.1 21, .inr (.inl (va_cpy α.2.2.2.1 (fun _ => 0) 0 0 (α.2.2.1 21))))) :: kW g α (ad, zf)) H) (hD : va_D A ((a, .inl (kcJ g, 2 * α.2.2.1 21, .inr (.inl (va_cpy α.2.2.2.1 (fun _ => 0) 0 0 (α.2.2.1 21))))) :: kW g α (ad, zf))) (hz : ∀ r, r < 21 → ∀ (j : Nat) (v : Int32), (α.2.1 r)[j]? = some v → zf r j = v) (hO : kOk α) (h2 : 2 * α.2.2.1 21 ≤ kMx 21) (hS : va_S A s.heap H locs) (hRm : kRm α0 ad0 α ad)
    (hb1 : slots + kF α0 ≤ kF α + 2 * α.2.2.1 21) (hb2 : 32 * cells + kF α0 ≤ kF α + 2 * α.2.2.1 21) (hlink : Cond.fieldLink own index "FamilyKernel$Terms" "infos" "[J" ∈ vT) (hdg : decode cc pc = .ok (.putfield index, 3))
    (kk : ∀ (a : Nat) (H1 : Heap) (locs1 : List Loc), kI g A s α0 ad0 (kG_infos α) (va_up ad 21 a) H1 locs1 cells slots → W p l e R s m args below meth c H1 locs1 cells slots Q (F0 m (pc + 3) ls rest)) : W p l e R s m args below meth c H locs cells slots Q (F0 m pc ls (.ref a :: .ref (kad g 2) :: rest)) := by
  obtain ⟨o1, o2⟩ := kOk_gr (β := kG_infos α) (by decide) (by decide) hO h2 rfl rfl rfl
  have h16 := hO.ge (r := 21) (by decide)
  refine va_put (D := kD g) (ci := 2) (v := .ref a) (ty := (.array .long)) (C := R_Terms) (T := T_Terms) (N := 10) S.1 S.2.1 S.2.2.2.2 in_Terms ty_Terms tyo_Terms nm_Terms S.2.2.2.1 E.1 hP hD hS 3 rfl rfl 4 (by decide) (S.2.2.2.2 _ hlink) (fun _ h9 => h9) rfl (by decide +kernel) rfl rfl (Nat.le_of_ble_eq_true rfl) hdg (fun H1 locs1 hP1 hD1 hS1 => kk a H1 locs1 ⟨⟨⟨zf, ?_, ?_, hz⟩, o1, hS1⟩, kRm_gr hRm (by omega) rfl, by omega, by omega⟩)
  · exact hP1.sub [1, 2, 3, 4, 5, 6, 7, 8, 9, 10, 11, 12, 13, 14, 15, 16, 17, 18, 19, 20, 21, 22, 23, 24, 25, 26, 27, 28, 29, 30, 31, 32, 33, 34, 35, 36, 37, 38, 39, 40, 41, 42, 43, 44, 45, 46, 47, 48, 49, 50, 51, 52, 53, 0, 55, 56, 57, 58] rfl
  · exact hD1.sub [1, 2, 3, 4, 5, 6, 7, 8, 9, 10, 11, 12, 13, 14, 15, 16, 17, 18, 19, 20, 21, 22, 23, 24, 25, 26, 27, 28, 29, 30, 31, 32, 33, 34, 35, 36, 37, 38, 39, 40, 41, 42, 43, 44, 45, 46, 47, 48, 49, 50, 51, 52, 53, 0, 55, 56, 57, 58] (by decide) rfl
theorem kg_copy_infos {ix : Nat} (S : CallFix p m c cc nL s args vT own) (E : kE g A s) (hI : kI g A s α0 ad0 α ad H locs cells slots) (h2 : 2 * α.2.2.1 21 ≤ kMx 21) (hw : kWs own ix y_Arr_copyOf_1 b_Arr_copyOf_1 3 (some (.array .long)) 2) (hsz : ls.size = nL) (hfr : 21 ≤ fr0 ∧ 640 ≤ lo0)
    (hd1 : decode cc pc = .ok (.invokestatic ix, 3)) (hlink : Cond.fieldLink own index "FamilyKernel$Terms" "infos" "[J" ∈ vT) (hdg : decode cc (pc + 3) = .ok (.putfield index, 3)) (hr : rest = [])
    (kk : ∀ (ad : Nat → Nat) (H1 : Heap) (locs1 : List Loc) (cells1 slots1 : Nat), kI g A s α0 ad0 (kG_infos α) ad H1 locs1 cells1 slots1 → W p l e (kR fr0 lo0 α0) s m args below meth c H1 locs1 cells1 slots1 Q (F0 m (pc + 6) ls rest)) : W p l e (kR fr0 lo0 α0) s m args below meth c H locs cells slots Q (F0 m pc ls (.int (nI (2 * α.2.2.1 21)) :: .ref (ad 21) :: .ref (kad g 2) :: rest)) := by
  subst hr
  obtain ⟨w1, w2, w4, w5, w6, w7, w8⟩ := hw
  obtain ⟨zf, hP, hD, hz⟩ := hI.1.1
  have hO := hI.1.2.1
  have hS := hI.1.2.2
  have h16 := hO.ge (r := 21) (by decide)
  have hsm := hO.sm (r := 21) (by decide)
  obtain ⟨o1, o2⟩ := kOk_gr (β := kG_infos α) (by decide) (by decide) hO h2 rfl rfl rfl
  have hF := o1.F
  have b1 := hI.2.2.1
  have b2 := hI.2.2.2
  have hPc := hP.sub (ws' := [(ad 21, .inl (kcJ g, α.2.2.1 21, .inr (.inl α.2.2.2.1)))]) [53] rfl
  have hDc := hD.sub (ws' := [(ad 21, .inl (kcJ g, α.2.2.1 21, .inr (.inl α.2.2.2.1)))]) [53] (by decide) rfl
  have hFc := va_free (wc := [(ad 21, .inl (kcJ g, α.2.2.1 21, .inr (.inl α.2.2.2.1)))]) hD hS E.2.1 [53] rfl
  refine va_callr (va_runS (As := [.ref (ad 21), .int (nI (2 * α.2.2.1 21))]) (rest := [.ref (kad g 2)]) S (c_copy_long l g.1 g.2.1 H.size (ad 21) (α.2.2.1 21) (kcJ g) α.2.2.2.1 (by omega) (by omega)) (va_cwS 2 S.2.2.2.2 (gSS w1 w2 w4 w5) rfl rfl rfl ⟨w6, w7, w8⟩ ⟨by show 20 + 1 ≤ fr0; omega, by show 8 + (3 + 11) + 600 ≤ lo0; omega⟩) ⟨Pw_blind, Pw_of hPc (E.1.sub [1] rfl) hDc⟩ rfl rfl hsz rfl (lv_room (Nat.le_of_ble_eq_true rfl)) hd1 ⟨?_, ?_⟩) hS (fun q _ h => hFc q h) hFc (fun u ra t H1 locs1 ht hvm hw hB hz1 hk1 hS1 => ?_)
  · show cells + 1 ≤ (kM - kF α0) / 32 + 1
    omega
  · show slots + 2 * α.2.2.1 21 ≤ kM - kF α0 + 6
    omega
  obtain ⟨hP1, -, hD1⟩ := hB
  rw [ht] at hP1
  obtain ⟨hP2, hD2⟩ := kq_keep (i := 53) hP hD rfl hk1 hP1 hD1 (fun q hq => E.2.1 q (Nat.le_trans hS.1 hq))
  refine kg_inst_infos (α0 := α0) (ad0 := ad0) S E hP2 hD2 hz hO h2 hS1 hI.2.1 (by omega) (by omega) hlink hdg (fun a H2 locs2 hI2 => kk _ H2 locs2 _ _ hI2)
theorem kg_inst_lefts {a : Nat} {zf : Nat → Nat → Int32} (S : CallFix p m c cc nL s args vT own) (E : kE g A s) (hP : va_P (kD g) classes ((a, .inl (kcI g, 2 * α.2.2.1 22, .inl (va_cpy (α.2.2.2.2 0) (fun _ => 0) 0 0 (α.2.2.1 22)))) :: kW g α (ad, zf)) H) (hD : va_D A ((a, .inl (kcI g, 2 * α.2.2.1 22, .inl (va_cpy (α.2.2.2.2 0) (fun _ => 0) 0 0 (α.2.2.1 22)))) :: kW g α (ad, zf))) (hz : ∀ r, r < 21 → ∀ (j : Nat) (v : Int32), (α.2.1 r)[j]? = some v → zf r j = v) (hO : kOk α) (h2 : 2 * α.2.2.1 22 ≤ kMx 22) (hS : va_S A s.heap H locs) (hRm : kRm α0 ad0 α ad)
    (hb1 : slots + kF α0 ≤ kF α + 2 * α.2.2.1 22) (hb2 : 32 * cells + kF α0 ≤ kF α + 2 * α.2.2.1 22) (hlink : Cond.fieldLink own index "FamilyKernel$Terms" "lefts" "[I" ∈ vT) (hdg : decode cc pc = .ok (.putfield index, 3))
    (kk : ∀ (a : Nat) (H1 : Heap) (locs1 : List Loc), kI g A s α0 ad0 (kG_lefts α) (va_up ad 22 a) H1 locs1 cells slots → W p l e R s m args below meth c H1 locs1 cells slots Q (F0 m (pc + 3) ls rest)) : W p l e R s m args below meth c H locs cells slots Q (F0 m pc ls (.ref a :: .ref (kad g 2) :: rest)) := by
  obtain ⟨o1, o2⟩ := kOk_gr (β := kG_lefts α) (by decide) (by decide) hO h2 rfl rfl rfl
  have h16 := hO.ge (r := 22) (by decide)
  refine va_put (D := kD g) (ci := 2) (v := .ref a) (ty := (.array .int)) (C := R_Terms) (T := T_Terms) (N := 10) S.1 S.2.1 S.2.2.2.2 in_Terms ty_Terms tyo_Terms nm_Terms S.2.2.2.1 E.1 hP hD hS 3 rfl rfl 5 (by decide) (S.2.2.2.2 _ hlink) (fun _ h9 => h9) rfl (by decide +kernel) rfl rfl (Nat.le_of_ble_eq_true rfl) hdg (fun H1 locs1 hP1 hD1 hS1 => kk a H1 locs1 ⟨⟨⟨zf, ?_, ?_, hz⟩, o1, hS1⟩, kRm_gr hRm (by omega) rfl, by omega, by omega⟩)
  · exact hP1.sub [1, 2, 3, 4, 5, 6, 7, 8, 9, 10, 11, 12, 13, 14, 15, 16, 17, 18, 19, 20, 21, 22, 23, 24, 25, 26, 27, 28, 29, 30, 31, 32, 33, 34, 35, 36, 37, 38, 39, 40, 41, 42, 43, 44, 45, 46, 47, 48, 49, 50, 51, 52, 53, 54, 0, 56, 57, 58] rfl
  · exact hD1.sub [1, 2, 3, 4, 5, 6, 7, 8, 9, 10, 11, 12, 13, 14, 15, 16, 17, 18, 19, 20, 21, 22, 23, 24, 25, 26, 27, 28, 29, 30, 31, 32, 33, 34, 35, 36, 37, 38, 39, 40, 41, 42, 43, 44, 45, 46, 47, 48, 49, 50, 51, 52, 53, 54, 0, 56, 57, 58] (by decide) rfl
theorem kg_copy_lefts {ix : Nat} (S : CallFix p m c cc nL s args vT own) (E : kE g A s) (hI : kI g A s α0 ad0 α ad H locs cells slots) (h2 : 2 * α.2.2.1 22 ≤ kMx 22) (hw : kWs own ix y_Arr_copyOf_0 b_Arr_copyOf_0 3 (some (.array .int)) 2) (hsz : ls.size = nL) (hfr : 21 ≤ fr0 ∧ 640 ≤ lo0)
    (hd1 : decode cc pc = .ok (.invokestatic ix, 3)) (hlink : Cond.fieldLink own index "FamilyKernel$Terms" "lefts" "[I" ∈ vT) (hdg : decode cc (pc + 3) = .ok (.putfield index, 3)) (hr : rest = [])
    (kk : ∀ (ad : Nat → Nat) (H1 : Heap) (locs1 : List Loc) (cells1 slots1 : Nat), kI g A s α0 ad0 (kG_lefts α) ad H1 locs1 cells1 slots1 → W p l e (kR fr0 lo0 α0) s m args below meth c H1 locs1 cells1 slots1 Q (F0 m (pc + 6) ls rest)) : W p l e (kR fr0 lo0 α0) s m args below meth c H locs cells slots Q (F0 m pc ls (.int (nI (2 * α.2.2.1 22)) :: .ref (ad 22) :: .ref (kad g 2) :: rest)) := by
  subst hr
  obtain ⟨w1, w2, w4, w5, w6, w7, w8⟩ := hw
  obtain ⟨zf, hP, hD, hz⟩ := hI.1.1
  have hO := hI.1.2.1
  have hS := hI.1.2.2
  have h16 := hO.ge (r := 22) (by decide)
  have hsm := hO.sm (r := 22) (by decide)
  obtain ⟨o1, o2⟩ := kOk_gr (β := kG_lefts α) (by decide) (by decide) hO h2 rfl rfl rfl
  have hF := o1.F
  have b1 := hI.2.2.1
  have b2 := hI.2.2.2
  have hPc := hP.sub (ws' := [(ad 22, .inl (kcI g, α.2.2.1 22, .inl (α.2.2.2.2 0)))]) [54] rfl
  have hDc := hD.sub (ws' := [(ad 22, .inl (kcI g, α.2.2.1 22, .inl (α.2.2.2.2 0)))]) [54] (by decide) rfl
  have hFc := va_free (wc := [(ad 22, .inl (kcI g, α.2.2.1 22, .inl (α.2.2.2.2 0)))]) hD hS E.2.1 [54] rfl
  refine va_callr (va_runS (As := [.ref (ad 22), .int (nI (2 * α.2.2.1 22))]) (rest := [.ref (kad g 2)]) S (c_copy_int l g.1 g.2.1 H.size (ad 22) (α.2.2.1 22) (kcI g) (α.2.2.2.2 0) (by omega) (by omega)) (va_cwS 2 S.2.2.2.2 (gSS w1 w2 w4 w5) rfl rfl rfl ⟨w6, w7, w8⟩ ⟨by show 20 + 1 ≤ fr0; omega, by show 8 + (3 + 11) + 600 ≤ lo0; omega⟩) ⟨Pw_blind, Pw_of hPc (E.1.sub [0] rfl) hDc⟩ rfl rfl hsz rfl (lv_room (Nat.le_of_ble_eq_true rfl)) hd1 ⟨?_, ?_⟩) hS (fun q _ h => hFc q h) hFc (fun u ra t H1 locs1 ht hvm hw hB hz1 hk1 hS1 => ?_)
  · show cells + 1 ≤ (kM - kF α0) / 32 + 1
    omega
  · show slots + 2 * α.2.2.1 22 ≤ kM - kF α0 + 6
    omega
  obtain ⟨hP1, -, hD1⟩ := hB
  rw [ht] at hP1
  obtain ⟨hP2, hD2⟩ := kq_keep (i := 54) hP hD rfl hk1 hP1 hD1 (fun q hq => E.2.1 q (Nat.le_trans hS.1 hq))
  refine kg_inst_lefts (α0 := α0) (ad0 := ad0) S E hP2 hD2 hz hO h2 hS1 hI.2.1 (by omega) (by omega) hlink hdg (fun a H2 locs2 hI2 => kk _ H2 locs2 _ _ hI2)
theorem kg_inst_rights {a : Nat} {zf : Nat → Nat → Int32} (S : CallFix p m c cc nL s args vT own) (E : kE g A s) (hP : va_P (kD g) classes ((a, .inl (kcI g, 2 * α.2.2.1 23, .inl (va_cpy (α.2.2.2.2 1) (fun _ => 0) 0 0 (α.2.2.1 23)))) :: kW g α (ad, zf)) H) (hD : va_D A ((a, .inl (kcI g, 2 * α.2.2.1 23, .inl (va_cpy (α.2.2.2.2 1) (fun _ => 0) 0 0 (α.2.2.1 23)))) :: kW g α (ad, zf))) (hz : ∀ r, r < 21 → ∀ (j : Nat) (v : Int32), (α.2.1 r)[j]? = some v → zf r j = v) (hO : kOk α) (h2 : 2 * α.2.2.1 23 ≤ kMx 23) (hS : va_S A s.heap H locs) (hRm : kRm α0 ad0 α ad)
    (hb1 : slots + kF α0 ≤ kF α + 2 * α.2.2.1 23) (hb2 : 32 * cells + kF α0 ≤ kF α + 2 * α.2.2.1 23) (hlink : Cond.fieldLink own index "FamilyKernel$Terms" "rights" "[I" ∈ vT) (hdg : decode cc pc = .ok (.putfield index, 3))
    (kk : ∀ (a : Nat) (H1 : Heap) (locs1 : List Loc), kI g A s α0 ad0 (kG_rights α) (va_up ad 23 a) H1 locs1 cells slots → W p l e R s m args below meth c H1 locs1 cells slots Q (F0 m (pc + 3) ls rest)) : W p l e R s m args below meth c H locs cells slots Q (F0 m pc ls (.ref a :: .ref (kad g 2) :: rest)) := by
  obtain ⟨o1, o2⟩ := kOk_gr (β := kG_rights α) (by decide) (by decide) hO h2 rfl rfl rfl
  have h16 := hO.ge (r := 23) (by decide)
  refine va_put (D := kD g) (ci := 2) (v := .ref a) (ty := (.array .int)) (C := R_Terms) (T := T_Terms) (N := 10) S.1 S.2.1 S.2.2.2.2 in_Terms ty_Terms tyo_Terms nm_Terms S.2.2.2.1 E.1 hP hD hS 3 rfl rfl 6 (by decide) (S.2.2.2.2 _ hlink) (fun _ h9 => h9) rfl (by decide +kernel) rfl rfl (Nat.le_of_ble_eq_true rfl) hdg (fun H1 locs1 hP1 hD1 hS1 => kk a H1 locs1 ⟨⟨⟨zf, ?_, ?_, hz⟩, o1, hS1⟩, kRm_gr hRm (by omega) rfl, by omega, by omega⟩)
  · exact hP1.sub [1, 2, 3, 4, 5, 6, 7, 8, 9, 10, 11, 12, 13, 14, 15, 16, 17, 18, 19, 20, 21, 22, 23, 24, 25, 26, 27, 28, 29, 30, 31, 32, 33, 34, 35, 36, 37, 38, 39, 40, 41, 42, 43, 44, 45, 46, 47, 48, 49, 50, 51, 52, 53, 54, 55, 0, 57, 58] rfl
  · exact hD1.sub [1, 2, 3, 4, 5, 6, 7, 8, 9, 10, 11, 12, 13, 14, 15, 16, 17, 18, 19, 20, 21, 22, 23, 24, 25, 26, 27, 28, 29, 30, 31, 32, 33, 34, 35, 36, 37, 38, 39, 40, 41, 42, 43, 44, 45, 46, 47, 48, 49, 50, 51, 52, 53, 54, 55, 0, 57, 58] (by decide) rfl
theorem kg_copy_rights {ix : Nat} (S : CallFix p m c cc nL s args vT own) (E : kE g A s) (hI : kI g A s α0 ad0 α ad H locs cells slots) (h2 : 2 * α.2.2.1 23 ≤ kMx 23) (hw : kWs own ix y_Arr_copyOf_0 b_Arr_copyOf_0 3 (some (.array .int)) 2) (hsz : ls.size = nL) (hfr : 21 ≤ fr0 ∧ 640 ≤ lo0)
    (hd1 : decode cc pc = .ok (.invokestatic ix, 3)) (hlink : Cond.fieldLink own index "FamilyKernel$Terms" "rights" "[I" ∈ vT) (hdg : decode cc (pc + 3) = .ok (.putfield index, 3)) (hr : rest = [])
    (kk : ∀ (ad : Nat → Nat) (H1 : Heap) (locs1 : List Loc) (cells1 slots1 : Nat), kI g A s α0 ad0 (kG_rights α) ad H1 locs1 cells1 slots1 → W p l e (kR fr0 lo0 α0) s m args below meth c H1 locs1 cells1 slots1 Q (F0 m (pc + 6) ls rest)) : W p l e (kR fr0 lo0 α0) s m args below meth c H locs cells slots Q (F0 m pc ls (.int (nI (2 * α.2.2.1 23)) :: .ref (ad 23) :: .ref (kad g 2) :: rest)) := by
  subst hr
  obtain ⟨w1, w2, w4, w5, w6, w7, w8⟩ := hw
  obtain ⟨zf, hP, hD, hz⟩ := hI.1.1
  have hO := hI.1.2.1
  have hS := hI.1.2.2
  have h16 := hO.ge (r := 23) (by decide)
  have hsm := hO.sm (r := 23) (by decide)
  obtain ⟨o1, o2⟩ := kOk_gr (β := kG_rights α) (by decide) (by decide) hO h2 rfl rfl rfl
  have hF := o1.F
  have b1 := hI.2.2.1
  have b2 := hI.2.2.2
  have hPc := hP.sub (ws' := [(ad 23, .inl (kcI g, α.2.2.1 23, .inl (α.2.2.2.2 1)))]) [55] rfl
  have hDc := hD.sub (ws' := [(ad 23, .inl (kcI g, α.2.2.1 23, .inl (α.2.2.2.2 1)))]) [55] (by decide) rfl
  have hFc := va_free (wc := [(ad 23, .inl (kcI g, α.2.2.1 23, .inl (α.2.2.2.2 1)))]) hD hS E.2.1 [55] rfl
  refine va_callr (va_runS (As := [.ref (ad 23), .int (nI (2 * α.2.2.1 23))]) (rest := [.ref (kad g 2)]) S (c_copy_int l g.1 g.2.1 H.size (ad 23) (α.2.2.1 23) (kcI g) (α.2.2.2.2 1) (by omega) (by omega)) (va_cwS 2 S.2.2.2.2 (gSS w1 w2 w4 w5) rfl rfl rfl ⟨w6, w7, w8⟩ ⟨by show 20 + 1 ≤ fr0; omega, by show 8 + (3 + 11) + 600 ≤ lo0; omega⟩) ⟨Pw_blind, Pw_of hPc (E.1.sub [0] rfl) hDc⟩ rfl rfl hsz rfl (lv_room (Nat.le_of_ble_eq_true rfl)) hd1 ⟨?_, ?_⟩) hS (fun q _ h => hFc q h) hFc (fun u ra t H1 locs1 ht hvm hw hB hz1 hk1 hS1 => ?_)
  · show cells + 1 ≤ (kM - kF α0) / 32 + 1
    omega
  · show slots + 2 * α.2.2.1 23 ≤ kM - kF α0 + 6
    omega
  obtain ⟨hP1, -, hD1⟩ := hB
  rw [ht] at hP1
  obtain ⟨hP2, hD2⟩ := kq_keep (i := 55) hP hD rfl hk1 hP1 hD1 (fun q hq => E.2.1 q (Nat.le_trans hS.1 hq))
  refine kg_inst_rights (α0 := α0) (ad0 := ad0) S E hP2 hD2 hz hO h2 hS1 hI.2.1 (by omega) (by omega) hlink hdg (fun a H2 locs2 hI2 => kk _ H2 locs2 _ _ hI2)
theorem kg_inst_links {a : Nat} {zf : Nat → Nat → Int32} (S : CallFix p m c cc nL s args vT own) (E : kE g A s) (hP : va_P (kD g) classes ((a, .inl (kcI g, 2 * α.2.2.1 24, .inl (va_cpy (α.2.2.2.2 2) (fun _ => 0) 0 0 (α.2.2.1 24)))) :: kW g α (ad, zf)) H) (hD : va_D A ((a, .inl (kcI g, 2 * α.2.2.1 24, .inl (va_cpy (α.2.2.2.2 2) (fun _ => 0) 0 0 (α.2.2.1 24)))) :: kW g α (ad, zf))) (hz : ∀ r, r < 21 → ∀ (j : Nat) (v : Int32), (α.2.1 r)[j]? = some v → zf r j = v) (hO : kOk α) (h2 : 2 * α.2.2.1 24 ≤ kMx 24) (hS : va_S A s.heap H locs) (hRm : kRm α0 ad0 α ad)
    (hb1 : slots + kF α0 ≤ kF α + 2 * α.2.2.1 24) (hb2 : 32 * cells + kF α0 ≤ kF α + 2 * α.2.2.1 24) (hlink : Cond.fieldLink own index "FamilyKernel$Terms" "links" "[I" ∈ vT) (hdg : decode cc pc = .ok (.putfield index, 3))
    (kk : ∀ (a : Nat) (H1 : Heap) (locs1 : List Loc), kI g A s α0 ad0 (kG_links α) (va_up ad 24 a) H1 locs1 cells slots → W p l e R s m args below meth c H1 locs1 cells slots Q (F0 m (pc + 3) ls rest)) : W p l e R s m args below meth c H locs cells slots Q (F0 m pc ls (.ref a :: .ref (kad g 2) :: rest)) := by
  obtain ⟨o1, o2⟩ := kOk_gr (β := kG_links α) (by decide) (by decide) hO h2 rfl rfl rfl
  have h16 := hO.ge (r := 24) (by decide)
  refine va_put (D := kD g) (ci := 2) (v := .ref a) (ty := (.array .int)) (C := R_Terms) (T := T_Terms) (N := 10) S.1 S.2.1 S.2.2.2.2 in_Terms ty_Terms tyo_Terms nm_Terms S.2.2.2.1 E.1 hP hD hS 3 rfl rfl 7 (by decide) (S.2.2.2.2 _ hlink) (fun _ h9 => h9) rfl (by decide +kernel) rfl rfl (Nat.le_of_ble_eq_true rfl) hdg (fun H1 locs1 hP1 hD1 hS1 => kk a H1 locs1 ⟨⟨⟨zf, ?_, ?_, hz⟩, o1, hS1⟩, kRm_gr hRm (by omega) rfl, by omega, by omega⟩)
  · exact hP1.sub [1, 2, 3, 4, 5, 6, 7, 8, 9, 10, 11, 12, 13, 14, 15, 16, 17, 18, 19, 20, 21, 22, 23, 24, 25, 26, 27, 28, 29, 30, 31, 32, 33, 34, 35, 36, 37, 38, 39, 40, 41, 42, 43, 44, 45, 46, 47, 48, 49, 50, 51, 52, 53, 54, 55, 56, 0, 58] rfl
  · exact hD1.sub [1, 2, 3, 4, 5, 6, 7, 8, 9, 10, 11, 12, 13, 14, 15, 16, 17, 18, 19, 20, 21, 22, 23, 24, 25, 26, 27, 28, 29, 30, 31, 32, 33, 34, 35, 36, 37, 38, 39, 40, 41, 42, 43, 44, 45, 46, 47, 48, 49, 50, 51, 52, 53, 54, 55, 56, 0, 58] (by decide) rfl
theorem kg_copy_links {ix : Nat} (S : CallFix p m c cc nL s args vT own) (E : kE g A s) (hI : kI g A s α0 ad0 α ad H locs cells slots) (h2 : 2 * α.2.2.1 24 ≤ kMx 24) (hw : kWs own ix y_Arr_copyOf_0 b_Arr_copyOf_0 3 (some (.array .int)) 2) (hsz : ls.size = nL) (hfr : 21 ≤ fr0 ∧ 640 ≤ lo0)
    (hd1 : decode cc pc = .ok (.invokestatic ix, 3)) (hlink : Cond.fieldLink own index "FamilyKernel$Terms" "links" "[I" ∈ vT) (hdg : decode cc (pc + 3) = .ok (.putfield index, 3)) (hr : rest = [])
    (kk : ∀ (ad : Nat → Nat) (H1 : Heap) (locs1 : List Loc) (cells1 slots1 : Nat), kI g A s α0 ad0 (kG_links α) ad H1 locs1 cells1 slots1 → W p l e (kR fr0 lo0 α0) s m args below meth c H1 locs1 cells1 slots1 Q (F0 m (pc + 6) ls rest)) : W p l e (kR fr0 lo0 α0) s m args below meth c H locs cells slots Q (F0 m pc ls (.int (nI (2 * α.2.2.1 24)) :: .ref (ad 24) :: .ref (kad g 2) :: rest)) := by
  subst hr
  obtain ⟨w1, w2, w4, w5, w6, w7, w8⟩ := hw
  obtain ⟨zf, hP, hD, hz⟩ := hI.1.1
  have hO := hI.1.2.1
  have hS := hI.1.2.2
  have h16 := hO.ge (r := 24) (by decide)
  have hsm := hO.sm (r := 24) (by decide)
  obtain ⟨o1, o2⟩ := kOk_gr (β := kG_links α) (by decide) (by decide) hO h2 rfl rfl rfl
  have hF := o1.F
  have b1 := hI.2.2.1
  have b2 := hI.2.2.2
  have hPc := hP.sub (ws' := [(ad 24, .inl (kcI g, α.2.2.1 24, .inl (α.2.2.2.2 2)))]) [56] rfl
  have hDc := hD.sub (ws' := [(ad 24, .inl (kcI g, α.2.2.1 24, .inl (α.2.2.2.2 2)))]) [56] (by decide) rfl
  have hFc := va_free (wc := [(ad 24, .inl (kcI g, α.2.2.1 24, .inl (α.2.2.2.2 2)))]) hD hS E.2.1 [56] rfl
  refine va_callr (va_runS (As := [.ref (ad 24), .int (nI (2 * α.2.2.1 24))]) (rest := [.ref (kad g 2)]) S (c_copy_int l g.1 g.2.1 H.size (ad 24) (α.2.2.1 24) (kcI g) (α.2.2.2.2 2) (by omega) (by omega)) (va_cwS 2 S.2.2.2.2 (gSS w1 w2 w4 w5) rfl rfl rfl ⟨w6, w7, w8⟩ ⟨by show 20 + 1 ≤ fr0; omega, by show 8 + (3 + 11) + 600 ≤ lo0; omega⟩) ⟨Pw_blind, Pw_of hPc (E.1.sub [0] rfl) hDc⟩ rfl rfl hsz rfl (lv_room (Nat.le_of_ble_eq_true rfl)) hd1 ⟨?_, ?_⟩) hS (fun q _ h => hFc q h) hFc (fun u ra t H1 locs1 ht hvm hw hB hz1 hk1 hS1 => ?_)
  · show cells + 1 ≤ (kM - kF α0) / 32 + 1
    omega
  · show slots + 2 * α.2.2.1 24 ≤ kM - kF α0 + 6
    omega
  obtain ⟨hP1, -, hD1⟩ := hB
  rw [ht] at hP1
  obtain ⟨hP2, hD2⟩ := kq_keep (i := 56) hP hD rfl hk1 hP1 hD1 (fun q hq => E.2.1 q (Nat.le_trans hS.1 hq))
  refine kg_inst_links (α0 := α0) (ad0 := ad0) S E hP2 hD2 hz hO h2 hS1 hI.2.1 (by omega) (by omega) hlink hdg (fun a H2 locs2 hI2 => kk _ H2 locs2 _ _ hI2)
theorem kg_inst_heads {a : Nat} {zf : Nat → Nat → Int32} (S : CallFix p m c cc nL s args vT own) (E : kE g A s) (hP : va_P (kD g) classes ((a, .inl (kcI g, 2 * α.2.2.1 25, .inl (fun _ => 0))) :: kW g α (ad, zf)) H) (hD : va_D A ((a, .inl (kcI g, 2 * α.2.2.1 25, .inl (fun _ => 0))) :: kW g α (ad, zf))) (hz : ∀ r, r < 21 → ∀ (j : Nat) (v : Int32), (α.2.1 r)[j]? = some v → zf r j = v) (hO : kOk α) (h2 : 2 * α.2.2.1 25 ≤ kMx 25) (hS : va_S A s.heap H locs) (hRm : kRm α0 ad0 α ad)
    (hb1 : slots + kF α0 ≤ kF α + 2 * α.2.2.1 25) (hb2 : 32 * cells + kF α0 ≤ kF α + 2 * α.2.2.1 25) (hlink : Cond.fieldLink own index "FamilyKernel$Terms" "heads" "[I" ∈ vT) (hdg : decode cc pc = .ok (.putfield index, 3))
    (kk : ∀ (a : Nat) (H1 : Heap) (locs1 : List Loc), kI g A s α0 ad0 (kG_heads α) (va_up ad 25 a) H1 locs1 cells slots → W p l e R s m args below meth c H1 locs1 cells slots Q (F0 m (pc + 3) ls rest)) : W p l e R s m args below meth c H locs cells slots Q (F0 m pc ls (.ref a :: .ref (kad g 2) :: rest)) := by
  obtain ⟨o1, o2⟩ := kOk_gr (β := kG_heads α) (by decide) (by decide) hO h2 rfl rfl rfl
  have h16 := hO.ge (r := 25) (by decide)
  refine va_put (D := kD g) (ci := 2) (v := .ref a) (ty := (.array .int)) (C := R_Terms) (T := T_Terms) (N := 10) S.1 S.2.1 S.2.2.2.2 in_Terms ty_Terms tyo_Terms nm_Terms S.2.2.2.1 E.1 hP hD hS 3 rfl rfl 8 (by decide) (S.2.2.2.2 _ hlink) (fun _ h9 => h9) rfl (by decide +kernel) rfl rfl (Nat.le_of_ble_eq_true rfl) hdg (fun H1 locs1 hP1 hD1 hS1 => kk a H1 locs1 ⟨⟨⟨zf, ?_, ?_, hz⟩, o1, hS1⟩, kRm_gr hRm (by omega) rfl, by omega, by omega⟩)
  · exact hP1.sub [1, 2, 3, 4, 5, 6, 7, 8, 9, 10, 11, 12, 13, 14, 15, 16, 17, 18, 19, 20, 21, 22, 23, 24, 25, 26, 27, 28, 29, 30, 31, 32, 33, 34, 35, 36, 37, 38, 39, 40, 41, 42, 43, 44, 45, 46, 47, 48, 49, 50, 51, 52, 53, 54, 55, 56, 57, 0] rfl
  · exact hD1.sub [1, 2, 3, 4, 5, 6, 7, 8, 9, 10, 11, 12, 13, 14, 15, 16, 17, 18, 19, 20, 21, 22, 23, 24, 25, 26, 27, 28, 29, 30, 31, 32, 33, 34, 35, 36, 37, 38, 39, 40, 41, 42, 43, 44, 45, 46, 47, 48, 49, 50, 51, 52, 53, 54, 55, 56, 57, 0] (by decide) rfl
theorem kg_new_heads {N : Nat} (S : CallFix p m c cc nL s args vT own) (E : kE g A s) (hI : kI g A s α0 ad0 α ad H locs cells slots) (h2 : 2 * α.2.2.1 25 ≤ kMx 25) (hN : N = 2 * α.2.2.1 25) (hd1 : decode cc pc = .ok (.newarray .int, 2)) (hlink : Cond.fieldLink own index "FamilyKernel$Terms" "heads" "[I" ∈ vT) (hdg : decode cc (pc + 2) = .ok (.putfield index, 3))
    (kk : ∀ (ad : Nat → Nat) (H1 : Heap) (locs1 : List Loc) (cells1 slots1 : Nat), kI g A s α0 ad0 (kG_heads α) ad H1 locs1 cells1 slots1 → W p l e (kR fr0 lo0 α0) s m args below meth c H1 locs1 cells1 slots1 Q (F0 m (pc + 5) ls rest)) : W p l e (kR fr0 lo0 α0) s m args below meth c H locs cells slots Q (F0 m pc ls (.int (nI N) :: .ref (kad g 2) :: rest)) := by
  subst hN
  obtain ⟨zf, hP, hD, hz⟩ := hI.1.1
  have hO := hI.1.2.1
  have hS := hI.1.2.2
  have h16 := hO.ge (r := 25) (by decide)
  have hsm := hO.sm (r := 25) (by decide)
  obtain ⟨o1, o2⟩ := kOk_gr (β := kG_heads α) (by decide) (by decide) hO h2 rfl rfl rfl
  have hF := o1.F
  have b1 := hI.2.2.1
  have b2 := hI.2.2.2
  refine va_newa (atype := .int) (ty := .int) (a0 := (2 * α.2.2.1 25, .inl (fun _ => 0))) S.1 S.2.1 (S.2.2.2.2 _ vt_83) rfl E.1 hP hD hS E.2.1 (fun _ => rfl) (nI_pos (by omega)) (nI_clamp (by omega)) (by show 2 * α.2.2.1 25 * 4 ≤ 536870912; omega) (by show cells + 1 ≤ (kM - kF α0) / 32 + 1; omega) (by show slots + 2 * α.2.2.1 25 ≤ kM - kF α0 + 6; omega) hd1 (fun a cA1 H1 hK1 hP1 hD1 hS1 => ?_)
  have e9 : cA1 = kcI g := Option.some.inj ((hK1.2 2 _ rfl).2.symm.trans (hK1.2 0 _ rfl).2)
  rw [e9] at hP1 hD1
  exact kg_inst_heads (α0 := α0) (ad0 := ad0) S E (hP1.sub [58, 0, 1, 2, 3, 4, 5, 6, 7, 8, 9, 10, 11, 12, 13, 14, 15, 16, 17, 18, 19, 20, 21, 22, 23, 24, 25, 26, 27, 28, 29, 30, 31, 32, 33, 34, 35, 36, 37, 38, 39, 40, 41, 42, 43, 44, 45, 46, 47, 48, 49, 50, 51, 52, 53, 54, 55, 56, 57] rfl) (hD1.sub [58, 0, 1, 2, 3, 4, 5, 6, 7, 8, 9, 10, 11, 12, 13, 14, 15, 16, 17, 18, 19, 20, 21, 22, 23, 24, 25, 26, 27, 28, 29, 30, 31, 32, 33, 34, 35, 36, 37, 38, 39, 40, 41, 42, 43, 44, 45, 46, 47, 48, 49, 50, 51, 52, 53, 54, 55, 56, 57] (by decide) rfl) hz hO h2 hS1 hI.2.1 (by omega) (by omega) hlink hdg (fun a H2 locs2 hI2 => kk _ H2 locs2 _ _ hI2)
end KGROW
def kGrow (α : kS) : kS := kG_heads (kG_links (kG_rights (kG_lefts (kG_infos α))))
theorem kw_Terms_100 : kWs "FamilyKernel$Terms" 100 y_Arr_copyOf_1 b_Arr_copyOf_1 3 (some (.array .long)) 2 := ⟨vt_575, vt_576, vt_312, vt_577, by decide, by decide, by decide +kernel⟩
theorem kw_Terms_106 : kWs "FamilyKernel$Terms" 106 y_Arr_copyOf_0 b_Arr_copyOf_0 3 (some (.array .int)) 2 := ⟨vt_578, vt_313, vt_312, vt_314, by decide, by decide, by decide +kernel⟩
theorem kw_Terms_62 : kWv "FamilyKernel$Terms" 62 "FamilyKernel$Terms" y_Terms_slot b_Terms_slot 5 (some .int) 3 := ⟨vt_536, vt_537, vt_538, vt_19, vt_539, by decide, by decide, by decide +kernel⟩
def f_Terms_grow_65 (N : Nat)  : Nat → Int32 → kS → Option (kO × kS)
  | 0, _, _ => none
  | n + 1, x2, β => if (β.1 6) ≤ x2 then (some (some none, β)) else (if x2 < 0 ∨ β.2.2.1 22 ≤ (x2).toNatClampNeg then none else (if x2 < 0 ∨ β.2.2.1 23 ≤ (x2).toNatClampNeg then none else (if (f_Terms_slot (f_Terms_kind x2 β) (β.2.2.2.2 0 (x2).toNatClampNeg) (β.2.2.2.2 1 (x2).toNatClampNeg) β) < 0 ∨ β.2.2.1 25 ≤ ((f_Terms_slot (f_Terms_kind x2 β) (β.2.2.2.2 0 (x2).toNatClampNeg) (β.2.2.2.2 1 (x2).toNatClampNeg) β)).toNatClampNeg then none else (if x2 < 0 ∨ β.2.2.1 24 ≤ (x2).toNatClampNeg then none else (if (f_Terms_slot (f_Terms_kind x2 β) (β.2.2.2.2 0 (x2).toNatClampNeg) (β.2.2.2.2 1 (x2).toNatClampNeg) β) < 0 ∨ (kSA β 2 (upd (β.2.2.2.2 2) (x2).toNatClampNeg (β.2.2.2.2 3 ((f_Terms_slot (f_Terms_kind x2 β) (β.2.2.2.2 0 (x2).toNatClampNeg) (β.2.2.2.2 1 (x2).toNatClampNeg) β)).toNatClampNeg))).2.2.1 25 ≤ ((f_Terms_slot (f_Terms_kind x2 β) (β.2.2.2.2 0 (x2).toNatClampNeg) (β.2.2.2.2 1 (x2).toNatClampNeg) β)).toNatClampNeg then none else (f_Terms_grow_65 N n (x2 + 1) (kSA (kSA β 2 (upd (β.2.2.2.2 2) (x2).toNatClampNeg (β.2.2.2.2 3 ((f_Terms_slot (f_Terms_kind x2 β) (β.2.2.2.2 0 (x2).toNatClampNeg) (β.2.2.2.2 1 (x2).toNatClampNeg) β)).toNatClampNeg))) 3 (upd ((kSA β 2 (upd (β.2.2.2.2 2) (x2).toNatClampNeg (β.2.2.2.2 3 ((f_Terms_slot (f_Terms_kind x2 β) (β.2.2.2.2 0 (x2).toNatClampNeg) (β.2.2.2.2 1 (x2).toNatClampNeg) β)).toNatClampNeg))).2.2.2.2 3) ((f_Terms_slot (f_Terms_kind x2 β) (β.2.2.2.2 0 (x2).toNatClampNeg) (β.2.2.2.2 1 (x2).toNatClampNeg) β)).toNatClampNeg (x2 + 1)))))))))
def f_Terms_grow (N : Nat) (α : kS) : Option (kO × kS) := if (α.2.2.1 22 = α.2.2.1 21 ∧ α.2.2.1 23 = α.2.2.1 21 ∧ α.2.2.1 24 = α.2.2.1 21 ∧ α.2.2.1 25 = α.2.2.1 21) ∧ 2 * α.2.2.1 21 ≤ kMx 21 then (f_Terms_grow_65 N N 0 (kGrow α)) else none
set_option maxHeartbeats 4000000 in
set_option maxRecDepth 100000 in
theorem k_Terms_grow {l : Launch} {g : kG} {α : kS} (hfl : kFl l) (N : Nat) : ∀ x, f_Terms_grow N α = some x → kC l g y_Terms_grow b_Terms_grow 4 none 21 640 [.ref (kad g 2)] α (kQr x) := by
  intro x h
  unfold f_Terms_grow at h
  by_cases hc : (α.2.2.1 22 = α.2.2.1 21 ∧ α.2.2.1 23 = α.2.2.1 21 ∧ α.2.2.1 24 = α.2.2.1 21 ∧ α.2.2.1 25 = α.2.2.1 21) ∧ 2 * α.2.2.1 21 ≤ kMx 21
  case neg => rw [if_neg hc] at h; cases h
  rw [if_pos hc] at h
  obtain ⟨⟨q2, q3, q4, q5⟩, hmx⟩ := hc
  refine kc_ofW (by decide) (fun A ad0 p e s m args below meth c S hr hlocks hno hadm hargs E hI => ?_)
  have hx := S.1
  have hb := S.2.1
  have hown := S.2.2.2.1
  have hT := S.2.2.2.2
  subst hargs
  have hl := lv_entry ([.ref (kad g 2)]) (n := 4) (Nat.le_of_ble_eq_true rfl)
  rw [lg_entry_eq]
  generalize (lg_sl ([.ref (kad g 2)]) ++ List.replicate (4 - (lg_sl ([.ref (kad g 2)])).length) Slot.unset).toArray = ls at hl ⊢
  have hl : lv_has ls 4 [(0, .ref (kad g 2))] := hl
  refine lv_iconst (v := 2) hx hb d_Terms_grow_0 (by decide) ?_
  refine lv_aload_n hx hb d_Terms_grow_1 rfl (lv_at hl 0 rfl) ?_
  refine kf_Terms_infos S E hI.1 vt_96 d_Terms_grow_2 ?_
  refine kn_infos S E hI.1 d_Terms_grow_5 ?_
  refine lv_imul hx hb d_Terms_grow_6 ?_
  refine lv_topi (fun z ez => ?_)
  obtain rfl : z = nI (2 * α.2.2.1 21) := ez.trans (pk_mul 2 _)
  refine lv_istore_n (lv' := [(1, .int (nI (2 * α.2.2.1 21))), (0, .ref (kad g 2))]) hx hb d_Terms_grow_7 rfl hl (by decide) rfl (fun ls hl => ?_)
  refine lv_aload_n hx hb d_Terms_grow_8 rfl (lv_at hl 1 rfl) ?_
  refine lv_aload_n hx hb d_Terms_grow_9 rfl (lv_at hl 1 rfl) ?_
  refine kf_Terms_infos S E hI.1 vt_96 d_Terms_grow_10 ?_
  refine lv_iload_n hx hb d_Terms_grow_13 rfl (lv_at hl 0 rfl) ?_
  have e0 : nI (2 * α.2.2.1 21) = nI (2 * (α).2.2.1 21) := congrArg (fun q => nI (2 * q)) rfl
  refine lv_topi (fun z ez => ?_)
  obtain rfl : z = nI (2 * (α).2.2.1 21) := ez.trans e0
  refine kg_copy_infos (α := α) S E hI (show 2 * α.2.2.1 21 ≤ kMx 21 by omega) kw_Terms_100 hl.1 ⟨by decide, by decide⟩ d_Terms_grow_14 vt_96 d_Terms_grow_17 rfl (fun ad H locs cells slots hI => ?_)
  refine lv_aload_n hx hb d_Terms_grow_20 rfl (lv_at hl 1 rfl) ?_
  refine lv_aload_n hx hb d_Terms_grow_21 rfl (lv_at hl 1 rfl) ?_
  refine kf_Terms_lefts S E hI.1 vt_97 d_Terms_grow_22 ?_
  refine lv_iload_n hx hb d_Terms_grow_25 rfl (lv_at hl 0 rfl) ?_
  have e1 : nI (2 * α.2.2.1 21) = nI (2 * ((kG_infos α)).2.2.1 22) := congrArg (fun q => nI (2 * q)) (show α.2.2.1 21 = α.2.2.1 22 from q2.symm)
  refine lv_topi (fun z ez => ?_)
  obtain rfl : z = nI (2 * ((kG_infos α)).2.2.1 22) := ez.trans e1
  refine kg_copy_lefts (α := (kG_infos α)) S E hI (show 2 * α.2.2.1 22 ≤ kMx 21 by omega) kw_Terms_106 hl.1 ⟨by decide, by decide⟩ d_Terms_grow_26 vt_97 d_Terms_grow_29 rfl (fun ad H locs cells slots hI => ?_)
  refine lv_aload_n hx hb d_Terms_grow_32 rfl (lv_at hl 1 rfl) ?_
  refine lv_aload_n hx hb d_Terms_grow_33 rfl (lv_at hl 1 rfl) ?_
  refine kf_Terms_rights S E hI.1 vt_98 d_Terms_grow_34 ?_
  refine lv_iload_n hx hb d_Terms_grow_37 rfl (lv_at hl 0 rfl) ?_
  have e2 : nI (2 * α.2.2.1 21) = nI (2 * ((kG_lefts (kG_infos α))).2.2.1 23) := congrArg (fun q => nI (2 * q)) (show α.2.2.1 21 = α.2.2.1 23 from q3.symm)
  refine lv_topi (fun z ez => ?_)
  obtain rfl : z = nI (2 * ((kG_lefts (kG_infos α))).2.2.1 23) := ez.trans e2
  refine kg_copy_rights (α := (kG_lefts (kG_infos α))) S E hI (show 2 * α.2.2.1 23 ≤ kMx 21 by omega) kw_Terms_106 hl.1 ⟨by decide, by decide⟩ d_Terms_grow_38 vt_98 d_Terms_grow_41 rfl (fun ad H locs cells slots hI => ?_)
  refine lv_aload_n hx hb d_Terms_grow_44 rfl (lv_at hl 1 rfl) ?_
  refine lv_aload_n hx hb d_Terms_grow_45 rfl (lv_at hl 1 rfl) ?_
  refine kf_Terms_links S E hI.1 vt_99 d_Terms_grow_46 ?_
  refine lv_iload_n hx hb d_Terms_grow_49 rfl (lv_at hl 0 rfl) ?_
  have e3 : nI (2 * α.2.2.1 21) = nI (2 * ((kG_rights (kG_lefts (kG_infos α)))).2.2.1 24) := congrArg (fun q => nI (2 * q)) (show α.2.2.1 21 = α.2.2.1 24 from q4.symm)
  refine lv_topi (fun z ez => ?_)
  obtain rfl : z = nI (2 * ((kG_rights (kG_lefts (kG_infos α)))).2.2.1 24) := ez.trans e3
  refine kg_copy_links (α := (kG_rights (kG_lefts (kG_infos α)))) S E hI (show 2 * α.2.2.1 24 ≤ kMx 21 by omega) kw_Terms_106 hl.1 ⟨by decide, by decide⟩ d_Terms_grow_50 vt_99 d_Terms_grow_53 rfl (fun ad H locs cells slots hI => ?_)
  refine lv_aload_n hx hb d_Terms_grow_56 rfl (lv_at hl 1 rfl) ?_
  refine lv_iload_n hx hb d_Terms_grow_57 rfl (lv_at hl 0 rfl) ?_
  refine kg_new_heads (α := (kG_links (kG_rights (kG_lefts (kG_infos α))))) S E hI (show 2 * α.2.2.1 25 ≤ kMx 21 by omega) (show 2 * α.2.2.1 21 = 2 * α.2.2.1 25 by omega) d_Terms_grow_58 vt_100 d_Terms_grow_60 (fun ad H locs cells slots hI => ?_)
  have hI : kI g A s α ad0 (kGrow α) ad H locs cells slots := hI
  refine lv_iconst (v := 0) hx hb d_Terms_grow_63 (by decide) ?_
  refine lv_istore_n (lv' := [(2, .int 0), (1, .int (nI (2 * α.2.2.1 21))), (0, .ref (kad g 2))]) hx hb d_Terms_grow_64 rfl hl (by decide) rfl (fun ls hl => ?_)
  have L65 : ∀ (n65 : Nat) (x2 : Int32) (β : kS) (ad : Nat → Nat) (H : Heap) (locs : List Loc) (cells slots : Nat) (ls : Array Slot), f_Terms_grow_65 N n65 x2 β = some x → kI g A s α ad0 β ad H locs cells slots → lv_has ls 4 [(2, .int x2), (0, .ref (kad g 2))] → W p l e (kR 21 640 α) s m ([.ref (kad g 2)]).toArray below meth c H locs cells slots (vEQ below (kQ g A α ad0 (kQr x)) ([.ref (kad g 2)]).toArray s A) (F0 m 65 ls []) := by
    intro n65
    induction n65 with
    | zero => intro x2 β ad H locs cells slots ls h hI hl; rw [f_Terms_grow_65] at h; cases h
    | succ n65 ih65 =>
      intro x2 β ad H locs cells slots ls h hI hl
      rw [f_Terms_grow_65] at h
      refine lv_iload_n hx hb d_Terms_grow_65 rfl (lv_at hl 0 rfl) ?_
      refine lv_aload_n hx hb d_Terms_grow_66 rfl (lv_at hl 1 rfl) ?_
      refine kf_Terms_length S E hI.1 vt_324 d_Terms_grow_67 ?_
      refine lv_icmp_ge (tgt := 122) hx hb d_Terms_grow_70 (by decide) (fun c1 => ?_) (fun c1 => ?_)
      · replace h := Eq.trans (if_pos c1).symm h
        exact kc_vret hx hb hr hlocks E hI h d_Terms_grow_122
      · replace h := Eq.trans (if_neg c1).symm h
        refine lv_aload_n hx hb d_Terms_grow_73 rfl (lv_at hl 1 rfl) ?_
        refine lv_aload_n hx hb d_Terms_grow_74 rfl (lv_at hl 1 rfl) ?_
        refine lv_iload_n hx hb d_Terms_grow_75 rfl (lv_at hl 0 rfl) ?_
        refine kg_p (As := [.int x2]) (rest := [.ref (kad g 2)]) (k_Terms_kind (l := l) (g := g) (α := β) x2) S E hI.1 kw_Terms_52 ⟨Nat.le_of_ble_eq_true rfl, Nat.le_of_ble_eq_true rfl⟩ hI.room (kv_Terms E hI.1) rfl hl.1 rfl (Nat.le_of_ble_eq_true rfl) d_Terms_grow_76 rfl ?_
        refine lv_aload_n hx hb d_Terms_grow_79 rfl (lv_at hl 1 rfl) ?_
        refine kf_Terms_lefts S E hI.1 vt_97 d_Terms_grow_80 ?_
        refine lv_iload_n hx hb d_Terms_grow_83 rfl (lv_at hl 0 rfl) ?_
        by_cases c2 : x2 < 0 ∨ β.2.2.1 22 ≤ (x2).toNatClampNeg
        · replace h := Eq.trans (if_pos c2).symm h
          cases h
        · replace h := Eq.trans (if_neg c2).symm h
          refine kl_lefts S E hI.1 c2 d_Terms_grow_84 ?_
          refine lv_aload_n hx hb d_Terms_grow_85 rfl (lv_at hl 1 rfl) ?_
          refine kf_Terms_rights S E hI.1 vt_98 d_Terms_grow_86 ?_
          refine lv_iload_n hx hb d_Terms_grow_89 rfl (lv_at hl 0 rfl) ?_
          by_cases c3 : x2 < 0 ∨ β.2.2.1 23 ≤ (x2).toNatClampNeg
          · replace h := Eq.trans (if_pos c3).symm h
            cases h
          · replace h := Eq.trans (if_neg c3).symm h
            refine kl_rights S E hI.1 c3 d_Terms_grow_90 ?_
            refine kg_p (As := [.int (f_Terms_kind x2 β), .int (β.2.2.2.2 0 (x2).toNatClampNeg), .int (β.2.2.2.2 1 (x2).toNatClampNeg)]) (rest := []) (k_Terms_slot (l := l) (g := g) (α := β) (f_Terms_kind x2 β) (β.2.2.2.2 0 (x2).toNatClampNeg) (β.2.2.2.2 1 (x2).toNatClampNeg)) S E hI.1 kw_Terms_62 ⟨Nat.le_of_ble_eq_true rfl, Nat.le_of_ble_eq_true rfl⟩ hI.room (kv_Terms E hI.1) rfl hl.1 rfl (Nat.le_of_ble_eq_true rfl) d_Terms_grow_91 rfl ?_
            refine lv_istore_n (lv' := [(3, .int (f_Terms_slot (f_Terms_kind x2 β) (β.2.2.2.2 0 (x2).toNatClampNeg) (β.2.2.2.2 1 (x2).toNatClampNeg) β)), (2, .int x2), (0, .ref (kad g 2))]) hx hb d_Terms_grow_94 rfl hl (by decide) rfl (fun ls hl => ?_)
            refine lv_aload_n hx hb d_Terms_grow_95 rfl (lv_at hl 2 rfl) ?_
            refine kf_Terms_links S E hI.1 vt_99 d_Terms_grow_96 ?_
            refine lv_iload_n hx hb d_Terms_grow_99 rfl (lv_at hl 1 rfl) ?_
            refine lv_aload_n hx hb d_Terms_grow_100 rfl (lv_at hl 2 rfl) ?_
            refine kf_Terms_heads S E hI.1 vt_100 d_Terms_grow_101 ?_
            refine lv_iload_n hx hb d_Terms_grow_104 rfl (lv_at hl 0 rfl) ?_
            by_cases c4 : (f_Terms_slot (f_Terms_kind x2 β) (β.2.2.2.2 0 (x2).toNatClampNeg) (β.2.2.2.2 1 (x2).toNatClampNeg) β) < 0 ∨ β.2.2.1 25 ≤ ((f_Terms_slot (f_Terms_kind x2 β) (β.2.2.2.2 0 (x2).toNatClampNeg) (β.2.2.2.2 1 (x2).toNatClampNeg) β)).toNatClampNeg
            · replace h := Eq.trans (if_pos c4).symm h
              cases h
            · replace h := Eq.trans (if_neg c4).symm h
              refine kl_heads S E hI.1 c4 d_Terms_grow_105 ?_
              by_cases c5 : x2 < 0 ∨ β.2.2.1 24 ≤ (x2).toNatClampNeg
              · replace h := Eq.trans (if_pos c5).symm h
                cases h
              · replace h := Eq.trans (if_neg c5).symm h
                refine ks_links S E hI c5 d_Terms_grow_106 (fun H locs hI => ?_)
                refine lv_aload_n hx hb d_Terms_grow_107 rfl (lv_at hl 2 rfl) ?_
                refine kf_Terms_heads S E hI.1 vt_100 d_Terms_grow_108 ?_
                refine lv_iload_n hx hb d_Terms_grow_111 rfl (lv_at hl 0 rfl) ?_
                refine lv_iload_n hx hb d_Terms_grow_112 rfl (lv_at hl 1 rfl) ?_
                refine lv_iconst (v := 1) hx hb d_Terms_grow_113 (by decide) ?_
                refine lv_iadd hx hb d_Terms_grow_114 ?_
                by_cases c6 : (f_Terms_slot (f_Terms_kind x2 β) (β.2.2.2.2 0 (x2).toNatClampNeg) (β.2.2.2.2 1 (x2).toNatClampNeg) β) < 0 ∨ (kSA β 2 (upd (β.2.2.2.2 2) (x2).toNatClampNeg (β.2.2.2.2 3 ((f_Terms_slot (f_Terms_kind x2 β) (β.2.2.2.2 0 (x2).toNatClampNeg) (β.2.2.2.2 1 (x2).toNatClampNeg) β)).toNatClampNeg))).2.2.1 25 ≤ ((f_Terms_slot (f_Terms_kind x2 β) (β.2.2.2.2 0 (x2).toNatClampNeg) (β.2.2.2.2 1 (x2).toNatClampNeg) β)).toNatClampNeg
                · replace h := Eq.trans (if_pos c6).symm h
                  cases h
                · replace h := Eq.trans (if_neg c6).symm h
                  refine ks_heads S E hI c6 d_Terms_grow_115 (fun H locs hI => ?_)
                  refine lv_iinc (v := (x2 + 1)) (lv' := [(2, .int (x2 + 1)), (3, .int (f_Terms_slot (f_Terms_kind x2 β) (β.2.2.2.2 0 (x2).toNatClampNeg) (β.2.2.2.2 1 (x2).toNatClampNeg) β)), (0, .ref (kad g 2))]) hx hb d_Terms_grow_116 hl (k := 1) rfl rfl (by decide) rfl (fun ls hl => ?_)
                  refine lv_goto (tgt := 65) hx hb d_Terms_grow_119 (by decide) ?_
                  exact ih65 (x2 + 1) _ _ _ _ _ _ _ h hI (lv_sub hl [0, 2] rfl)
  exact L65 N 0 _ _ _ _ _ _ _ h hI (lv_sub hl [0, 2] rfl)
