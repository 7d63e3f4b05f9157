theorem vl_15 (x : Int32) : ∃ j : Nat, j < 16 ∧ x &&& 15 = nI j := pk_andE x (m := 15) 4 (by decide)
theorem vl_lt {L : Nat} (hL : L < 6) : (Int32.ofNat L : Int32) - 6 < 0 := by
  rcases (show L = 0 ∨ L = 1 ∨ L = 2 ∨ L = 3 ∨ L = 4 ∨ L = 5 by omega) with rfl | rfl | rfl | rfl | rfl | rfl <;> decide
set_option maxHeartbeats 4000000 in
set_option maxRecDepth 100000 in
/-- THE LAW, from its entry -/
theorem whole_start {p : Program} {e : Env} {s : State} {m : MethodId} {below : List Frame} {meth : Method} {c : Code} (l : Launch) (hfl : l.flags = flags0) {b L : Nat} {xs : Nat → Int32} (hL : L ≤ 6) (C0 : lw_At p s m meth c b L xs) : W p l e room_1 s m #[Value.ref b] below meth c s.heap [] 0 0 (lw_Z below #[Value.ref b] s) (entryFrame m ([Value.ref b] : List Value).toArray 7) := by
  obtain ⟨hx, hb, hr, hml, hown, hts, hX0, hbl, hlocks, hgv⟩ := id C0
  have hT : ∀ w ∈ vT, w.before _ s = true := fun w h => hts w (vT_in w h)
  obtain ⟨A, hAe⟩ : ∃ A : Nat → Prop, A = fun q : Nat => s.heap.size ≤ q := ⟨_, rfl⟩
  have hA : ∀ q : Nat, s.heap.size ≤ q → A q := fun q h => by rw [hAe]; exact h
  have hAn : ∀ q : Nat, q < s.heap.size → ¬ A q := fun q h => by rw [hAe]; exact Nat.not_le.mpr h
  have hbA : ¬ A b := hAn b hbl
  have hNw : va_Nw (.methodLinkNest "FamilyKernel" 24 ⟨"FamilyKernel$Meter", "<init>", "()V"⟩ "FamilyKernel") s := va_Nw.of rfl (hts _ (List.mem_append_right _ (List.mem_of_getElem? (i := 57) rfl)))
  obtain ⟨c0, iS0, hKn0⟩ := u_known (C := R_Row) (T := T_Row) (N := 3) (n := 3) hT in_Row (hT (.instantiable R_Row 3) vt_10)
  obtain ⟨c1, iS1, hKn1⟩ := u_known (C := R_Meter) (T := T_Meter) (N := 4) (n := 4) hT in_Meter (hT (.instantiable R_Meter 4) vt_100)
  obtain ⟨c2, iS2, hKn2⟩ := u_known (C := R_Terms) (T := T_Terms) (N := 10) (n := 10) hT in_Terms (hT (.instantiable R_Terms 10) vt_106)
  obtain ⟨c3, iS3, hKn3⟩ := u_known (C := R_Env) (T := T_Env) (N := 3) (n := 3) hT in_Env (hT (.instantiable R_Env 3) vt_113)
  obtain ⟨c4, iS4, hKn4⟩ := u_known (C := R_Lex) (T := T_Lex) (N := 7) (n := 7) hT in_Lex (hT (.instantiable R_Lex 7) vt_120)
  obtain ⟨c5, iS5, hKn5⟩ := u_known (C := R_Par) (T := T_Par) (N := 20) (n := 20) hT in_Par (hT (.instantiable R_Par 20) vt_127)
  obtain ⟨c6, iS6, hKn6⟩ := u_known (C := R_Fra) (T := T_Fra) (N := 3) (n := 3) hT in_Fra (hT (.instantiable R_Fra 3) vt_134)
  obtain ⟨c7, iS7, hKn7⟩ := u_known (C := R_Red) (T := T_Red) (N := 5) (n := 5) hT in_Red (hT (.instantiable R_Red 5) vt_141)
  obtain ⟨c8, iS8, hKn8⟩ := u_known (C := R_Typ) (T := T_Typ) (N := 4) (n := 4) hT in_Typ (hT (.instantiable R_Typ 4) vt_148)
  obtain ⟨c9, iS9, hKn9⟩ := u_known (C := R_Fam) (T := T_Fam) (N := 18) (n := 18) hT in_Fam (hT (.instantiable R_Fam 18) vt_155)
  obtain ⟨c10, iS10, hKn10⟩ := u_known (C := R_Pri) (T := T_Pri) (N := 4) (n := 4) hT in_Pri (hT (.instantiable R_Pri 4) vt_162)
  obtain ⟨c11, iS11, hKn11⟩ := u_known (C := R_Ker) (T := T_Ker) (N := 14) (n := 14) hT in_Ker (hT (.instantiable R_Ker 14) vt_473)
  obtain ⟨c12, iS12, hKn12⟩ := u_known (C := R_Mod) (T := T_Mod) (N := 76) (n := 76) hT in_Mod (hT (.instantiable R_Mod 76) vt_474)
  obtain ⟨dC, dI, hKc⟩ : ∃ (dC : Nat → ClassId) (dI : Nat → Nat → Nat), ∀ (k : Nat) (q : vw_C), classes[k]? = some q → u_Kn s q.1 q.2.1 q.2.2 (dC k) (dI k) := by
    refine ⟨fun k => match k with | 0 => c0 | 1 => c1 | 2 => c2 | 3 => c3 | 4 => c4 | 5 => c5 | 6 => c6 | 7 => c7 | 8 => c8 | 9 => c9 | 10 => c10 | 11 => c11 | _ => c12, fun k => match k with | 0 => iS0 | 1 => iS1 | 2 => iS2 | 3 => iS3 | 4 => iS4 | 5 => iS5 | 6 => iS6 | 7 => iS7 | 8 => iS8 | 9 => iS9 | 10 => iS10 | 11 => iS11 | _ => iS12, ?_⟩
    intro k q hq
    match k, hq with
    | 0, hq => cases hq; exact hKn0
    | 1, hq => cases hq; exact hKn1
    | 2, hq => cases hq; exact hKn2
    | 3, hq => cases hq; exact hKn3
    | 4, hq => cases hq; exact hKn4
    | 5, hq => cases hq; exact hKn5
    | 6, hq => cases hq; exact hKn6
    | 7, hq => cases hq; exact hKn7
    | 8, hq => cases hq; exact hKn8
    | 9, hq => cases hq; exact hKn9
    | 10, hq => cases hq; exact hKn10
    | 11, hq => cases hq; exact hKn11
    | 12, hq => cases hq; exact hKn12
    | k + 13, hq => simp [classes] at hq
  have hS : va_S A s.heap s.heap [] := va_S.rf
  have hK : va_K (dC, dI) classes [] s := ⟨hKc, fun k q h => by simp at h⟩
  have hP : va_P (dC, dI) classes [] s.heap := va_P_nil
  have hD : va_D A [] := va_D_nil
  clear hKc
  have hl := lv_entry ([.ref b]) (n := 7) (Nat.le_of_ble_eq_true rfl)
  rw [lg_entry_eq]
  generalize (lg_sl ([.ref b]) ++ List.replicate (7 - (lg_sl ([.ref b])).length) Slot.unset).toArray = ls at hl ⊢
  have hl : lv_has ls 7 [(0, .ref b)] := hl
  refine va_new (ci := 11) (fs := [.null, .null, .null, .null, .null, .null, .null, .null, .null, .null, .null, .null, .int 0, .int 0]) (C := R_Ker) (T := T_Ker) (N := 14) hx hb hT in_Ker ty_Ker tyo_Ker hown (hT _ vt_475) (hT _ vt_473) (hT _ vt_318) hK hP hD hS hA rfl df_Ker (Nat.le_of_ble_eq_true rfl) (Nat.le_of_ble_eq_true rfl) d_Law_law_0 (fun q_1 H hP hD hS => ?_)
  have hP : va_P (dC, dI) classes [(q_1, .inr (11, [.null, .null, .null, .null, .null, .null, .null, .null, .null, .null, .null, .null, .int 0, .int 0]))] H := hP
  have hD : va_D A [(q_1, .inr (11, [.null, .null, .null, .null, .null, .null, .null, .null, .null, .null, .null, .null, .int 0, .int 0]))] := hD
  refine W.widen (k := 1) (n := 14) (Nat.le_of_ble_eq_true rfl) (Nat.le_of_ble_eq_true rfl) ?_
  refine lv_dup hx hb d_Law_law_3 rfl ?_
  have hPc := hP.sub (ws' := [(q_1, .inr (11, [.null, .null, .null, .null, .null, .null, .null, .null, .null, .null, .null, .null, .int 0, .int 0]))]) [0] rfl
  have hDc := hD.sub (ws' := [(q_1, .inr (11, [.null, .null, .null, .null, .null, .null, .null, .null, .null, .null, .null, .null, .int 0, .int 0]))]) [0] (by decide) rfl
  have hKc := hK.sub (tys' := []) [] rfl
  have hFc := va_free (wc := [(q_1, .inr (11, [.null, .null, .null, .null, .null, .null, .null, .null, .null, .null, .null, .null, .int 0, .int 0]))]) hD hS hA [0] rfl
  refine va_callv (va_runI (As := []) (rest := [.ref q_1]) ⟨hx, hb, hml, hown, hT⟩ (c_Ker_init l dC dI H.size q_1) (cwI 0 hT (gI vt_476) rfl rfl rfl (hT _ vt_318) (hT _ vt_477) (hT _ vt_478) rfl (by decide +kernel) ⟨Nat.le_of_ble_eq_true rfl, Nat.le_of_ble_eq_true rfl⟩) ⟨PwN_blind rfl, fun U hU hW => ⟨Pw_of hPc hKc hDc U hU hW, va_Nw.warmM hW hNw⟩⟩ rfl rfl hl.1 rfl (lv_room (Nat.le_of_ble_eq_true rfl)) d_Law_law_4 ⟨Nat.le_of_ble_eq_true rfl, Nat.le_of_ble_eq_true rfl⟩) hS (fun q _ h => hFc q h) hFc (fun u t H1 locs ht hvm hw hB hz1 hk1 hS => ?_)
  obtain ⟨tp, ta, sh, sa, me, te, t1, t2, t3, t4, t5, t6, t7, t8, en, fc, fa, nn, lx, tk, ka, pa, fr, re, ty, fm, pr, cT, cK, hP1, hK1, hD1⟩ := hB
  rw [ht] at hP1
  have hK1 := va_K.moved hvm.symm hK1
  obtain ⟨hP, hD⟩ := va_join (wr := []) (w1 := [(q_1, .inr (11, [.ref tp, .ref sh, .ref me, .ref te, .ref en, .ref lx, .ref pa, .ref fr, .ref re, .ref ty, .ref fm, .ref pr, .int 0, .int 0])), (tp, .inr (0, [.int 65536, .ref ta, .int 0])), (ta, .inl (cT, 256, .inl (fun _ => 0))), (sh, .inr (0, [.int 65536, .ref sa, .int 0])), (me, .inr (1, [.int 0, .int 0, .int 0, .int 0])), (te, .inr (2, [.ref me, .ref t1, .ref t2, .ref t3, .ref t4, .ref t5, .ref t6, .ref t7, .ref t8, .int 0])), (en, .inr (3, [.ref fc, .ref nn, .int 0])), (fc, .inr (0, [.int 16777216, .ref fa, .int 0])), (lx, .inr (4, [.ref tp, .ref tk, .int 0, .int 0, .int 0, .int 0, .int 0])), (tk, .inr (0, [.int 16777216, .ref ka, .int 0])), (ka, .inl (cK, 64, .inl (fun _ => 0)))]) hP hD [0] [] rfl rfl (by decide) (by decide) hk1 hFc hP1 hD1
  have hK := hK.app hK1
  have hK : va_K (dC, dI) classes [(cT, .int), (cK, .int)] s := hK
  generalize H1 = H at hP hS ⊢
  have hP : va_P (dC, dI) classes [(q_1, .inr (11, [.ref tp, .ref sh, .ref me, .ref te, .ref en, .ref lx, .ref pa, .ref fr, .ref re, .ref ty, .ref fm, .ref pr, .int 0, .int 0])), (tp, .inr (0, [.int 65536, .ref ta, .int 0])), (ta, .inl (cT, 256, .inl (fun _ => 0))), (sh, .inr (0, [.int 65536, .ref sa, .int 0])), (me, .inr (1, [.int 0, .int 0, .int 0, .int 0])), (te, .inr (2, [.ref me, .ref t1, .ref t2, .ref t3, .ref t4, .ref t5, .ref t6, .ref t7, .ref t8, .int 0])), (en, .inr (3, [.ref fc, .ref nn, .int 0])), (fc, .inr (0, [.int 16777216, .ref fa, .int 0])), (lx, .inr (4, [.ref tp, .ref tk, .int 0, .int 0, .int 0, .int 0, .int 0])), (tk, .inr (0, [.int 16777216, .ref ka, .int 0])), (ka, .inl (cK, 64, .inl (fun _ => 0)))] H := hP
  have hD : va_D A [(q_1, .inr (11, [.ref tp, .ref sh, .ref me, .ref te, .ref en, .ref lx, .ref pa, .ref fr, .ref re, .ref ty, .ref fm, .ref pr, .int 0, .int 0])), (tp, .inr (0, [.int 65536, .ref ta, .int 0])), (ta, .inl (cT, 256, .inl (fun _ => 0))), (sh, .inr (0, [.int 65536, .ref sa, .int 0])), (me, .inr (1, [.int 0, .int 0, .int 0, .int 0])), (te, .inr (2, [.ref me, .ref t1, .ref t2, .ref t3, .ref t4, .ref t5, .ref t6, .ref t7, .ref t8, .int 0])), (en, .inr (3, [.ref fc, .ref nn, .int 0])), (fc, .inr (0, [.int 16777216, .ref fa, .int 0])), (lx, .inr (4, [.ref tp, .ref tk, .int 0, .int 0, .int 0, .int 0, .int 0])), (tk, .inr (0, [.int 16777216, .ref ka, .int 0])), (ka, .inl (cK, 64, .inl (fun _ => 0)))] := hD
  refine W.widen (k := 58) (n := 2907) (Nat.le_of_ble_eq_true rfl) (Nat.le_of_ble_eq_true rfl) ?_
  refine lv_astore_n (lv' := [(1, .ref q_1), (0, .ref b)]) hx hb d_Law_law_7 rfl hl (by decide) rfl (fun ls hl => ?_)
  refine va_new (ci := 12) (fs := [.null, .null, .int 0, .int 0, .int 0, .int 0, .int 0, .int 0, .int 0, .int 0, .int 0, .int 0, .null, .null, .null, .null, .null, .null, .int 0, .null, .int 0, .int 0, .int 0, .int 0, .null, .null, .null, .int 0, .int 0, .null, .null, .null, .null, .null, .null, .null, .null, .null, .null, .null, .null, .null, .int 0, .int 0, .null, .null, .int 0, .null, .null, .null, .null, .null, .int 0, .int 0, .int 0, .int 0, .null, .int 0, .int 0, .int 0, .int 0, .int 0, .null, .null, .null, .null, .null, .null, .null, .null, .int 0, .null, .int 0, .null, .null, .int 0]) (C := R_Mod) (T := T_Mod) (N := 76) hx hb hT in_Mod ty_Mod tyo_Mod hown (hT _ vt_479) (hT _ vt_474) (hT _ vt_352) hK hP hD hS hA rfl df_Mod (Nat.le_of_ble_eq_true rfl) (Nat.le_of_ble_eq_true rfl) d_Law_law_8 (fun q_3 H hP hD hS => ?_)
  have hP : va_P (dC, dI) classes [(q_1, .inr (11, [.ref tp, .ref sh, .ref me, .ref te, .ref en, .ref lx, .ref pa, .ref fr, .ref re, .ref ty, .ref fm, .ref pr, .int 0, .int 0])), (tp, .inr (0, [.int 65536, .ref ta, .int 0])), (ta, .inl (cT, 256, .inl (fun _ => 0))), (sh, .inr (0, [.int 65536, .ref sa, .int 0])), (me, .inr (1, [.int 0, .int 0, .int 0, .int 0])), (te, .inr (2, [.ref me, .ref t1, .ref t2, .ref t3, .ref t4, .ref t5, .ref t6, .ref t7, .ref t8, .int 0])), (en, .inr (3, [.ref fc, .ref nn, .int 0])), (fc, .inr (0, [.int 16777216, .ref fa, .int 0])), (lx, .inr (4, [.ref tp, .ref tk, .int 0, .int 0, .int 0, .int 0, .int 0])), (tk, .inr (0, [.int 16777216, .ref ka, .int 0])), (ka, .inl (cK, 64, .inl (fun _ => 0))), (q_3, .inr (12, [.null, .null, .int 0, .int 0, .int 0, .int 0, .int 0, .int 0, .int 0, .int 0, .int 0, .int 0, .null, .null, .null, .null, .null, .null, .int 0, .null, .int 0, .int 0, .int 0, .int 0, .null, .null, .null, .int 0, .int 0, .null, .null, .null, .null, .null, .null, .null, .null, .null, .null, .null, .null, .null, .int 0, .int 0, .null, .null, .int 0, .null, .null, .null, .null, .null, .int 0, .int 0, .int 0, .int 0, .null, .int 0, .int 0, .int 0, .int 0, .int 0, .null, .null, .null, .null, .null, .null, .null, .null, .int 0, .null, .int 0, .null, .null, .int 0]))] H := hP
  have hD : va_D A [(q_1, .inr (11, [.ref tp, .ref sh, .ref me, .ref te, .ref en, .ref lx, .ref pa, .ref fr, .ref re, .ref ty, .ref fm, .ref pr, .int 0, .int 0])), (tp, .inr (0, [.int 65536, .ref ta, .int 0])), (ta, .inl (cT, 256, .inl (fun _ => 0))), (sh, .inr (0, [.int 65536, .ref sa, .int 0])), (me, .inr (1, [.int 0, .int 0, .int 0, .int 0])), (te, .inr (2, [.ref me, .ref t1, .ref t2, .ref t3, .ref t4, .ref t5, .ref t6, .ref t7, .ref t8, .int 0])), (en, .inr (3, [.ref fc, .ref nn, .int 0])), (fc, .inr (0, [.int 16777216, .ref fa, .int 0])), (lx, .inr (4, [.ref tp, .ref tk, .int 0, .int 0, .int 0, .int 0, .int 0])), (tk, .inr (0, [.int 16777216, .ref ka, .int 0])), (ka, .inl (cK, 64, .inl (fun _ => 0))), (q_3, .inr (12, [.null, .null, .int 0, .int 0, .int 0, .int 0, .int 0, .int 0, .int 0, .int 0, .int 0, .int 0, .null, .null, .null, .null, .null, .null, .int 0, .null, .int 0, .int 0, .int 0, .int 0, .null, .null, .null, .int 0, .int 0, .null, .null, .null, .null, .null, .null, .null, .null, .null, .null, .null, .null, .null, .int 0, .int 0, .null, .null, .int 0, .null, .null, .null, .null, .null, .int 0, .int 0, .int 0, .int 0, .null, .int 0, .int 0, .int 0, .int 0, .int 0, .null, .null, .null, .null, .null, .null, .null, .null, .int 0, .null, .int 0, .null, .null, .int 0]))] := hD
  refine W.widen (k := 59) (n := 2983) (Nat.le_of_ble_eq_true rfl) (Nat.le_of_ble_eq_true rfl) ?_
  refine lv_dup hx hb d_Law_law_11 rfl ?_
  have hPc := hP.sub (ws' := [(q_3, .inr (12, [.null, .null, .int 0, .int 0, .int 0, .int 0, .int 0, .int 0, .int 0, .int 0, .int 0, .int 0, .null, .null, .null, .null, .null, .null, .int 0, .null, .int 0, .int 0, .int 0, .int 0, .null, .null, .null, .int 0, .int 0, .null, .null, .null, .null, .null, .null, .null, .null, .null, .null, .null, .null, .null, .int 0, .int 0, .null, .null, .int 0, .null, .null, .null, .null, .null, .int 0, .int 0, .int 0, .int 0, .null, .int 0, .int 0, .int 0, .int 0, .int 0, .null, .null, .null, .null, .null, .null, .null, .null, .int 0, .null, .int 0, .null, .null, .int 0]))]) [11] rfl
  have hDc := hD.sub (ws' := [(q_3, .inr (12, [.null, .null, .int 0, .int 0, .int 0, .int 0, .int 0, .int 0, .int 0, .int 0, .int 0, .int 0, .null, .null, .null, .null, .null, .null, .int 0, .null, .int 0, .int 0, .int 0, .int 0, .null, .null, .null, .int 0, .int 0, .null, .null, .null, .null, .null, .null, .null, .null, .null, .null, .null, .null, .null, .int 0, .int 0, .null, .null, .int 0, .null, .null, .null, .null, .null, .int 0, .int 0, .int 0, .int 0, .null, .int 0, .int 0, .int 0, .int 0, .int 0, .null, .null, .null, .null, .null, .null, .null, .null, .int 0, .null, .int 0, .null, .null, .int 0]))]) [11] (by decide) rfl
  have hKc := hK.sub (tys' := []) [] rfl
  have hFc := va_free (wc := [(q_3, .inr (12, [.null, .null, .int 0, .int 0, .int 0, .int 0, .int 0, .int 0, .int 0, .int 0, .int 0, .int 0, .null, .null, .null, .null, .null, .null, .int 0, .null, .int 0, .int 0, .int 0, .int 0, .null, .null, .null, .int 0, .int 0, .null, .null, .null, .null, .null, .null, .null, .null, .null, .null, .null, .null, .null, .int 0, .int 0, .null, .null, .int 0, .null, .null, .null, .null, .null, .int 0, .int 0, .int 0, .int 0, .null, .int 0, .int 0, .int 0, .int 0, .int 0, .null, .null, .null, .null, .null, .null, .null, .null, .int 0, .null, .int 0, .null, .null, .int 0]))]) hD hS hA [11] rfl
  refine va_callv (va_runI (As := []) (rest := [.ref q_3]) ⟨hx, hb, hml, hown, hT⟩ (c_Mod_init l dC dI H.size q_3 _ Mz.start) (cwI 0 hT (gI vt_480) rfl rfl rfl (hT _ vt_352) (hT _ vt_481) (hT _ vt_482) rfl (by decide +kernel) ⟨Nat.le_of_ble_eq_true rfl, Nat.le_of_ble_eq_true rfl⟩) ⟨Pw_blind, Pw_of hPc hKc hDc⟩ rfl rfl hl.1 rfl (lv_room (Nat.le_of_ble_eq_true rfl)) d_Law_law_12 ⟨Nat.le_of_ble_eq_true rfl, Nat.le_of_ble_eq_true rfl⟩) hS (fun q _ h => hFc q h) hFc (fun u t H1 locs ht hvm hw hB hz1 hk1 hS => ?_)
  obtain ⟨fs, mt, cB, hP1, hK1, hD1, hz, htp⟩ := hB
  rw [ht] at hP1
  have hK1 := va_K.moved hvm.symm hK1
  obtain ⟨hP, hD⟩ := va_join (wr := [(q_1, .inr (11, [.ref tp, .ref sh, .ref me, .ref te, .ref en, .ref lx, .ref pa, .ref fr, .ref re, .ref ty, .ref fm, .ref pr, .int 0, .int 0])), (tp, .inr (0, [.int 65536, .ref ta, .int 0])), (ta, .inl (cT, 256, .inl (fun _ => 0))), (sh, .inr (0, [.int 65536, .ref sa, .int 0])), (me, .inr (1, [.int 0, .int 0, .int 0, .int 0])), (te, .inr (2, [.ref me, .ref t1, .ref t2, .ref t3, .ref t4, .ref t5, .ref t6, .ref t7, .ref t8, .int 0])), (en, .inr (3, [.ref fc, .ref nn, .int 0])), (fc, .inr (0, [.int 16777216, .ref fa, .int 0])), (lx, .inr (4, [.ref tp, .ref tk, .int 0, .int 0, .int 0, .int 0, .int 0])), (tk, .inr (0, [.int 16777216, .ref ka, .int 0])), (ka, .inl (cK, 64, .inl (fun _ => 0)))]) (w1 := [(q_3, .inr (12, fs)), (mt, .inl (cB, 65536, .inl (fun _ => 0)))]) hP hD [11] [0, 1, 2, 3, 4, 5, 6, 7, 8, 9, 10] rfl rfl (by decide) (by decide) hk1 hFc hP1 hD1
  have hK := hK.app hK1
  have hK : va_K (dC, dI) classes [(cT, .int), (cK, .int), (cB, .byte)] s := hK
  generalize H1 = H at hP hS ⊢
  have hP : va_P (dC, dI) classes [(q_1, .inr (11, [.ref tp, .ref sh, .ref me, .ref te, .ref en, .ref lx, .ref pa, .ref fr, .ref re, .ref ty, .ref fm, .ref pr, .int 0, .int 0])), (tp, .inr (0, [.int 65536, .ref ta, .int 0])), (ta, .inl (cT, 256, .inl (fun _ => 0))), (sh, .inr (0, [.int 65536, .ref sa, .int 0])), (me, .inr (1, [.int 0, .int 0, .int 0, .int 0])), (te, .inr (2, [.ref me, .ref t1, .ref t2, .ref t3, .ref t4, .ref t5, .ref t6, .ref t7, .ref t8, .int 0])), (en, .inr (3, [.ref fc, .ref nn, .int 0])), (fc, .inr (0, [.int 16777216, .ref fa, .int 0])), (lx, .inr (4, [.ref tp, .ref tk, .int 0, .int 0, .int 0, .int 0, .int 0])), (tk, .inr (0, [.int 16777216, .ref ka, .int 0])), (ka, .inl (cK, 64, .inl (fun _ => 0))), (q_3, .inr (12, fs)), (mt, .inl (cB, 65536, .inl (fun _ => 0)))] H := hP
  have hD : va_D A [(q_1, .inr (11, [.ref tp, .ref sh, .ref me, .ref te, .ref en, .ref lx, .ref pa, .ref fr, .ref re, .ref ty, .ref fm, .ref pr, .int 0, .int 0])), (tp, .inr (0, [.int 65536, .ref ta, .int 0])), (ta, .inl (cT, 256, .inl (fun _ => 0))), (sh, .inr (0, [.int 65536, .ref sa, .int 0])), (me, .inr (1, [.int 0, .int 0, .int 0, .int 0])), (te, .inr (2, [.ref me, .ref t1, .ref t2, .ref t3, .ref t4, .ref t5, .ref t6, .ref t7, .ref t8, .int 0])), (en, .inr (3, [.ref fc, .ref nn, .int 0])), (fc, .inr (0, [.int 16777216, .ref fa, .int 0])), (lx, .inr (4, [.ref tp, .ref tk, .int 0, .int 0, .int 0, .int 0, .int 0])), (tk, .inr (0, [.int 16777216, .ref ka, .int 0])), (ka, .inl (cK, 64, .inl (fun _ => 0))), (q_3, .inr (12, fs)), (mt, .inl (cB, 65536, .inl (fun _ => 0)))] := hD
  refine W.widen (k := 103) (n := 2672976) (Nat.le_of_ble_eq_true rfl) (Nat.le_of_ble_eq_true rfl) ?_
  refine lv_astore_n (lv' := [(2, .ref q_3), (1, .ref q_1), (0, .ref b)]) hx hb d_Law_law_15 rfl hl (by decide) rfl (fun ls hl => ?_)
  refine lv_iconst (v := 1) hx hb d_Law_law_16 (by decide) ?_
  refine va_newa (atype := .long) (ty := .long) (a0 := (1, .inr (.inl (fun _ => 0)))) hx hb (hT _ vt_32) rfl hK hP hD hS hA (fun _ => rfl) (by decide) (by decide) (by decide) (Nat.le_of_ble_eq_true rfl) (Nat.le_of_ble_eq_true rfl) d_Law_law_17 (fun q_5 cA_6 H hK hP hD hS => ?_)
  have hK : va_K (dC, dI) classes [(cT, .int), (cK, .int), (cB, .byte), (cA_6, .long)] s := hK
  have hP : va_P (dC, dI) classes [(q_1, .inr (11, [.ref tp, .ref sh, .ref me, .ref te, .ref en, .ref lx, .ref pa, .ref fr, .ref re, .ref ty, .ref fm, .ref pr, .int 0, .int 0])), (tp, .inr (0, [.int 65536, .ref ta, .int 0])), (ta, .inl (cT, 256, .inl (fun _ => 0))), (sh, .inr (0, [.int 65536, .ref sa, .int 0])), (me, .inr (1, [.int 0, .int 0, .int 0, .int 0])), (te, .inr (2, [.ref me, .ref t1, .ref t2, .ref t3, .ref t4, .ref t5, .ref t6, .ref t7, .ref t8, .int 0])), (en, .inr (3, [.ref fc, .ref nn, .int 0])), (fc, .inr (0, [.int 16777216, .ref fa, .int 0])), (lx, .inr (4, [.ref tp, .ref tk, .int 0, .int 0, .int 0, .int 0, .int 0])), (tk, .inr (0, [.int 16777216, .ref ka, .int 0])), (ka, .inl (cK, 64, .inl (fun _ => 0))), (q_3, .inr (12, fs)), (mt, .inl (cB, 65536, .inl (fun _ => 0))), (q_5, .inl (cA_6, 1, .inr (.inl (fun _ => 0))))] H := hP
  have hD : va_D A [(q_1, .inr (11, [.ref tp, .ref sh, .ref me, .ref te, .ref en, .ref lx, .ref pa, .ref fr, .ref re, .ref ty, .ref fm, .ref pr, .int 0, .int 0])), (tp, .inr (0, [.int 65536, .ref ta, .int 0])), (ta, .inl (cT, 256, .inl (fun _ => 0))), (sh, .inr (0, [.int 65536, .ref sa, .int 0])), (me, .inr (1, [.int 0, .int 0, .int 0, .int 0])), (te, .inr (2, [.ref me, .ref t1, .ref t2, .ref t3, .ref t4, .ref t5, .ref t6, .ref t7, .ref t8, .int 0])), (en, .inr (3, [.ref fc, .ref nn, .int 0])), (fc, .inr (0, [.int 16777216, .ref fa, .int 0])), (lx, .inr (4, [.ref tp, .ref tk, .int 0, .int 0, .int 0, .int 0, .int 0])), (tk, .inr (0, [.int 16777216, .ref ka, .int 0])), (ka, .inl (cK, 64, .inl (fun _ => 0))), (q_3, .inr (12, fs)), (mt, .inl (cB, 65536, .inl (fun _ => 0))), (q_5, .inl (cA_6, 1, .inr (.inl (fun _ => 0))))] := hD
  refine W.widen (k := 104) (n := 2672977) (Nat.le_of_ble_eq_true rfl) (Nat.le_of_ble_eq_true rfl) ?_
  refine lv_astore_n (lv' := [(3, .ref q_5), (2, .ref q_3), (1, .ref q_1), (0, .ref b)]) hx hb d_Law_law_19 rfl hl (by decide) rfl (fun ls hl => ?_)
  refine lv_iconst (v := 0) hx hb d_Law_law_20 (by decide) ?_
  refine lv_istore (lv' := [(4, .int 0), (3, .ref q_5), (2, .ref q_3), (1, .ref q_1), (0, .ref b)]) hx hb d_Law_law_21 hl (by decide) rfl (fun ls hl => ?_)
  refine lv_iload hx hb d_Law_law_23 (lv_at hl 0 rfl) ?_
  refine lv_aload_n hx hb d_Law_law_25 rfl (lv_at hl 4 rfl) ?_
  refine va_slen hx hb hX0 hbl hbA hS d_Law_law_26 ?_
  refine lv_bipush (v := 6) hx hb d_Law_law_27 (by decide) ?_
  refine lv_isub hx hb d_Law_law_29 ?_
  by_cases hL6 : L = 6
  · skip
    subst hL6
    refine lv_icmp_gt (tgt := 598) hx hb d_Law_law_30 (by decide) (fun c_7 => absurd c_7 (by decide)) (fun c_7 => ?_)
    refine lv_aload_n hx hb d_Law_law_33 rfl (lv_at hl 4 rfl) ?_
    refine lv_iload hx hb d_Law_law_34 (lv_at hl 0 rfl) ?_
    refine va_sld hx hb hX0 hbl hbA hS (vp_in_nI (n := 0) (by decide) (by decide)) d_Law_law_36 ?_
    refine lv_bipush (v := 15) hx hb d_Law_law_37 (by decide) ?_
    refine lv_iand hx hb d_Law_law_39 ?_
    obtain ⟨j, hj, hje⟩ := vl_15 (xs (0 : Int32).toNatClampNeg)
    refine lv_topi (fun xj exj => ?_)
    have exj : xj = nI j := exj.trans hje
    clear hje
    subst exj
    have hl : lv_has ls 7 [(4, .int 0), (0, .ref b), (1, .ref q_1), (2, .ref q_3), (3, .ref q_5)] := lv_sub hl [0, 4, 3, 2, 1] rfl
    rcases (show j = 0 ∨ j = 1 ∨ j = 2 ∨ j = 3 ∨ j = 4 ∨ j = 5 ∨ j = 6 ∨ j = 7 ∨ j = 8 ∨ j = 9 ∨ j = 10 ∨ j = 11 ∨ j = 12 ∨ j = 13 ∨ j = 14 ∨ j = 15 by omega) with rfl | rfl | rfl | rfl | rfl | rfl | rfl | rfl | rfl | rfl | rfl | rfl | rfl | rfl | rfl | rfl
    · skip
      refine lv_tableIn (tgt := 96) (off := 56) hx hb d_Law_law_40 (by decide) (by decide) (by decide) (by decide) ?_
      exact law_c_feed l hfl C0 hz htp hAe.symm hK hP hD hS hl
    · skip
      refine lv_tableIn (tgt := 200) (off := 160) hx hb d_Law_law_40 (by decide) (by decide) (by decide) (by decide) ?_
      exact law_c_end l hfl C0 hz htp hAe.symm hK hP hD hS hl
    · skip
      refine lv_tableIn (tgt := 256) (off := 216) hx hb d_Law_law_40 (by decide) (by decide) (by decide) (by decide) ?_
      exact law_c_read l hfl C0 hz htp hAe.symm hK hP hD hS hl
    · skip
      refine lv_tableIn (tgt := 269) (off := 229) hx hb d_Law_law_40 (by decide) (by decide) (by decide) (by decide) ?_
      exact law_c_fault l hfl C0 hz htp hAe.symm hK hP hD hS hl
    · skip
      refine lv_tableIn (tgt := 294) (off := 254) hx hb d_Law_law_40 (by decide) (by decide) (by decide) (by decide) ?_
      exact law_c_reset l hfl C0 hz htp hAe.symm hK hP hD hS hl
    · skip
      refine lv_tableIn (tgt := 307) (off := 267) hx hb d_Law_law_40 (by decide) (by decide) (by decide) (by decide) ?_
      exact law_c_constant l hfl C0 hz htp hAe.symm hK hP hD hS hl
    · skip
      refine lv_tableIn (tgt := 375) (off := 335) hx hb d_Law_law_40 (by decide) (by decide) (by decide) (by decide) ?_
      exact law_c_show l hfl C0 hz htp hAe.symm hK hP hD hS hl
    · skip
      refine lv_tableIn (tgt := 443) (off := 403) hx hb d_Law_law_40 (by decide) (by decide) (by decide) (by decide) ?_
      exact law_c_showRec l hfl C0 hz htp hAe.symm hK hP hD hS hl
    · skip
      refine lv_tableIn (tgt := 511) (off := 471) hx hb d_Law_law_40 (by decide) (by decide) (by decide) (by decide) ?_
      exact law_c_out l hfl C0 hz htp hAe.symm hK hP hD hS hl
    · skip
      refine lv_tableIn (tgt := 567) (off := 527) hx hb d_Law_law_40 (by decide) (by decide) (by decide) (by decide) ?_
      exact law_c_count l hfl C0 hz htp hAe.symm hK hP hD hS hl
    · skip
      refine lv_tableOut (tgt := 592) hx hb d_Law_law_40 (by decide) (by decide) ?_
      exact law_next C0 (Nat.le_of_ble_eq_true rfl) (Nat.le_of_ble_eq_true rfl) hAe hS (lv_sub hl [0, 1] rfl)
    · skip
      refine lv_tableOut (tgt := 592) hx hb d_Law_law_40 (by decide) (by decide) ?_
      exact law_next C0 (Nat.le_of_ble_eq_true rfl) (Nat.le_of_ble_eq_true rfl) hAe hS (lv_sub hl [0, 1] rfl)
    · skip
      refine lv_tableOut (tgt := 592) hx hb d_Law_law_40 (by decide) (by decide) ?_
      exact law_next C0 (Nat.le_of_ble_eq_true rfl) (Nat.le_of_ble_eq_true rfl) hAe hS (lv_sub hl [0, 1] rfl)
    · skip
      refine lv_tableOut (tgt := 592) hx hb d_Law_law_40 (by decide) (by decide) ?_
      exact law_next C0 (Nat.le_of_ble_eq_true rfl) (Nat.le_of_ble_eq_true rfl) hAe hS (lv_sub hl [0, 1] rfl)
    · skip
      refine lv_tableOut (tgt := 592) hx hb d_Law_law_40 (by decide) (by decide) ?_
      exact law_next C0 (Nat.le_of_ble_eq_true rfl) (Nat.le_of_ble_eq_true rfl) hAe hS (lv_sub hl [0, 1] rfl)
    · skip
      refine lv_tableOut (tgt := 592) hx hb d_Law_law_40 (by decide) (by decide) ?_
      exact law_next C0 (Nat.le_of_ble_eq_true rfl) (Nat.le_of_ble_eq_true rfl) hAe hS (lv_sub hl [0, 1] rfl)
  · skip
    refine lv_icmp_gt (tgt := 598) hx hb d_Law_law_30 (by decide) (fun c_7 => ?_) (fun c_7 => absurd (vl_lt (by omega)) c_7)
    exact law_end C0 (Nat.le_of_ble_eq_true rfl) (Nat.le_of_ble_eq_true rfl) (fun q hq => by have := hS.2.2 q hq; rw [hAe] at this; exact this)
