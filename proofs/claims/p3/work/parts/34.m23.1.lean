def hk_sayNumber (l : Launch) (g : mG) (kk : (Int32 → mS → Option (kO × mS))) (fr lo : Nat) : Prop := (∀ (a1 : Int32)  (α : mS) (x : kO × mS), kk a1 α = some x → mC l g y_Mod_sayNumber b_Mod_sayNumber 2 none fr lo [.ref (mad g 0), .int a1] α (mQr x))
theorem kw_Mod_582 : kWv "FamilyKernelModel" 582 "FamilyKernelModel" y_Mod_sayNumber b_Mod_sayNumber 2 none 1 := ⟨vt_1725, vt_1726, vt_1727, vt_1349, vt_1728, by decide, by decide, by decide +kernel⟩
def f_Mod_sayNumber_j14 (N : Nat)  (kk : (Int32 → mS → Option (kO × mS))) (y1 : Int32) (γ : mS) : Option (kO × mS) := mBv (f_Mod_say_0 N (48 + (y1 - y1 / 10 * 10)) γ) fun α2 => (some (some none, α2))
def f_Mod_sayNumber (N : Nat) (kk : (Int32 → mS → Option (kO × mS))) (a1 : Int32) (α : mS) : Option (kO × mS) := if a1 ≤ 9 then (f_Mod_sayNumber_j14 N kk a1 α) else (mBv (kk (a1 / 10) α) fun α4 => (f_Mod_sayNumber_j14 N kk a1 α4))
set_option maxHeartbeats 4000000 in
set_option maxRecDepth 100000 in
theorem k_Mod_sayNumber {l : Launch} {g : mG} {α : mS} (N : Nat) (kk : (Int32 → mS → Option (kO × mS))) (d : Nat) (hk : hk_sayNumber l g kk (2 + d) (22 + 21 * d)) (a1 : Int32)  : ∀ x, f_Mod_sayNumber N kk a1 α = some x → mC l g y_Mod_sayNumber b_Mod_sayNumber 2 none (2 + (d + 1)) (22 + 21 * (d + 1)) [.ref (mad g 0), .int a1] α (mQr x) := by
  intro x h
  unfold f_Mod_sayNumber at h
  refine mc_ofW (by decide) (fun A p e s m args below meth c S hr hlocks hno hargs E hI => ?_)
  have hx := S.1
  have hb := S.2.1
  have hown := S.2.2.2.1
  have hT := S.2.2.2.2
  subst hargs
  have hl := lv_entry ([.ref (mad g 0), .int a1]) (n := 2) (Nat.le_of_ble_eq_true rfl)
  rw [lg_entry_eq]
  generalize (lg_sl ([.ref (mad g 0), .int a1]) ++ List.replicate (2 - (lg_sl ([.ref (mad g 0), .int a1])).length) Slot.unset).toArray = ls at hl ⊢
  have hl : lv_has ls 2 [(0, .ref (mad g 0)), (1, .int a1)] := hl
  have J14 : ∀ (y1 : Int32) (γ : mS) (H : Heap) (locs : List Loc) (ls : Array Slot), f_Mod_sayNumber_j14 N kk y1 γ = some x → mI g A s γ H locs → lv_has ls 2 [(0, .ref (mad g 0)), (1, .int y1)] → W p l e (mR (2 + (d + 1)) (22 + 21 * (d + 1))) s m ([.ref (mad g 0), .int a1]).toArray below meth c H locs 0 0 (vEQ below (mQ g A (mQr x)) ([.ref (mad g 0), .int a1]).toArray s A) (F0 m 14 ls []) := by
    intro y1 γ H locs ls h hI hl
    unfold f_Mod_sayNumber_j14 at h
    refine lv_aload_n hx hb d_Mod_sayNumber_14 rfl (lv_at hl 0 rfl) ?_
    refine lv_bipush (v := 48) hx hb d_Mod_sayNumber_15 (by decide) ?_
    refine lv_iload_n hx hb d_Mod_sayNumber_17 rfl (lv_at hl 1 rfl) ?_
    refine lv_bipush (v := 10) hx hb d_Mod_sayNumber_18 (by decide) ?_
    refine lv_irem hx hb d_Mod_sayNumber_20 (by decide) ?_
    refine lv_iadd hx hb d_Mod_sayNumber_21 ?_
    refine mg_cV (As := [.int (48 + (y1 - y1 / 10 * 10))]) (rest := []) h (k_Mod_say_0 (l := l) (g := g) (α := γ) N (48 + (y1 - y1 / 10 * 10))) S hlocks hno E hI kw_Mod_580 ⟨by omega, by omega⟩ (mv_Mod E hI) rfl hl.1 rfl (Nat.le_of_ble_eq_true rfl) d_Mod_sayNumber_22 (fun α2 H locs e3 h hI => ?_)
    exact mc_vret hx hb hr hlocks E hI h d_Mod_sayNumber_25
  refine lv_iload_n hx hb d_Mod_sayNumber_0 rfl (lv_at hl 1 rfl) ?_
  refine lv_bipush (v := 9) hx hb d_Mod_sayNumber_1 (by decide) ?_
  refine lv_icmp_le (tgt := 14) hx hb d_Mod_sayNumber_3 (by decide) (fun c1 => ?_) (fun c1 => ?_)
  · replace h := Eq.trans (if_pos c1).symm h
    exact J14 a1 _ _ _ _ h hI (lv_sub hl [0, 1] rfl)
  · replace h := Eq.trans (if_neg c1).symm h
    refine lv_aload_n hx hb d_Mod_sayNumber_6 rfl (lv_at hl 0 rfl) ?_
    refine lv_iload_n hx hb d_Mod_sayNumber_7 rfl (lv_at hl 1 rfl) ?_
    refine lv_bipush (v := 10) hx hb d_Mod_sayNumber_8 (by decide) ?_
    refine lv_idiv hx hb d_Mod_sayNumber_10 (by decide) ?_
    refine mg_cV (As := [.int (a1 / 10)]) (rest := []) h (hk (a1 / 10) α) S hlocks hno E hI kw_Mod_582 ⟨by omega, by omega⟩ (mv_Mod E hI) rfl hl.1 rfl (Nat.le_of_ble_eq_true rfl) d_Mod_sayNumber_11 (fun α4 H locs e5 h hI => ?_)
    exact J14 a1 _ _ _ _ h hI (lv_sub hl [0, 1] rfl)
def G_sayNumber (N : Nat) : Nat → (Int32 → mS → Option (kO × mS))
  | 0 => (fun _ _ => none)
  | d + 1 => (f_Mod_sayNumber N (G_sayNumber N d))
theorem ok_sayNumber {l : Launch} {g : mG} (N : Nat) : ∀ d, hk_sayNumber l g (G_sayNumber N d) (2 + d) (22 + 21 * d)
  | 0 => (fun a1  α x h => by cases h)
  | d + 1 => by
    have ih := ok_sayNumber (l := l) (g := g) N d
    exact (fun a1  α x h => k_Mod_sayNumber (α := α) N _ d ih a1  x h)
def dp_sayNumber : Nat := 12
