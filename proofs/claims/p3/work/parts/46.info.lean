-- what an info holds
theorem lN_32 {n : Nat} : (lN n).toInt32 = nI n := by
  apply Int32.toBitVec_inj.mp
  rw [Int64.toBitVec_toInt32, BitVec.signExtend_eq_setWidth_of_le _ (by decide)]
  show (BitVec.ofNat 64 n).setWidth 32 = BitVec.ofNat 32 n
  apply BitVec.eq_of_toNat_eq
  rw [BitVec.toNat_setWidth, BitVec.toNat_ofNat, BitVec.toNat_ofNat]
  omega
theorem info_q1 (P d : Nat) : P * 2 ^ 26 + d * 2 ^ 17 = (P * 2 ^ 9 + d) * 2 ^ 17 := by omega
theorem info_q2 (P d sz : Nat) : (P * 2 ^ 9 + d) * 2 ^ 17 + sz * 2 ^ 4 = (P * 2 ^ 22 + d * 2 ^ 13 + sz) * 2 ^ 4 := by omega
set_option maxRecDepth 100000 in
theorem info_is (y8 y7 : Int32) {d sz k : Nat} (hd : d < 512) (hs : sz < 8192) (hk : k < 16) : ∃ P, P < 2 ^ 38 ∧ ((((y8.toInt64 <<< ((39 : Int32).toInt64 &&& 63)) ||| (y7.toInt64 <<< ((26 : Int32).toInt64 &&& 63))) ||| ((nI d).toInt64 <<< ((17 : Int32).toInt64 &&& 63))) ||| ((nI sz).toInt64 <<< ((4 : Int32).toInt64 &&& 63))) ||| (nI k).toInt64 = lN (P * 2 ^ 26 + d * 2 ^ 17 + sz * 2 ^ 4 + k) := by
  obtain ⟨a, ha, ea⟩ := wb_of y8.toInt64
  obtain ⟨b, hb, eb⟩ := wb_of y7.toInt64
  have e1 : y8.toInt64 <<< ((39 : Int32).toInt64 &&& 63) = lN (a * 2 ^ 39 % 2 ^ 64) := by rw [ea, ← wb_mod]; exact wb_shl a (k := 39) (by decide)
  have e2 : y7.toInt64 <<< ((26 : Int32).toInt64 &&& 63) = lN (b * 2 ^ 26 % 2 ^ 64) := by rw [eb, ← wb_mod]; exact wb_shl b (k := 26) (by decide)
  have e3 : (nI d).toInt64 <<< ((17 : Int32).toInt64 &&& 63) = lN (d * 2 ^ 17) := by rw [nI_l (by omega)]; exact wb_shl d (k := 17) (by decide)
  have e4 : (nI sz).toInt64 <<< ((4 : Int32).toInt64 &&& 63) = lN (sz * 2 ^ 4) := by rw [nI_l (by omega)]; exact wb_shl sz (k := 4) (by decide)
  have e5 : (nI k).toInt64 = lN k := nI_l (by omega)
  have m1 : a * 2 ^ 39 % 2 ^ 64 < 2 ^ 64 := Nat.mod_lt _ (by decide)
  have m2 : b * 2 ^ 26 % 2 ^ 64 < 2 ^ 64 := Nat.mod_lt _ (by decide)
  have h1 : a * 2 ^ 39 % 2 ^ 64 = (a % 2 ^ 25 * 2 ^ 13) * 2 ^ 26 := by
    rw [show (2 : Nat) ^ 64 = 2 ^ 25 * 2 ^ 39 from rfl, Nat.mul_mod_mul_right, Nat.mul_assoc]
  have h2 : b * 2 ^ 26 % 2 ^ 64 = (b % 2 ^ 38) * 2 ^ 26 := by
    rw [show (2 : Nat) ^ 64 = 2 ^ 38 * 2 ^ 26 from rfl, Nat.mul_mod_mul_right]
  have n1 : a % 2 ^ 25 * 2 ^ 13 < 2 ^ 38 := by
    have := Nat.mod_lt a (show 0 < 2 ^ 25 by decide)
    omega
  have n2 : b % 2 ^ 38 < 2 ^ 38 := Nat.mod_lt _ (by decide)
  have h3 : ∃ P, P < 2 ^ 38 ∧ (a * 2 ^ 39 % 2 ^ 64) ||| (b * 2 ^ 26 % 2 ^ 64) = P * 2 ^ 26 := by
    refine ⟨(a % 2 ^ 25 * 2 ^ 13) ||| (b % 2 ^ 38), Nat.or_lt_two_pow n1 n2, ?_⟩
    rw [h1, h2, ← Nat.shiftLeft_eq _ 26, ← Nat.shiftLeft_eq _ 26, ← Nat.shiftLeft_eq _ 26, Nat.shiftLeft_or_distrib]
  obtain ⟨P, hP, e6⟩ := h3
  refine ⟨P, hP, ?_⟩
  rw [e1, e2, e3, e4, e5, wb_or m1 m2, e6]
  rw [g_or (k := 26) (p := 2 ^ 26) (a := d * 2 ^ 17) (b := P) rfl (by omega) (by omega)]
  have q1 : P * 2 ^ 26 + d * 2 ^ 17 = (P * 2 ^ 9 + d) * 2 ^ 17 := info_q1 P d
  rw [q1, g_or (k := 17) (p := 2 ^ 17) (a := sz * 2 ^ 4) (b := P * 2 ^ 9 + d) rfl (by omega) (by omega)]
  have q2 : (P * 2 ^ 9 + d) * 2 ^ 17 + sz * 2 ^ 4 = (P * 2 ^ 22 + d * 2 ^ 13 + sz) * 2 ^ 4 := info_q2 P d sz
  rw [q2, g_or (k := 4) (p := 2 ^ 4) (a := k) (b := P * 2 ^ 22 + d * 2 ^ 13 + sz) rfl (by omega) (by omega)]
theorem info_kd {P d sz k : Nat} (hP : P < 2 ^ 38) (hd : d < 512) (hs : sz < 8192) (hk : k < 16) : (lN (P * 2 ^ 26 + d * 2 ^ 17 + sz * 2 ^ 4 + k)).toInt32 &&& 15 = nI k := by
  rw [lN_32, pk_and _ 4 (by decide)]
  congr 1
  show (BitVec.ofNat 32 _).toNat % 2 ^ 4 = k
  rw [BitVec.toNat_ofNat]
  omega
theorem info_sz {P d sz k : Nat} (hP : P < 2 ^ 38) (hd : d < 512) (hs : sz < 8192) (hk : k < 16) : (((lN (P * 2 ^ 26 + d * 2 ^ 17 + sz * 2 ^ 4 + k)).toUInt64 >>> ((4 : Int32).toInt64.toUInt64 &&& Int64.toUInt64 63)).toInt64).toInt32 &&& 8191 = nI sz := by
  have e : ((lN (P * 2 ^ 26 + d * 2 ^ 17 + sz * 2 ^ 4 + k)).toUInt64 >>> ((4 : Int32).toInt64.toUInt64 &&& Int64.toUInt64 63)).toInt64 = lN ((P * 2 ^ 26 + d * 2 ^ 17 + sz * 2 ^ 4 + k) / 2 ^ 4) := wb_shr (k := 4) (by omega) (by decide)
  rw [e, lN_32, pk_and _ 13 (by decide)]
  congr 1
  show (BitVec.ofNat 32 _).toNat % 2 ^ 13 = sz
  rw [BitVec.toNat_ofNat]
  omega
theorem info_dp {P d sz k : Nat} (hP : P < 2 ^ 38) (hd : d < 512) (hs : sz < 8192) (hk : k < 16) : (((lN (P * 2 ^ 26 + d * 2 ^ 17 + sz * 2 ^ 4 + k)).toUInt64 >>> ((17 : Int32).toInt64.toUInt64 &&& Int64.toUInt64 63)).toInt64).toInt32 &&& 511 = nI d := by
  have e : ((lN (P * 2 ^ 26 + d * 2 ^ 17 + sz * 2 ^ 4 + k)).toUInt64 >>> ((17 : Int32).toInt64.toUInt64 &&& Int64.toUInt64 63)).toInt64 = lN ((P * 2 ^ 26 + d * 2 ^ 17 + sz * 2 ^ 4 + k) / 2 ^ 17) := wb_shr (k := 17) (by omega) (by decide)
  rw [e, lN_32, pk_and _ 9 (by decide)]
  congr 1
  show (BitVec.ofNat 32 _).toNat % 2 ^ 9 = d
  rw [BitVec.toNat_ofNat]
  omega
theorem or_fld (a c : Nat) : a % 2048 ≤ (a * 2 ^ 13 ||| c) / 2 ^ 13 % 2048 := by
  have e : (a * 2 ^ 13 ||| c) / 2 ^ 13 = a ||| c / 2 ^ 13 := by
    rw [← Nat.shiftRight_eq_div_pow, ← Nat.shiftRight_eq_div_pow, Nat.shiftRight_or_distrib, Nat.shiftRight_eq_div_pow, Nat.mul_div_cancel _ (by decide)]
  rw [e, show (2048 : Nat) = 2 ^ 11 from rfl, Nat.or_mod_two_pow]
  exact Nat.left_le_or
set_option maxRecDepth 100000 in
theorem info_f (y7 : Int32) {f d sz k : Nat} (hf : f < 2048) (hd : d < 512) (hs : sz < 8192) (hk : k < 16) : ∃ P, P < 2 ^ 38 ∧ f ≤ P / 2 ^ 13 % 2048 ∧ (((((nI f).toInt64 <<< ((39 : Int32).toInt64 &&& 63)) ||| (y7.toInt64 <<< ((26 : Int32).toInt64 &&& 63))) ||| ((nI d).toInt64 <<< ((17 : Int32).toInt64 &&& 63))) ||| ((nI sz).toInt64 <<< ((4 : Int32).toInt64 &&& 63))) ||| (nI k).toInt64 = lN (P * 2 ^ 26 + d * 2 ^ 17 + sz * 2 ^ 4 + k) := by
  obtain ⟨b, hb, eb⟩ := wb_of y7.toInt64
  have e1 : (nI f).toInt64 <<< ((39 : Int32).toInt64 &&& 63) = lN (f * 2 ^ 39) := by rw [nI_l (by omega)]; exact wb_shl f (k := 39) (by decide)
  have e2 : y7.toInt64 <<< ((26 : Int32).toInt64 &&& 63) = lN (b * 2 ^ 26 % 2 ^ 64) := by rw [eb, ← wb_mod]; exact wb_shl b (k := 26) (by decide)
  have e3 : (nI d).toInt64 <<< ((17 : Int32).toInt64 &&& 63) = lN (d * 2 ^ 17) := by rw [nI_l (by omega)]; exact wb_shl d (k := 17) (by decide)
  have e4 : (nI sz).toInt64 <<< ((4 : Int32).toInt64 &&& 63) = lN (sz * 2 ^ 4) := by rw [nI_l (by omega)]; exact wb_shl sz (k := 4) (by decide)
  have e5 : (nI k).toInt64 = lN k := nI_l (by omega)
  have m1 : f * 2 ^ 39 < 2 ^ 64 := by omega
  have m2 : b * 2 ^ 26 % 2 ^ 64 < 2 ^ 64 := Nat.mod_lt _ (by decide)
  have h2 : b * 2 ^ 26 % 2 ^ 64 = (b % 2 ^ 38) * 2 ^ 26 := by
    rw [show (2 : Nat) ^ 64 = 2 ^ 38 * 2 ^ 26 from rfl, Nat.mul_mod_mul_right]
  have n1 : f * 2 ^ 13 < 2 ^ 38 := by omega
  have n2 : b % 2 ^ 38 < 2 ^ 38 := Nat.mod_lt _ (by decide)
  have h3 : ∃ P, P < 2 ^ 38 ∧ f ≤ P / 2 ^ 13 % 2048 ∧ (f * 2 ^ 39) ||| (b * 2 ^ 26 % 2 ^ 64) = P * 2 ^ 26 := by
    refine ⟨(f * 2 ^ 13) ||| (b % 2 ^ 38), Nat.or_lt_two_pow n1 n2, ?_, ?_⟩
    · have := or_fld f (b % 2 ^ 38)
      rw [Nat.mod_eq_of_lt hf] at this
      exact this
    · rw [show f * 2 ^ 39 = (f * 2 ^ 13) * 2 ^ 26 by omega, h2, ← Nat.shiftLeft_eq _ 26, ← Nat.shiftLeft_eq _ 26, ← Nat.shiftLeft_eq _ 26, Nat.shiftLeft_or_distrib]
  obtain ⟨P, hP, hPf, e6⟩ := h3
  refine ⟨P, hP, hPf, ?_⟩
  rw [e1, e2, e3, e4, e5, wb_or m1 m2, e6]
  clear e1 e2 e3 e4 e5 m1 m2 h2 n1 n2 e6 hPf eb hb hf
  rw [g_or (k := 26) (p := 2 ^ 26) (a := d * 2 ^ 17) (b := P) rfl (by omega) (by omega)]
  have q1 : P * 2 ^ 26 + d * 2 ^ 17 = (P * 2 ^ 9 + d) * 2 ^ 17 := info_q1 P d
  rw [q1, g_or (k := 17) (p := 2 ^ 17) (a := sz * 2 ^ 4) (b := P * 2 ^ 9 + d) rfl (by omega) (by omega)]
  have q2 : (P * 2 ^ 9 + d) * 2 ^ 17 + sz * 2 ^ 4 = (P * 2 ^ 22 + d * 2 ^ 13 + sz) * 2 ^ 4 := info_q2 P d sz
  rw [q2, g_or (k := 4) (p := 2 ^ 4) (a := k) (b := P * 2 ^ 22 + d * 2 ^ 13 + sz) rfl (by omega) (by omega)]
theorem info_fr {P d sz k : Nat} (hP : P < 2 ^ 38) (hd : d < 512) (hs : sz < 8192) (hk : k < 16) : (((lN (P * 2 ^ 26 + d * 2 ^ 17 + sz * 2 ^ 4 + k)).toUInt64 >>> ((39 : Int32).toInt64.toUInt64 &&& Int64.toUInt64 63)).toInt64).toInt32 &&& 2047 = nI (P / 2 ^ 13 % 2048) := by
  have e : ((lN (P * 2 ^ 26 + d * 2 ^ 17 + sz * 2 ^ 4 + k)).toUInt64 >>> ((39 : Int32).toInt64.toUInt64 &&& Int64.toUInt64 63)).toInt64 = lN ((P * 2 ^ 26 + d * 2 ^ 17 + sz * 2 ^ 4 + k) / 2 ^ 39) := wb_shr (k := 39) (by omega) (by decide)
  rw [e, lN_32, pk_and _ 11 (by decide)]
  congr 1
  show (BitVec.ofNat 32 _).toNat % 2 ^ 11 = P / 2 ^ 13 % 2048
  rw [BitVec.toNat_ofNat]
  omega
