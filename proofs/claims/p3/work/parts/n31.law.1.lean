theorem kw_Law_47 : kWv "FamilyKernelLaw" 47 "FamilyKernelModel" y_Mod_feed b_Mod_feed 8 (some .int) 5 := ⟨vt_1878, vt_1879, vt_1880, vt_1349, vt_1353, by decide, by decide, by decide +kernel⟩
set_option maxHeartbeats 4000000 in
set_option maxRecDepth 100000 in
theorem law_c_feed (l : Launch) (hfl : kFl l) {p : Program} {e : Env} {s : State} {m : MethodId} {below : List Frame} {meth : Method} {c : Code} {b L : Nat} {xs : Nat → Int32} (C0 : lw_At p s m meth c b L xs) {g : mG} {o : Nat} {A : Nat → Prop} (hAe : A = fun q : Nat => s.heap.size ≤ q) (E : lE g A s) (hL : L ≤ 3072) {k : Nat} (hkL : 6 * k + 6 ≤ L) {α : kS} {ad : Nat → Nat} {β : mS} {w : Nat → Int64} {H : Heap} {locs : List Loc} {ls : Array Slot} {cells slots : Nat} (hI : lTI k α β) (hJ : lJ g o A s α ad β w H locs) (hC : lPC k α cells slots) (hl : lv_has ls 7 [(4, .int (nI (6 * k))), (0, .ref b), (1, .ref (kad g.1 0)), (2, .ref (mad g 0)), (3, .ref o)])
    (next : ∀ (α' : kS) (ad' : Nat → Nat) (β' : mS) (w' : Nat → Int64) (H' : Heap) (locs' : List Loc) (ls' : Array Slot) (cells' slots' : Nat), lTI (k + 1) α' β' → lJ g o A s α' ad' β' w' H' locs' → lPC (k + 1) α' cells' slots' → lv_has ls' 7 [(4, .int (nI (6 * k))), (0, .ref b), (1, .ref (kad g.1 0)), (2, .ref (mad g 0)), (3, .ref o)] → W p l e room_1 s m #[Value.ref b] below meth c H' locs' cells' slots' (lw_Z below #[Value.ref b] s) (F0 m 452 ls' [])) : W p l e room_1 s m #[Value.ref b] below meth c H locs cells slots (lw_Z below #[Value.ref b] s) (F0 m 96 ls []) := by
  obtain ⟨hx, hb, hr, hml, hown, hts, hX0, hbl, hlocks, hgv⟩ := id C0
  have hT : ∀ w ∈ vT, w.before _ s = true := fun w h => hts w (vT_in w h)
  have hbA : ¬ A b := by rw [hAe]; exact Nat.not_le.mpr hbl
  have S : CallFix p m c b_Law_law 7 s #[Value.ref b] vT "FamilyKernelLaw" := ⟨hx, hb, hml, hown, hT⟩
  have hk : k < 512 := by omega
  refine lv_aload_n hx hb d_Law_law_96 rfl (lv_at hl 2 rfl) ?_
  refine lv_aload_n hx hb d_Law_law_97 rfl (lv_at hl 1 rfl) ?_
  refine lv_iload hx hb d_Law_law_98 (lv_at hl 0 rfl) ?_
  refine lv_iconst (v := 1) hx hb d_Law_law_100 (by decide) ?_
  refine lv_iadd hx hb d_Law_law_101 ?_
  refine lv_topi (fun i_1 ei_1 => ?_)
  obtain rfl : i_1 = nI (6 * k + 1) := ei_1.trans (nI_add (6 * k) 1)
  refine va_sld hx hb hX0 hbl hbA hJ.2.2 (vp_in_nI (n := 6 * k + 1) (by omega) (by omega)) d_Law_law_102 ?_
  refine lv_aload_n hx hb d_Law_law_103 rfl (lv_at hl 1 rfl) ?_
  refine lv_iload hx hb d_Law_law_104 (lv_at hl 0 rfl) ?_
  refine lv_iconst (v := 2) hx hb d_Law_law_106 (by decide) ?_
  refine lv_iadd hx hb d_Law_law_107 ?_
  refine lv_topi (fun i_2 ei_2 => ?_)
  obtain rfl : i_2 = nI (6 * k + 2) := ei_2.trans (nI_add (6 * k) 2)
  refine va_sld hx hb hX0 hbl hbA hJ.2.2 (vp_in_nI (n := 6 * k + 2) (by omega) (by omega)) d_Law_law_108 ?_
  refine lv_aload_n hx hb d_Law_law_109 rfl (lv_at hl 1 rfl) ?_
  refine lv_iload hx hb d_Law_law_110 (lv_at hl 0 rfl) ?_
  refine lv_iconst (v := 3) hx hb d_Law_law_112 (by decide) ?_
  refine lv_iadd hx hb d_Law_law_113 ?_
  refine lv_topi (fun i_3 ei_3 => ?_)
  obtain rfl : i_3 = nI (6 * k + 3) := ei_3.trans (nI_add (6 * k) 3)
  refine va_sld hx hb hX0 hbl hbA hJ.2.2 (vp_in_nI (n := 6 * k + 3) (by omega) (by omega)) d_Law_law_114 ?_
  refine lv_aload_n hx hb d_Law_law_115 rfl (lv_at hl 1 rfl) ?_
  refine lv_iload hx hb d_Law_law_116 (lv_at hl 0 rfl) ?_
  refine lv_iconst (v := 4) hx hb d_Law_law_118 (by decide) ?_
  refine lv_iadd hx hb d_Law_law_119 ?_
  refine lv_topi (fun i_4 ei_4 => ?_)
  obtain rfl : i_4 = nI (6 * k + 4) := ei_4.trans (nI_add (6 * k) 4)
  refine va_sld hx hb hX0 hbl hbA hJ.2.2 (vp_in_nI (n := 6 * k + 4) (by omega) (by omega)) d_Law_law_120 ?_
  refine lv_aload_n hx hb d_Law_law_121 rfl (lv_at hl 1 rfl) ?_
  refine lv_iload hx hb d_Law_law_122 (lv_at hl 0 rfl) ?_
  refine lv_iconst (v := 5) hx hb d_Law_law_124 (by decide) ?_
  refine lv_iadd hx hb d_Law_law_125 ?_
  refine lv_topi (fun i_5 ei_5 => ?_)
  obtain rfl : i_5 = nI (6 * k + 5) := ei_5.trans (nI_add (6 * k) 5)
  refine va_sld hx hb hX0 hbl hbA hJ.2.2 (vp_in_nI (n := 6 * k + 5) (by omega) (by omega)) d_Law_law_126 ?_
  refine lv_aload_n hx hb d_Law_law_127 rfl (lv_at hl 4 rfl) ?_
  obtain ⟨v, α', β', hf, hm, hth, hLI⟩ := t_feed hk hI (xs (nI (6 * k + 1)).toNatClampNeg) (xs (nI (6 * k + 2)).toNatClampNeg) (xs (nI (6 * k + 3)).toNatClampNeg) (xs (nI (6 * k + 4)).toNatClampNeg) (xs (nI (6 * k + 5)).toNatClampNeg)
  have tail : ∀ (r : Int32) (α' : kS) (ad' : Nat → Nat) (β' : mS) (v' : Int32) (w' : Nat → Int64) (H : Heap) (locs : List Loc) (cells slots : Nat), f_Mod_feed lawN (xs (nI (6 * k + 1)).toNatClampNeg) (xs (nI (6 * k + 2)).toNatClampNeg) (xs (nI (6 * k + 3)).toNatClampNeg) (xs (nI (6 * k + 4)).toNatClampNeg) (xs (nI (6 * k + 5)).toNatClampNeg) β = some (some (some v'), β') → lJ g o A s α' ad' β w' H locs → lPD k α' cells slots → lTI (k + 1) α' β' → W p l e room_1 s m #[Value.ref b] below meth c H locs cells slots (lw_Z below #[Value.ref b] s) (F0 m 131 ls [.int r]) := by
    intro r α' ad' β' v' w' H locs cells slots hm hJ hD hLI
    refine lv_istore (lv' := [(5, .int r), (4, .int (nI (6 * k))), (0, .ref b), (1, .ref (kad g.1 0)), (2, .ref (mad g 0)), (3, .ref o)]) hx hb d_Law_law_131 hl (by decide) rfl (fun ls hl => ?_)
    refine lv_aload_n hx hb d_Law_law_133 rfl (lv_at hl 4 rfl) ?_
    refine lv_aload_n hx hb d_Law_law_134 rfl (lv_at hl 2 rfl) ?_
    refine lv_iload hx hb d_Law_law_135 (lv_at hl 1 rfl) ?_
    refine lv_iconst (v := 1) hx hb d_Law_law_137 (by decide) ?_
    refine lv_iadd hx hb d_Law_law_138 ?_
    refine lv_topi (fun i_6 ei_6 => ?_)
    obtain rfl : i_6 = nI (6 * k + 1) := ei_6.trans (nI_add (6 * k) 1)
    refine va_sld hx hb hX0 hbl hbA hJ.2.2 (vp_in_nI (n := 6 * k + 1) (by omega) (by omega)) d_Law_law_139 ?_
    refine lv_aload_n hx hb d_Law_law_140 rfl (lv_at hl 2 rfl) ?_
    refine lv_iload hx hb d_Law_law_141 (lv_at hl 1 rfl) ?_
    refine lv_iconst (v := 2) hx hb d_Law_law_143 (by decide) ?_
    refine lv_iadd hx hb d_Law_law_144 ?_
    refine lv_topi (fun i_7 ei_7 => ?_)
    obtain rfl : i_7 = nI (6 * k + 2) := ei_7.trans (nI_add (6 * k) 2)
    refine va_sld hx hb hX0 hbl hbA hJ.2.2 (vp_in_nI (n := 6 * k + 2) (by omega) (by omega)) d_Law_law_145 ?_
    refine lv_aload_n hx hb d_Law_law_146 rfl (lv_at hl 2 rfl) ?_
    refine lv_iload hx hb d_Law_law_147 (lv_at hl 1 rfl) ?_
    refine lv_iconst (v := 3) hx hb d_Law_law_149 (by decide) ?_
    refine lv_iadd hx hb d_Law_law_150 ?_
    refine lv_topi (fun i_8 ei_8 => ?_)
    obtain rfl : i_8 = nI (6 * k + 3) := ei_8.trans (nI_add (6 * k) 3)
    refine va_sld hx hb hX0 hbl hbA hJ.2.2 (vp_in_nI (n := 6 * k + 3) (by omega) (by omega)) d_Law_law_151 ?_
    refine lv_aload_n hx hb d_Law_law_152 rfl (lv_at hl 2 rfl) ?_
    refine lv_iload hx hb d_Law_law_153 (lv_at hl 1 rfl) ?_
    refine lv_iconst (v := 4) hx hb d_Law_law_155 (by decide) ?_
    refine lv_iadd hx hb d_Law_law_156 ?_
    refine lv_topi (fun i_9 ei_9 => ?_)
    obtain rfl : i_9 = nI (6 * k + 4) := ei_9.trans (nI_add (6 * k) 4)
    refine va_sld hx hb hX0 hbl hbA hJ.2.2 (vp_in_nI (n := 6 * k + 4) (by omega) (by omega)) d_Law_law_157 ?_
    refine lv_aload_n hx hb d_Law_law_158 rfl (lv_at hl 2 rfl) ?_
    refine lv_iload hx hb d_Law_law_159 (lv_at hl 1 rfl) ?_
    refine lv_iconst (v := 5) hx hb d_Law_law_161 (by decide) ?_
    refine lv_iadd hx hb d_Law_law_162 ?_
    refine lv_topi (fun i_10 ei_10 => ?_)
    obtain rfl : i_10 = nI (6 * k + 5) := ei_10.trans (nI_add (6 * k) 5)
    refine va_sld hx hb hX0 hbl hbA hJ.2.2 (vp_in_nI (n := 6 * k + 5) (by omega) (by omega)) d_Law_law_163 ?_
    refine lm_call (As := [.int (xs (nI (6 * k + 1)).toNatClampNeg), .int (xs (nI (6 * k + 2)).toNatClampNeg), .int (xs (nI (6 * k + 3)).toNatClampNeg), .int (xs (nI (6 * k + 4)).toNatClampNeg), .int (xs (nI (6 * k + 5)).toNatClampNeg)]) (rest := []) hm (k_Mod_feed lawN (xs (nI (6 * k + 1)).toNatClampNeg) (xs (nI (6 * k + 2)).toNatClampNeg) (xs (nI (6 * k + 3)).toNatClampNeg) (xs (nI (6 * k + 4)).toNatClampNeg) (xs (nI (6 * k + 5)).toNatClampNeg)) S E hJ kw_Law_47 ⟨(Nat.le_of_ble_eq_true rfl), (Nat.le_of_ble_eq_true rfl)⟩ (hD.room hJ.2.1.F hk).1 rfl hl.1 rfl (Nat.le_of_ble_eq_true rfl) d_Law_law_164 (fun H locs hJ => ?_)
    refine lv_istore (lv' := [(6, .int v'), (5, .int r), (4, .int (nI (6 * k))), (0, .ref b), (1, .ref (kad g.1 0)), (2, .ref (mad g 0)), (3, .ref o)]) hx hb d_Law_law_167 hl (by decide) rfl (fun ls hl => ?_)
    refine lv_goto (tgt := 452) hx hb d_Law_law_169 (by decide) ?_
    exact next _ _ _ _ _ _ _ _ _ hLI hJ hD.n0 (lv_sub hl [2, 3, 4, 5, 6] rfl)
  refine ls_call (n0 := 7) (x := (0, α', vp_updL w 0 v.toInt64)) (rest := []) (h_feed_ok hfl lawN (xs (nI (6 * k + 1)).toNatClampNeg) (xs (nI (6 * k + 2)).toNatClampNeg) (xs (nI (6 * k + 3)).toNatClampNeg) (xs (nI (6 * k + 4)).toNatClampNeg) (xs (nI (6 * k + 5)).toNatClampNeg) v hf) S E hJ vt_1849 vt_1850 vt_1757 vt_1205 ⟨by decide, by decide, by decide +kernel⟩ ⟨(Nat.le_of_ble_eq_true rfl), (Nat.le_of_ble_eq_true rfl)⟩ (hC.room hJ.2.1.F hk).1 rfl hl.1 rfl (Nat.le_of_ble_eq_true rfl) d_Law_law_128 (fun ad1 H1 locs1 k1 n1 h1 h2 hJ => ?_)
  exact tail _ _ _ _ _ _ _ _ _ _ hm hJ (hC.d h1 h2) hLI
theorem kw_Law_51 : kWv "FamilyKernelLaw" 51 "FamilyKernelModel" y_Mod_end b_Mod_end 2 (some .int) 1 := ⟨vt_1881, vt_1882, vt_1883, vt_1349, vt_1354, by decide, by decide, by decide +kernel⟩
theorem kw_Law_52 : kWv "FamilyKernelLaw" 52 "FamilyKernelModel" y_Mod_thrown b_Mod_thrown 1 (some .int) 0 := ⟨vt_1875, vt_1876, vt_1877, vt_1349, vt_1346, by decide, by decide, by decide +kernel⟩
set_option maxHeartbeats 4000000 in
set_option maxRecDepth 100000 in
theorem law_c_end (l : Launch) (hfl : kFl l) {p : Program} {e : Env} {s : State} {m : MethodId} {below : List Frame} {meth : Method} {c : Code} {b L : Nat} {xs : Nat → Int32} (C0 : lw_At p s m meth c b L xs) {g : mG} {o : Nat} {A : Nat → Prop} (hAe : A = fun q : Nat => s.heap.size ≤ q) (E : lE g A s) (hL : L ≤ 3072) {k : Nat} (hkL : 6 * k + 6 ≤ L) {α : kS} {ad : Nat → Nat} {β : mS} {w : Nat → Int64} {H : Heap} {locs : List Loc} {ls : Array Slot} {cells slots : Nat} (hI : lTI k α β) (hJ : lJ g o A s α ad β w H locs) (hC : lPC k α cells slots) (hl : lv_has ls 7 [(4, .int (nI (6 * k))), (0, .ref b), (1, .ref (kad g.1 0)), (2, .ref (mad g 0)), (3, .ref o)])
    (next : ∀ (α' : kS) (ad' : Nat → Nat) (β' : mS) (w' : Nat → Int64) (H' : Heap) (locs' : List Loc) (ls' : Array Slot) (cells' slots' : Nat), lTI (k + 1) α' β' → lJ g o A s α' ad' β' w' H' locs' → lPC (k + 1) α' cells' slots' → lv_has ls' 7 [(4, .int (nI (6 * k))), (0, .ref b), (1, .ref (kad g.1 0)), (2, .ref (mad g 0)), (3, .ref o)] → W p l e room_1 s m #[Value.ref b] below meth c H' locs' cells' slots' (lw_Z below #[Value.ref b] s) (F0 m 452 ls' [])) : W p l e room_1 s m #[Value.ref b] below meth c H locs cells slots (lw_Z below #[Value.ref b] s) (F0 m 172 ls []) := by
  obtain ⟨hx, hb, hr, hml, hown, hts, hX0, hbl, hlocks, hgv⟩ := id C0
  have hT : ∀ w ∈ vT, w.before _ s = true := fun w h => hts w (vT_in w h)
  have hbA : ¬ A b := by rw [hAe]; exact Nat.not_le.mpr hbl
  have S : CallFix p m c b_Law_law 7 s #[Value.ref b] vT "FamilyKernelLaw" := ⟨hx, hb, hml, hown, hT⟩
  have hk : k < 512 := by omega
  refine lv_aload_n hx hb d_Law_law_172 rfl (lv_at hl 2 rfl) ?_
  refine lv_aload_n hx hb d_Law_law_173 rfl (lv_at hl 1 rfl) ?_
  refine lv_iload hx hb d_Law_law_174 (lv_at hl 0 rfl) ?_
  refine lv_iconst (v := 1) hx hb d_Law_law_176 (by decide) ?_
  refine lv_iadd hx hb d_Law_law_177 ?_
  refine lv_topi (fun i_1 ei_1 => ?_)
  obtain rfl : i_1 = nI (6 * k + 1) := ei_1.trans (nI_add (6 * k) 1)
  refine va_sld hx hb hX0 hbl hbA hJ.2.2 (vp_in_nI (n := 6 * k + 1) (by omega) (by omega)) d_Law_law_178 ?_
  refine lv_aload_n hx hb d_Law_law_179 rfl (lv_at hl 4 rfl) ?_
  have tail : ∀ (r : Int32) (α' : kS) (ad' : Nat → Nat) (β' : mS) (v' : Int32) (w' : Nat → Int64) (H : Heap) (locs : List Loc) (cells slots : Nat), (some (some (some (f_Mod_end (xs (nI (6 * k + 1)).toNatClampNeg) β).1), (f_Mod_end (xs (nI (6 * k + 1)).toNatClampNeg) β).2) : Option (kO × mS)) = some (some (some v'), β') → (r = 0 ∧ β'.1 2 = 0 ∧ w' 0 = v'.toInt64 ∨ r = 1 ∧ β'.1 2 = 1) → lJ g o A s α' ad' β w' H locs → lPD k α' cells slots → lTI (k + 1) α' β' → W p l e room_1 s m #[Value.ref b] below meth c H locs cells slots (lw_Z below #[Value.ref b] s) (F0 m 183 ls [.int r]) := by
    intro r α' ad' β' v' w' H locs cells slots hm hcmp hJ hD hLI
    rcases hcmp with ⟨rfl, hth, hw0⟩ | ⟨rfl, hth⟩
    · skip
      refine lv_istore (lv' := [(5, .int 0), (4, .int (nI (6 * k))), (0, .ref b), (1, .ref (kad g.1 0)), (2, .ref (mad g 0)), (3, .ref o)]) hx hb d_Law_law_183 hl (by decide) rfl (fun ls hl => ?_)
      refine lv_aload_n hx hb d_Law_law_185 rfl (lv_at hl 4 rfl) ?_
      refine lv_aload_n hx hb d_Law_law_186 rfl (lv_at hl 2 rfl) ?_
      refine lv_iload hx hb d_Law_law_187 (lv_at hl 1 rfl) ?_
      refine lv_iconst (v := 1) hx hb d_Law_law_189 (by decide) ?_
      refine lv_iadd hx hb d_Law_law_190 ?_
      refine lv_topi (fun i_2 ei_2 => ?_)
      obtain rfl : i_2 = nI (6 * k + 1) := ei_2.trans (nI_add (6 * k) 1)
      refine va_sld hx hb hX0 hbl hbA hJ.2.2 (vp_in_nI (n := 6 * k + 1) (by omega) (by omega)) d_Law_law_191 ?_
      refine lm_call (As := [.int (xs (nI (6 * k + 1)).toNatClampNeg)]) (rest := []) hm (fun x hx => by cases hx; exact k_Mod_end (xs (nI (6 * k + 1)).toNatClampNeg)) S E hJ kw_Law_51 ⟨(Nat.le_of_ble_eq_true rfl), (Nat.le_of_ble_eq_true rfl)⟩ (hD.room hJ.2.1.F hk).1 rfl hl.1 rfl (Nat.le_of_ble_eq_true rfl) d_Law_law_192 (fun H locs hJ => ?_)
      refine lv_istore (lv' := [(6, .int v'), (5, .int 0), (4, .int (nI (6 * k))), (0, .ref b), (1, .ref (kad g.1 0)), (2, .ref (mad g 0)), (3, .ref o)]) hx hb d_Law_law_195 hl (by decide) rfl (fun ls hl => ?_)
      refine lv_aload_n hx hb d_Law_law_197 rfl (lv_at hl 5 rfl) ?_
      refine lm_pure (As := []) (rest := []) k_Mod_thrown S E hJ kw_Law_52 rfl ⟨(Nat.le_of_ble_eq_true rfl), (Nat.le_of_ble_eq_true rfl)⟩ ⟨(hD.room hJ.2.1.F hk).2.1, (hD.room hJ.2.1.F hk).2.2⟩ rfl hl.1 rfl (Nat.le_of_ble_eq_true rfl) d_Law_law_198 ?_
      refine lv_topi (fun xt ext => ?_)
      obtain rfl : xt = 0 := ext.trans hth
      refine lv_iload hx hb d_Law_law_201 (lv_at hl 1 rfl) ?_
      refine lv_icmp_eq (tgt := 208) hx hb d_Law_law_203 (by decide) (fun c_3 => ?_) (fun c_3 => absurd (rfl) c_3)
      refine lv_iload hx hb d_Law_law_208 (lv_at hl 1 rfl) ?_
      refine lv_if_ne (tgt := 225) hx hb d_Law_law_210 (by decide) (fun c_4 => absurd (by decide) c_4) (fun c_4 => ?_)
      refine lv_aload_n hx hb d_Law_law_213 rfl (lv_at hl 6 rfl) ?_
      refine lv_iconst (v := 0) hx hb d_Law_law_214 (by decide) ?_
      refine lj_lald S E hJ d_Law_law_215 ?_
      refine lv_topl (fun xl exl => ?_)
      obtain rfl : xl = v'.toInt64 := exl.trans hw0
      refine lv_iload hx hb d_Law_law_216 (lv_at hl 0 rfl) ?_
      refine lv_i2l (v := v'.toInt64) hx hb d_Law_law_218 rfl ?_
      refine W.lcmp hx hb d_Law_law_219 ?_
      refine lv_topi (fun xc exc => ?_)
      obtain rfl : xc = 0 := exc.trans (lg_self _)
      refine lv_if_eq (tgt := 225) hx hb d_Law_law_220 (by decide) (fun c_5 => ?_) (fun c_5 => absurd (by decide) c_5)
      refine lv_goto (tgt := 452) hx hb d_Law_law_225 (by decide) ?_
      exact next _ _ _ _ _ _ _ _ _ hLI hJ hD.n0 (lv_sub hl [2, 3, 4, 5, 6] rfl)
    · skip
      refine lv_istore (lv' := [(5, .int 1), (4, .int (nI (6 * k))), (0, .ref b), (1, .ref (kad g.1 0)), (2, .ref (mad g 0)), (3, .ref o)]) hx hb d_Law_law_183 hl (by decide) rfl (fun ls hl => ?_)
      refine lv_aload_n hx hb d_Law_law_185 rfl (lv_at hl 4 rfl) ?_
      refine lv_aload_n hx hb d_Law_law_186 rfl (lv_at hl 2 rfl) ?_
      refine lv_iload hx hb d_Law_law_187 (lv_at hl 1 rfl) ?_
      refine lv_iconst (v := 1) hx hb d_Law_law_189 (by decide) ?_
      refine lv_iadd hx hb d_Law_law_190 ?_
      refine lv_topi (fun i_2 ei_2 => ?_)
      obtain rfl : i_2 = nI (6 * k + 1) := ei_2.trans (nI_add (6 * k) 1)
      refine va_sld hx hb hX0 hbl hbA hJ.2.2 (vp_in_nI (n := 6 * k + 1) (by omega) (by omega)) d_Law_law_191 ?_
      refine lm_call (As := [.int (xs (nI (6 * k + 1)).toNatClampNeg)]) (rest := []) hm (fun x hx => by cases hx; exact k_Mod_end (xs (nI (6 * k + 1)).toNatClampNeg)) S E hJ kw_Law_51 ⟨(Nat.le_of_ble_eq_true rfl), (Nat.le_of_ble_eq_true rfl)⟩ (hD.room hJ.2.1.F hk).1 rfl hl.1 rfl (Nat.le_of_ble_eq_true rfl) d_Law_law_192 (fun H locs hJ => ?_)
      refine lv_istore (lv' := [(6, .int v'), (5, .int 1), (4, .int (nI (6 * k))), (0, .ref b), (1, .ref (kad g.1 0)), (2, .ref (mad g 0)), (3, .ref o)]) hx hb d_Law_law_195 hl (by decide) rfl (fun ls hl => ?_)
      refine lv_aload_n hx hb d_Law_law_197 rfl (lv_at hl 5 rfl) ?_
      refine lm_pure (As := []) (rest := []) k_Mod_thrown S E hJ kw_Law_52 rfl ⟨(Nat.le_of_ble_eq_true rfl), (Nat.le_of_ble_eq_true rfl)⟩ ⟨(hD.room hJ.2.1.F hk).2.1, (hD.room hJ.2.1.F hk).2.2⟩ rfl hl.1 rfl (Nat.le_of_ble_eq_true rfl) d_Law_law_198 ?_
      refine lv_topi (fun xt ext => ?_)
      obtain rfl : xt = 1 := ext.trans hth
      refine lv_iload hx hb d_Law_law_201 (lv_at hl 1 rfl) ?_
      refine lv_icmp_eq (tgt := 208) hx hb d_Law_law_203 (by decide) (fun c_3 => ?_) (fun c_3 => absurd (rfl) c_3)
      refine lv_iload hx hb d_Law_law_208 (lv_at hl 1 rfl) ?_
      refine lv_if_ne (tgt := 225) hx hb d_Law_law_210 (by decide) (fun c_4 => ?_) (fun c_4 => absurd c_4 (by decide))
      refine lv_goto (tgt := 452) hx hb d_Law_law_225 (by decide) ?_
      exact next _ _ _ _ _ _ _ _ _ hLI hJ hD.n0 (lv_sub hl [2, 3, 4, 5, 6] rfl)
  rcases t_end hk hI (xs (nI (6 * k + 1)).toNatClampNeg) with ⟨α', hf, hLI, hv, hth⟩ | ⟨hf, hLI, hth⟩
  · refine ls_call (n0 := 3) (x := (0, α', vp_updL w 0 (xs (nI (6 * k + 1)).toNatClampNeg).toInt64)) (rest := []) (h_end_ok hfl lawN (xs (nI (6 * k + 1)).toNatClampNeg) _ hf) S E hJ vt_1852 vt_1853 vt_1757 vt_1217 ⟨by decide, by decide, by decide +kernel⟩ ⟨(Nat.le_of_ble_eq_true rfl), (Nat.le_of_ble_eq_true rfl)⟩ (hC.room hJ.2.1.F hk).1 rfl hl.1 rfl (Nat.le_of_ble_eq_true rfl) d_Law_law_180 (fun ad1 H1 locs1 k1 n1 h1 h2 hJ => ?_)
    exact tail _ _ _ _ _ _ _ _ _ _ rfl (Or.inl ⟨rfl, hth, pk_uLs.trans (by rw [hv])⟩) hJ (hC.d h1 h2) hLI
  · refine ls_call (n0 := 3) (x := (1, α, w)) (rest := []) (h_end_2 hfl (xs (nI (6 * k + 1)).toNatClampNeg) hf) S E hJ vt_1852 vt_1853 vt_1757 vt_1217 ⟨by decide, by decide, by decide +kernel⟩ ⟨(Nat.le_of_ble_eq_true rfl), (Nat.le_of_ble_eq_true rfl)⟩ (hC.room hJ.2.1.F hk).1 rfl hl.1 rfl (Nat.le_of_ble_eq_true rfl) d_Law_law_180 (fun ad1 H1 locs1 k1 n1 h1 h2 hJ => ?_)
    exact tail _ _ _ _ _ _ _ _ _ _ rfl (Or.inr ⟨rfl, hth⟩) hJ (hC.d h1 h2) hLI
theorem kw_Law_71 : kWv "FamilyKernelLaw" 71 "FamilyKernelModel" y_Mod_constant_2 b_Mod_constant_2 4 (some .int) 2 := ⟨vt_1900, vt_1901, vt_1902, vt_1349, vt_1751, by decide, by decide, by decide +kernel⟩
set_option maxHeartbeats 4000000 in
set_option maxRecDepth 100000 in
theorem law_c_constant (l : Launch) (hfl : kFl l) {p : Program} {e : Env} {s : State} {m : MethodId} {below : List Frame} {meth : Method} {c : Code} {b L : Nat} {xs : Nat → Int32} (C0 : lw_At p s m meth c b L xs) {g : mG} {o : Nat} {A : Nat → Prop} (hAe : A = fun q : Nat => s.heap.size ≤ q) (E : lE g A s) (hL : L ≤ 3072) {k : Nat} (hkL : 6 * k + 6 ≤ L) {α : kS} {ad : Nat → Nat} {β : mS} {w : Nat → Int64} {H : Heap} {locs : List Loc} {ls : Array Slot} {cells slots : Nat} (hI : lTI k α β) (hJ : lJ g o A s α ad β w H locs) (hC : lPC k α cells slots) (hl : lv_has ls 7 [(4, .int (nI (6 * k))), (0, .ref b), (1, .ref (kad g.1 0)), (2, .ref (mad g 0)), (3, .ref o)])
    (next : ∀ (α' : kS) (ad' : Nat → Nat) (β' : mS) (w' : Nat → Int64) (H' : Heap) (locs' : List Loc) (ls' : Array Slot) (cells' slots' : Nat), lTI (k + 1) α' β' → lJ g o A s α' ad' β' w' H' locs' → lPC (k + 1) α' cells' slots' → lv_has ls' 7 [(4, .int (nI (6 * k))), (0, .ref b), (1, .ref (kad g.1 0)), (2, .ref (mad g 0)), (3, .ref o)] → W p l e room_1 s m #[Value.ref b] below meth c H' locs' cells' slots' (lw_Z below #[Value.ref b] s) (F0 m 452 ls' [])) : W p l e room_1 s m #[Value.ref b] below meth c H locs cells slots (lw_Z below #[Value.ref b] s) (F0 m 279 ls []) := by
  obtain ⟨hx, hb, hr, hml, hown, hts, hX0, hbl, hlocks, hgv⟩ := id C0
  have hT : ∀ w ∈ vT, w.before _ s = true := fun w h => hts w (vT_in w h)
  have hbA : ¬ A b := by rw [hAe]; exact Nat.not_le.mpr hbl
  have S : CallFix p m c b_Law_law 7 s #[Value.ref b] vT "FamilyKernelLaw" := ⟨hx, hb, hml, hown, hT⟩
  have hk : k < 512 := by omega
  refine lv_aload_n hx hb d_Law_law_279 rfl (lv_at hl 2 rfl) ?_
  refine lv_aload_n hx hb d_Law_law_280 rfl (lv_at hl 1 rfl) ?_
  refine lv_iload hx hb d_Law_law_281 (lv_at hl 0 rfl) ?_
  refine lv_iconst (v := 1) hx hb d_Law_law_283 (by decide) ?_
  refine lv_iadd hx hb d_Law_law_284 ?_
  refine lv_topi (fun i_1 ei_1 => ?_)
  obtain rfl : i_1 = nI (6 * k + 1) := ei_1.trans (nI_add (6 * k) 1)
  refine va_sld hx hb hX0 hbl hbA hJ.2.2 (vp_in_nI (n := 6 * k + 1) (by omega) (by omega)) d_Law_law_285 ?_
  refine lv_aload_n hx hb d_Law_law_286 rfl (lv_at hl 1 rfl) ?_
  refine lv_iload hx hb d_Law_law_287 (lv_at hl 0 rfl) ?_
  refine lv_iconst (v := 2) hx hb d_Law_law_289 (by decide) ?_
  refine lv_iadd hx hb d_Law_law_290 ?_
  refine lv_topi (fun i_2 ei_2 => ?_)
  obtain rfl : i_2 = nI (6 * k + 2) := ei_2.trans (nI_add (6 * k) 2)
  refine va_sld hx hb hX0 hbl hbA hJ.2.2 (vp_in_nI (n := 6 * k + 2) (by omega) (by omega)) d_Law_law_291 ?_
  refine lv_aload_n hx hb d_Law_law_292 rfl (lv_at hl 4 rfl) ?_
  obtain ⟨v', β', hm, hcs⟩ := t_constant hI (xs (nI (6 * k + 1)).toNatClampNeg) (xs (nI (6 * k + 2)).toNatClampNeg)
  have tail : ∀ (r : Int32) (α' : kS) (ad' : Nat → Nat) (β' : mS) (v' : Int32) (w' : Nat → Int64) (H : Heap) (locs : List Loc) (cells slots : Nat), f_Mod_constant_2 lawN (xs (nI (6 * k + 1)).toNatClampNeg) (xs (nI (6 * k + 2)).toNatClampNeg) β = some (some (some v'), β') → lJ g o A s α' ad' β w' H locs → lPD k α' cells slots → lTI (k + 1) α' β' → W p l e room_1 s m #[Value.ref b] below meth c H locs cells slots (lw_Z below #[Value.ref b] s) (F0 m 296 ls [.int r]) := by
    intro r α' ad' β' v' w' H locs cells slots hm hJ hD hLI
    refine lv_istore (lv' := [(5, .int r), (4, .int (nI (6 * k))), (0, .ref b), (1, .ref (kad g.1 0)), (2, .ref (mad g 0)), (3, .ref o)]) hx hb d_Law_law_296 hl (by decide) rfl (fun ls hl => ?_)
    refine lv_aload_n hx hb d_Law_law_298 rfl (lv_at hl 4 rfl) ?_
    refine lv_aload_n hx hb d_Law_law_299 rfl (lv_at hl 2 rfl) ?_
    refine lv_iload hx hb d_Law_law_300 (lv_at hl 1 rfl) ?_
    refine lv_iconst (v := 1) hx hb d_Law_law_302 (by decide) ?_
    refine lv_iadd hx hb d_Law_law_303 ?_
    refine lv_topi (fun i_3 ei_3 => ?_)
    obtain rfl : i_3 = nI (6 * k + 1) := ei_3.trans (nI_add (6 * k) 1)
    refine va_sld hx hb hX0 hbl hbA hJ.2.2 (vp_in_nI (n := 6 * k + 1) (by omega) (by omega)) d_Law_law_304 ?_
    refine lv_aload_n hx hb d_Law_law_305 rfl (lv_at hl 2 rfl) ?_
    refine lv_iload hx hb d_Law_law_306 (lv_at hl 1 rfl) ?_
    refine lv_iconst (v := 2) hx hb d_Law_law_308 (by decide) ?_
    refine lv_iadd hx hb d_Law_law_309 ?_
    refine lv_topi (fun i_4 ei_4 => ?_)
    obtain rfl : i_4 = nI (6 * k + 2) := ei_4.trans (nI_add (6 * k) 2)
    refine va_sld hx hb hX0 hbl hbA hJ.2.2 (vp_in_nI (n := 6 * k + 2) (by omega) (by omega)) d_Law_law_310 ?_
    refine lm_call (As := [.int (xs (nI (6 * k + 1)).toNatClampNeg), .int (xs (nI (6 * k + 2)).toNatClampNeg)]) (rest := []) hm (k_Mod_constant_2 lawN (xs (nI (6 * k + 1)).toNatClampNeg) (xs (nI (6 * k + 2)).toNatClampNeg)) S E hJ kw_Law_71 ⟨(Nat.le_of_ble_eq_true rfl), (Nat.le_of_ble_eq_true rfl)⟩ (hD.room hJ.2.1.F hk).1 rfl hl.1 rfl (Nat.le_of_ble_eq_true rfl) d_Law_law_311 (fun H locs hJ => ?_)
    refine lv_istore (lv' := [(6, .int v'), (5, .int r), (4, .int (nI (6 * k))), (0, .ref b), (1, .ref (kad g.1 0)), (2, .ref (mad g 0)), (3, .ref o)]) hx hb d_Law_law_314 hl (by decide) rfl (fun ls hl => ?_)
    refine lv_goto (tgt := 452) hx hb d_Law_law_316 (by decide) ?_
    exact next _ _ _ _ _ _ _ _ _ hLI hJ hD.n0 (lv_sub hl [2, 3, 4, 5, 6] rfl)
  rcases hcs with ⟨v, α', hf, hLI⟩ | ⟨hf, hLI⟩ | ⟨hf, hLI⟩
  · refine ls_call (n0 := 4) (x := (0, α', vp_updL w 0 v.toInt64)) (rest := []) (h_constant_ok hfl lawN (xs (nI (6 * k + 1)).toNatClampNeg) (xs (nI (6 * k + 2)).toNatClampNeg) v hf) S E hJ vt_1857 vt_1858 vt_1757 vt_1228 ⟨by decide, by decide, by decide +kernel⟩ ⟨(Nat.le_of_ble_eq_true rfl), (Nat.le_of_ble_eq_true rfl)⟩ (hC.room hJ.2.1.F hk).1 rfl hl.1 rfl (Nat.le_of_ble_eq_true rfl) d_Law_law_293 (fun ad1 H1 locs1 k1 n1 h1 h2 hJ => ?_)
    exact tail _ _ _ _ _ _ _ _ _ _ hm hJ (hC.d h1 h2) hLI
  · refine ls_call (n0 := 4) (x := (1, α, w)) (rest := []) (h_constant_1 hfl (xs (nI (6 * k + 1)).toNatClampNeg) (xs (nI (6 * k + 2)).toNatClampNeg) hf) S E hJ vt_1857 vt_1858 vt_1757 vt_1228 ⟨by decide, by decide, by decide +kernel⟩ ⟨(Nat.le_of_ble_eq_true rfl), (Nat.le_of_ble_eq_true rfl)⟩ (hC.room hJ.2.1.F hk).1 rfl hl.1 rfl (Nat.le_of_ble_eq_true rfl) d_Law_law_293 (fun ad1 H1 locs1 k1 n1 h1 h2 hJ => ?_)
    exact tail _ _ _ _ _ _ _ _ _ _ hm hJ (hC.d h1 h2) hLI
  · refine ls_call (n0 := 4) (x := (2, α, w)) (rest := []) (h_constant_2 hfl (xs (nI (6 * k + 1)).toNatClampNeg) (xs (nI (6 * k + 2)).toNatClampNeg) hf) S E hJ vt_1857 vt_1858 vt_1757 vt_1228 ⟨by decide, by decide, by decide +kernel⟩ ⟨(Nat.le_of_ble_eq_true rfl), (Nat.le_of_ble_eq_true rfl)⟩ (hC.room hJ.2.1.F hk).1 rfl hl.1 rfl (Nat.le_of_ble_eq_true rfl) d_Law_law_293 (fun ad1 H1 locs1 k1 n1 h1 h2 hJ => ?_)
    exact tail _ _ _ _ _ _ _ _ _ _ hm hJ (hC.d h1 h2) hLI
theorem kw_Law_74 : kWv "FamilyKernelLaw" 74 "FamilyKernelModel" y_Mod_show b_Mod_show 3 (some .int) 2 := ⟨vt_1903, vt_1904, vt_1905, vt_1349, vt_1752, by decide, by decide, by decide +kernel⟩
set_option maxHeartbeats 4000000 in
set_option maxRecDepth 100000 in
theorem law_c_show (l : Launch) (hfl : kFl l) {p : Program} {e : Env} {s : State} {m : MethodId} {below : List Frame} {meth : Method} {c : Code} {b L : Nat} {xs : Nat → Int32} (C0 : lw_At p s m meth c b L xs) {g : mG} {o : Nat} {A : Nat → Prop} (hAe : A = fun q : Nat => s.heap.size ≤ q) (E : lE g A s) (hL : L ≤ 3072) {k : Nat} (hkL : 6 * k + 6 ≤ L) {α : kS} {ad : Nat → Nat} {β : mS} {w : Nat → Int64} {H : Heap} {locs : List Loc} {ls : Array Slot} {cells slots : Nat} (hI : lTI k α β) (hJ : lJ g o A s α ad β w H locs) (hC : lPC k α cells slots) (hl : lv_has ls 7 [(4, .int (nI (6 * k))), (0, .ref b), (1, .ref (kad g.1 0)), (2, .ref (mad g 0)), (3, .ref o)])
    (next : ∀ (α' : kS) (ad' : Nat → Nat) (β' : mS) (w' : Nat → Int64) (H' : Heap) (locs' : List Loc) (ls' : Array Slot) (cells' slots' : Nat), lTI (k + 1) α' β' → lJ g o A s α' ad' β' w' H' locs' → lPC (k + 1) α' cells' slots' → lv_has ls' 7 [(4, .int (nI (6 * k))), (0, .ref b), (1, .ref (kad g.1 0)), (2, .ref (mad g 0)), (3, .ref o)] → W p l e room_1 s m #[Value.ref b] below meth c H' locs' cells' slots' (lw_Z below #[Value.ref b] s) (F0 m 452 ls' [])) : W p l e room_1 s m #[Value.ref b] below meth c H locs cells slots (lw_Z below #[Value.ref b] s) (F0 m 319 ls []) := by
  obtain ⟨hx, hb, hr, hml, hown, hts, hX0, hbl, hlocks, hgv⟩ := id C0
  have hT : ∀ w ∈ vT, w.before _ s = true := fun w h => hts w (vT_in w h)
  have hbA : ¬ A b := by rw [hAe]; exact Nat.not_le.mpr hbl
  have S : CallFix p m c b_Law_law 7 s #[Value.ref b] vT "FamilyKernelLaw" := ⟨hx, hb, hml, hown, hT⟩
  have hk : k < 512 := by omega
  refine lv_aload_n hx hb d_Law_law_319 rfl (lv_at hl 2 rfl) ?_
  refine lv_aload_n hx hb d_Law_law_320 rfl (lv_at hl 1 rfl) ?_
  refine lv_iload hx hb d_Law_law_321 (lv_at hl 0 rfl) ?_
  refine lv_iconst (v := 1) hx hb d_Law_law_323 (by decide) ?_
  refine lv_iadd hx hb d_Law_law_324 ?_
  refine lv_topi (fun i_1 ei_1 => ?_)
  obtain rfl : i_1 = nI (6 * k + 1) := ei_1.trans (nI_add (6 * k) 1)
  refine va_sld hx hb hX0 hbl hbA hJ.2.2 (vp_in_nI (n := 6 * k + 1) (by omega) (by omega)) d_Law_law_325 ?_
  refine lv_aload_n hx hb d_Law_law_326 rfl (lv_at hl 1 rfl) ?_
  refine lv_iload hx hb d_Law_law_327 (lv_at hl 0 rfl) ?_
  refine lv_iconst (v := 2) hx hb d_Law_law_329 (by decide) ?_
  refine lv_iadd hx hb d_Law_law_330 ?_
  refine lv_topi (fun i_2 ei_2 => ?_)
  obtain rfl : i_2 = nI (6 * k + 2) := ei_2.trans (nI_add (6 * k) 2)
  refine va_sld hx hb hX0 hbl hbA hJ.2.2 (vp_in_nI (n := 6 * k + 2) (by omega) (by omega)) d_Law_law_331 ?_
  refine lv_aload_n hx hb d_Law_law_332 rfl (lv_at hl 4 rfl) ?_
  obtain ⟨v', β', hm, hcs⟩ := t_show hI (xs (nI (6 * k + 1)).toNatClampNeg) (xs (nI (6 * k + 2)).toNatClampNeg)
  have tail : ∀ (r : Int32) (α' : kS) (ad' : Nat → Nat) (β' : mS) (v' : Int32) (w' : Nat → Int64) (H : Heap) (locs : List Loc) (cells slots : Nat), f_Mod_show lawN (xs (nI (6 * k + 1)).toNatClampNeg) (xs (nI (6 * k + 2)).toNatClampNeg) β = some (some (some v'), β') → lJ g o A s α' ad' β w' H locs → lPD k α' cells slots → lTI (k + 1) α' β' → W p l e room_1 s m #[Value.ref b] below meth c H locs cells slots (lw_Z below #[Value.ref b] s) (F0 m 336 ls [.int r]) := by
    intro r α' ad' β' v' w' H locs cells slots hm hJ hD hLI
    refine lv_istore (lv' := [(5, .int r), (4, .int (nI (6 * k))), (0, .ref b), (1, .ref (kad g.1 0)), (2, .ref (mad g 0)), (3, .ref o)]) hx hb d_Law_law_336 hl (by decide) rfl (fun ls hl => ?_)
    refine lv_aload_n hx hb d_Law_law_338 rfl (lv_at hl 4 rfl) ?_
    refine lv_aload_n hx hb d_Law_law_339 rfl (lv_at hl 2 rfl) ?_
    refine lv_iload hx hb d_Law_law_340 (lv_at hl 1 rfl) ?_
    refine lv_iconst (v := 1) hx hb d_Law_law_342 (by decide) ?_
    refine lv_iadd hx hb d_Law_law_343 ?_
    refine lv_topi (fun i_3 ei_3 => ?_)
    obtain rfl : i_3 = nI (6 * k + 1) := ei_3.trans (nI_add (6 * k) 1)
    refine va_sld hx hb hX0 hbl hbA hJ.2.2 (vp_in_nI (n := 6 * k + 1) (by omega) (by omega)) d_Law_law_344 ?_
    refine lv_aload_n hx hb d_Law_law_345 rfl (lv_at hl 2 rfl) ?_
    refine lv_iload hx hb d_Law_law_346 (lv_at hl 1 rfl) ?_
    refine lv_iconst (v := 2) hx hb d_Law_law_348 (by decide) ?_
    refine lv_iadd hx hb d_Law_law_349 ?_
    refine lv_topi (fun i_4 ei_4 => ?_)
    obtain rfl : i_4 = nI (6 * k + 2) := ei_4.trans (nI_add (6 * k) 2)
    refine va_sld hx hb hX0 hbl hbA hJ.2.2 (vp_in_nI (n := 6 * k + 2) (by omega) (by omega)) d_Law_law_350 ?_
    refine lm_call (As := [.int (xs (nI (6 * k + 1)).toNatClampNeg), .int (xs (nI (6 * k + 2)).toNatClampNeg)]) (rest := []) hm (k_Mod_show lawN (xs (nI (6 * k + 1)).toNatClampNeg) (xs (nI (6 * k + 2)).toNatClampNeg)) S E hJ kw_Law_74 ⟨(Nat.le_of_ble_eq_true rfl), (Nat.le_of_ble_eq_true rfl)⟩ (hD.room hJ.2.1.F hk).1 rfl hl.1 rfl (Nat.le_of_ble_eq_true rfl) d_Law_law_351 (fun H locs hJ => ?_)
    refine lv_istore (lv' := [(6, .int v'), (5, .int r), (4, .int (nI (6 * k))), (0, .ref b), (1, .ref (kad g.1 0)), (2, .ref (mad g 0)), (3, .ref o)]) hx hb d_Law_law_354 hl (by decide) rfl (fun ls hl => ?_)
    refine lv_goto (tgt := 452) hx hb d_Law_law_356 (by decide) ?_
    exact next _ _ _ _ _ _ _ _ _ hLI hJ hD.n0 (lv_sub hl [2, 3, 4, 5, 6] rfl)
  rcases hcs with ⟨v, α', hf, hLI⟩ | ⟨hf, hLI⟩ | ⟨hf, hLI⟩
  · refine ls_call (n0 := 4) (x := (0, α', vp_updL w 0 v.toInt64)) (rest := []) (h_show_ok hfl lawN (xs (nI (6 * k + 1)).toNatClampNeg) (xs (nI (6 * k + 2)).toNatClampNeg) v hf) S E hJ vt_1862 vt_1863 vt_1757 vt_1240 ⟨by decide, by decide, by decide +kernel⟩ ⟨(Nat.le_of_ble_eq_true rfl), (Nat.le_of_ble_eq_true rfl)⟩ (hC.room hJ.2.1.F hk).1 rfl hl.1 rfl (Nat.le_of_ble_eq_true rfl) d_Law_law_333 (fun ad1 H1 locs1 k1 n1 h1 h2 hJ => ?_)
    exact tail _ _ _ _ _ _ _ _ _ _ hm hJ (hC.d h1 h2) hLI
  · refine ls_call (n0 := 4) (x := (1, α, w)) (rest := []) (h_show_1 hfl (xs (nI (6 * k + 1)).toNatClampNeg) (xs (nI (6 * k + 2)).toNatClampNeg) hf) S E hJ vt_1862 vt_1863 vt_1757 vt_1240 ⟨by decide, by decide, by decide +kernel⟩ ⟨(Nat.le_of_ble_eq_true rfl), (Nat.le_of_ble_eq_true rfl)⟩ (hC.room hJ.2.1.F hk).1 rfl hl.1 rfl (Nat.le_of_ble_eq_true rfl) d_Law_law_333 (fun ad1 H1 locs1 k1 n1 h1 h2 hJ => ?_)
    exact tail _ _ _ _ _ _ _ _ _ _ hm hJ (hC.d h1 h2) hLI
  · refine ls_call (n0 := 4) (x := (2, α, w)) (rest := []) (h_show_2 hfl (xs (nI (6 * k + 1)).toNatClampNeg) (xs (nI (6 * k + 2)).toNatClampNeg) hf) S E hJ vt_1862 vt_1863 vt_1757 vt_1240 ⟨by decide, by decide, by decide +kernel⟩ ⟨(Nat.le_of_ble_eq_true rfl), (Nat.le_of_ble_eq_true rfl)⟩ (hC.room hJ.2.1.F hk).1 rfl hl.1 rfl (Nat.le_of_ble_eq_true rfl) d_Law_law_333 (fun ad1 H1 locs1 k1 n1 h1 h2 hJ => ?_)
    exact tail _ _ _ _ _ _ _ _ _ _ hm hJ (hC.d h1 h2) hLI
theorem kw_Law_77 : kWv "FamilyKernelLaw" 77 "FamilyKernelModel" y_Mod_showRec b_Mod_showRec 4 (some .int) 2 := ⟨vt_1906, vt_1907, vt_1908, vt_1349, vt_1753, by decide, by decide, by decide +kernel⟩
set_option maxHeartbeats 4000000 in
set_option maxRecDepth 100000 in
theorem law_c_showRec (l : Launch) (hfl : kFl l) {p : Program} {e : Env} {s : State} {m : MethodId} {below : List Frame} {meth : Method} {c : Code} {b L : Nat} {xs : Nat → Int32} (C0 : lw_At p s m meth c b L xs) {g : mG} {o : Nat} {A : Nat → Prop} (hAe : A = fun q : Nat => s.heap.size ≤ q) (E : lE g A s) (hL : L ≤ 3072) {k : Nat} (hkL : 6 * k + 6 ≤ L) {α : kS} {ad : Nat → Nat} {β : mS} {w : Nat → Int64} {H : Heap} {locs : List Loc} {ls : Array Slot} {cells slots : Nat} (hI : lTI k α β) (hJ : lJ g o A s α ad β w H locs) (hC : lPC k α cells slots) (hl : lv_has ls 7 [(4, .int (nI (6 * k))), (0, .ref b), (1, .ref (kad g.1 0)), (2, .ref (mad g 0)), (3, .ref o)])
    (next : ∀ (α' : kS) (ad' : Nat → Nat) (β' : mS) (w' : Nat → Int64) (H' : Heap) (locs' : List Loc) (ls' : Array Slot) (cells' slots' : Nat), lTI (k + 1) α' β' → lJ g o A s α' ad' β' w' H' locs' → lPC (k + 1) α' cells' slots' → lv_has ls' 7 [(4, .int (nI (6 * k))), (0, .ref b), (1, .ref (kad g.1 0)), (2, .ref (mad g 0)), (3, .ref o)] → W p l e room_1 s m #[Value.ref b] below meth c H' locs' cells' slots' (lw_Z below #[Value.ref b] s) (F0 m 452 ls' [])) : W p l e room_1 s m #[Value.ref b] below meth c H locs cells slots (lw_Z below #[Value.ref b] s) (F0 m 359 ls []) := by
  obtain ⟨hx, hb, hr, hml, hown, hts, hX0, hbl, hlocks, hgv⟩ := id C0
  have hT : ∀ w ∈ vT, w.before _ s = true := fun w h => hts w (vT_in w h)
  have hbA : ¬ A b := by rw [hAe]; exact Nat.not_le.mpr hbl
  have S : CallFix p m c b_Law_law 7 s #[Value.ref b] vT "FamilyKernelLaw" := ⟨hx, hb, hml, hown, hT⟩
  have hk : k < 512 := by omega
  refine lv_aload_n hx hb d_Law_law_359 rfl (lv_at hl 2 rfl) ?_
  refine lv_aload_n hx hb d_Law_law_360 rfl (lv_at hl 1 rfl) ?_
  refine lv_iload hx hb d_Law_law_361 (lv_at hl 0 rfl) ?_
  refine lv_iconst (v := 1) hx hb d_Law_law_363 (by decide) ?_
  refine lv_iadd hx hb d_Law_law_364 ?_
  refine lv_topi (fun i_1 ei_1 => ?_)
  obtain rfl : i_1 = nI (6 * k + 1) := ei_1.trans (nI_add (6 * k) 1)
  refine va_sld hx hb hX0 hbl hbA hJ.2.2 (vp_in_nI (n := 6 * k + 1) (by omega) (by omega)) d_Law_law_365 ?_
  refine lv_aload_n hx hb d_Law_law_366 rfl (lv_at hl 1 rfl) ?_
  refine lv_iload hx hb d_Law_law_367 (lv_at hl 0 rfl) ?_
  refine lv_iconst (v := 2) hx hb d_Law_law_369 (by decide) ?_
  refine lv_iadd hx hb d_Law_law_370 ?_
  refine lv_topi (fun i_2 ei_2 => ?_)
  obtain rfl : i_2 = nI (6 * k + 2) := ei_2.trans (nI_add (6 * k) 2)
  refine va_sld hx hb hX0 hbl hbA hJ.2.2 (vp_in_nI (n := 6 * k + 2) (by omega) (by omega)) d_Law_law_371 ?_
  refine lv_aload_n hx hb d_Law_law_372 rfl (lv_at hl 4 rfl) ?_
  obtain ⟨v', β', hm, hcs⟩ := t_showRec hI (xs (nI (6 * k + 1)).toNatClampNeg) (xs (nI (6 * k + 2)).toNatClampNeg)
  have tail : ∀ (r : Int32) (α' : kS) (ad' : Nat → Nat) (β' : mS) (v' : Int32) (w' : Nat → Int64) (H : Heap) (locs : List Loc) (cells slots : Nat), f_Mod_showRec lawN (xs (nI (6 * k + 1)).toNatClampNeg) (xs (nI (6 * k + 2)).toNatClampNeg) β = some (some (some v'), β') → lJ g o A s α' ad' β w' H locs → lPD k α' cells slots → lTI (k + 1) α' β' → W p l e room_1 s m #[Value.ref b] below meth c H locs cells slots (lw_Z below #[Value.ref b] s) (F0 m 376 ls [.int r]) := by
    intro r α' ad' β' v' w' H locs cells slots hm hJ hD hLI
    refine lv_istore (lv' := [(5, .int r), (4, .int (nI (6 * k))), (0, .ref b), (1, .ref (kad g.1 0)), (2, .ref (mad g 0)), (3, .ref o)]) hx hb d_Law_law_376 hl (by decide) rfl (fun ls hl => ?_)
    refine lv_aload_n hx hb d_Law_law_378 rfl (lv_at hl 4 rfl) ?_
    refine lv_aload_n hx hb d_Law_law_379 rfl (lv_at hl 2 rfl) ?_
    refine lv_iload hx hb d_Law_law_380 (lv_at hl 1 rfl) ?_
    refine lv_iconst (v := 1) hx hb d_Law_law_382 (by decide) ?_
    refine lv_iadd hx hb d_Law_law_383 ?_
    refine lv_topi (fun i_3 ei_3 => ?_)
    obtain rfl : i_3 = nI (6 * k + 1) := ei_3.trans (nI_add (6 * k) 1)
    refine va_sld hx hb hX0 hbl hbA hJ.2.2 (vp_in_nI (n := 6 * k + 1) (by omega) (by omega)) d_Law_law_384 ?_
    refine lv_aload_n hx hb d_Law_law_385 rfl (lv_at hl 2 rfl) ?_
    refine lv_iload hx hb d_Law_law_386 (lv_at hl 1 rfl) ?_
    refine lv_iconst (v := 2) hx hb d_Law_law_388 (by decide) ?_
    refine lv_iadd hx hb d_Law_law_389 ?_
    refine lv_topi (fun i_4 ei_4 => ?_)
    obtain rfl : i_4 = nI (6 * k + 2) := ei_4.trans (nI_add (6 * k) 2)
    refine va_sld hx hb hX0 hbl hbA hJ.2.2 (vp_in_nI (n := 6 * k + 2) (by omega) (by omega)) d_Law_law_390 ?_
    refine lm_call (As := [.int (xs (nI (6 * k + 1)).toNatClampNeg), .int (xs (nI (6 * k + 2)).toNatClampNeg)]) (rest := []) hm (k_Mod_showRec lawN (xs (nI (6 * k + 1)).toNatClampNeg) (xs (nI (6 * k + 2)).toNatClampNeg)) S E hJ kw_Law_77 ⟨(Nat.le_of_ble_eq_true rfl), (Nat.le_of_ble_eq_true rfl)⟩ (hD.room hJ.2.1.F hk).1 rfl hl.1 rfl (Nat.le_of_ble_eq_true rfl) d_Law_law_391 (fun H locs hJ => ?_)
    refine lv_istore (lv' := [(6, .int v'), (5, .int r), (4, .int (nI (6 * k))), (0, .ref b), (1, .ref (kad g.1 0)), (2, .ref (mad g 0)), (3, .ref o)]) hx hb d_Law_law_394 hl (by decide) rfl (fun ls hl => ?_)
    refine lv_goto (tgt := 452) hx hb d_Law_law_396 (by decide) ?_
    exact next _ _ _ _ _ _ _ _ _ hLI hJ hD.n0 (lv_sub hl [2, 3, 4, 5, 6] rfl)
  rcases hcs with ⟨v, α', hf, hLI⟩ | ⟨hf, hLI⟩
  · refine ls_call (n0 := 4) (x := (0, α', vp_updL w 0 v.toInt64)) (rest := []) (h_showRec_ok hfl lawN (xs (nI (6 * k + 1)).toNatClampNeg) (xs (nI (6 * k + 2)).toNatClampNeg) v hf) S E hJ vt_1864 vt_1865 vt_1757 vt_1249 ⟨by decide, by decide, by decide +kernel⟩ ⟨(Nat.le_of_ble_eq_true rfl), (Nat.le_of_ble_eq_true rfl)⟩ (hC.room hJ.2.1.F hk).1 rfl hl.1 rfl (Nat.le_of_ble_eq_true rfl) d_Law_law_373 (fun ad1 H1 locs1 k1 n1 h1 h2 hJ => ?_)
    exact tail _ _ _ _ _ _ _ _ _ _ hm hJ (hC.d h1 h2) hLI
  · refine ls_call (n0 := 4) (x := (1, α, w)) (rest := []) (h_showRec_1 hfl (xs (nI (6 * k + 1)).toNatClampNeg) (xs (nI (6 * k + 2)).toNatClampNeg) hf) S E hJ vt_1864 vt_1865 vt_1757 vt_1249 ⟨by decide, by decide, by decide +kernel⟩ ⟨(Nat.le_of_ble_eq_true rfl), (Nat.le_of_ble_eq_true rfl)⟩ (hC.room hJ.2.1.F hk).1 rfl hl.1 rfl (Nat.le_of_ble_eq_true rfl) d_Law_law_373 (fun ad1 H1 locs1 k1 n1 h1 h2 hJ => ?_)
    exact tail _ _ _ _ _ _ _ _ _ _ hm hJ (hC.d h1 h2) hLI
theorem kw_Law_80 : kWv "FamilyKernelLaw" 80 "FamilyKernelModel" y_Mod_out b_Mod_out 2 (some .int) 1 := ⟨vt_1909, vt_1910, vt_1911, vt_1349, vt_1754, by decide, by decide, by decide +kernel⟩
set_option maxHeartbeats 4000000 in
set_option maxRecDepth 100000 in
theorem law_c_out (l : Launch) (hfl : kFl l) {p : Program} {e : Env} {s : State} {m : MethodId} {below : List Frame} {meth : Method} {c : Code} {b L : Nat} {xs : Nat → Int32} (C0 : lw_At p s m meth c b L xs) {g : mG} {o : Nat} {A : Nat → Prop} (hAe : A = fun q : Nat => s.heap.size ≤ q) (E : lE g A s) (hL : L ≤ 3072) {k : Nat} (hkL : 6 * k + 6 ≤ L) {α : kS} {ad : Nat → Nat} {β : mS} {w : Nat → Int64} {H : Heap} {locs : List Loc} {ls : Array Slot} {cells slots : Nat} (hI : lTI k α β) (hJ : lJ g o A s α ad β w H locs) (hC : lPC k α cells slots) (hl : lv_has ls 7 [(4, .int (nI (6 * k))), (0, .ref b), (1, .ref (kad g.1 0)), (2, .ref (mad g 0)), (3, .ref o)])
    (next : ∀ (α' : kS) (ad' : Nat → Nat) (β' : mS) (w' : Nat → Int64) (H' : Heap) (locs' : List Loc) (ls' : Array Slot) (cells' slots' : Nat), lTI (k + 1) α' β' → lJ g o A s α' ad' β' w' H' locs' → lPC (k + 1) α' cells' slots' → lv_has ls' 7 [(4, .int (nI (6 * k))), (0, .ref b), (1, .ref (kad g.1 0)), (2, .ref (mad g 0)), (3, .ref o)] → W p l e room_1 s m #[Value.ref b] below meth c H' locs' cells' slots' (lw_Z below #[Value.ref b] s) (F0 m 452 ls' [])) : W p l e room_1 s m #[Value.ref b] below meth c H locs cells slots (lw_Z below #[Value.ref b] s) (F0 m 399 ls []) := by
  obtain ⟨hx, hb, hr, hml, hown, hts, hX0, hbl, hlocks, hgv⟩ := id C0
  have hT : ∀ w ∈ vT, w.before _ s = true := fun w h => hts w (vT_in w h)
  have hbA : ¬ A b := by rw [hAe]; exact Nat.not_le.mpr hbl
  have S : CallFix p m c b_Law_law 7 s #[Value.ref b] vT "FamilyKernelLaw" := ⟨hx, hb, hml, hown, hT⟩
  have hk : k < 512 := by omega
  refine lv_aload_n hx hb d_Law_law_399 rfl (lv_at hl 2 rfl) ?_
  refine lv_aload_n hx hb d_Law_law_400 rfl (lv_at hl 1 rfl) ?_
  refine lv_iload hx hb d_Law_law_401 (lv_at hl 0 rfl) ?_
  refine lv_iconst (v := 1) hx hb d_Law_law_403 (by decide) ?_
  refine lv_iadd hx hb d_Law_law_404 ?_
  refine lv_topi (fun i_1 ei_1 => ?_)
  obtain rfl : i_1 = nI (6 * k + 1) := ei_1.trans (nI_add (6 * k) 1)
  refine va_sld hx hb hX0 hbl hbA hJ.2.2 (vp_in_nI (n := 6 * k + 1) (by omega) (by omega)) d_Law_law_405 ?_
  refine lv_aload_n hx hb d_Law_law_406 rfl (lv_at hl 4 rfl) ?_
  obtain ⟨v', β', hm, hcs⟩ := t_out hI (xs (nI (6 * k + 1)).toNatClampNeg)
  have tail : ∀ (r : Int32) (α' : kS) (ad' : Nat → Nat) (β' : mS) (v' : Int32) (w' : Nat → Int64) (H : Heap) (locs : List Loc) (cells slots : Nat), f_Mod_out lawN (xs (nI (6 * k + 1)).toNatClampNeg) β = some (some (some v'), β') → lJ g o A s α' ad' β w' H locs → lPD k α' cells slots → lTI (k + 1) α' β' → W p l e room_1 s m #[Value.ref b] below meth c H locs cells slots (lw_Z below #[Value.ref b] s) (F0 m 410 ls [.int r]) := by
    intro r α' ad' β' v' w' H locs cells slots hm hJ hD hLI
    refine lv_istore (lv' := [(5, .int r), (4, .int (nI (6 * k))), (0, .ref b), (1, .ref (kad g.1 0)), (2, .ref (mad g 0)), (3, .ref o)]) hx hb d_Law_law_410 hl (by decide) rfl (fun ls hl => ?_)
    refine lv_aload_n hx hb d_Law_law_412 rfl (lv_at hl 4 rfl) ?_
    refine lv_aload_n hx hb d_Law_law_413 rfl (lv_at hl 2 rfl) ?_
    refine lv_iload hx hb d_Law_law_414 (lv_at hl 1 rfl) ?_
    refine lv_iconst (v := 1) hx hb d_Law_law_416 (by decide) ?_
    refine lv_iadd hx hb d_Law_law_417 ?_
    refine lv_topi (fun i_2 ei_2 => ?_)
    obtain rfl : i_2 = nI (6 * k + 1) := ei_2.trans (nI_add (6 * k) 1)
    refine va_sld hx hb hX0 hbl hbA hJ.2.2 (vp_in_nI (n := 6 * k + 1) (by omega) (by omega)) d_Law_law_418 ?_
    refine lm_call (As := [.int (xs (nI (6 * k + 1)).toNatClampNeg)]) (rest := []) hm (k_Mod_out lawN (xs (nI (6 * k + 1)).toNatClampNeg)) S E hJ kw_Law_80 ⟨(Nat.le_of_ble_eq_true rfl), (Nat.le_of_ble_eq_true rfl)⟩ (hD.room hJ.2.1.F hk).1 rfl hl.1 rfl (Nat.le_of_ble_eq_true rfl) d_Law_law_419 (fun H locs hJ => ?_)
    refine lv_istore (lv' := [(6, .int v'), (5, .int r), (4, .int (nI (6 * k))), (0, .ref b), (1, .ref (kad g.1 0)), (2, .ref (mad g 0)), (3, .ref o)]) hx hb d_Law_law_422 hl (by decide) rfl (fun ls hl => ?_)
    refine lv_goto (tgt := 452) hx hb d_Law_law_424 (by decide) ?_
    exact next _ _ _ _ _ _ _ _ _ hLI hJ hD.n0 (lv_sub hl [2, 3, 4, 5, 6] rfl)
  rcases hcs with ⟨v, α', hf, hLI⟩ | ⟨hf, hLI⟩
  · refine ls_call (n0 := 3) (x := (0, α', vp_updL w 0 v.toInt64)) (rest := []) (h_out_ok hfl lawN (xs (nI (6 * k + 1)).toNatClampNeg) v hf) S E hJ vt_1866 vt_1867 vt_1757 vt_1255 ⟨by decide, by decide, by decide +kernel⟩ ⟨(Nat.le_of_ble_eq_true rfl), (Nat.le_of_ble_eq_true rfl)⟩ (hC.room hJ.2.1.F hk).1 rfl hl.1 rfl (Nat.le_of_ble_eq_true rfl) d_Law_law_407 (fun ad1 H1 locs1 k1 n1 h1 h2 hJ => ?_)
    exact tail _ _ _ _ _ _ _ _ _ _ hm hJ (hC.d h1 h2) hLI
  · refine ls_call (n0 := 3) (x := (1, α, w)) (rest := []) (h_out_3 hfl (xs (nI (6 * k + 1)).toNatClampNeg) hf) S E hJ vt_1866 vt_1867 vt_1757 vt_1255 ⟨by decide, by decide, by decide +kernel⟩ ⟨(Nat.le_of_ble_eq_true rfl), (Nat.le_of_ble_eq_true rfl)⟩ (hC.room hJ.2.1.F hk).1 rfl hl.1 rfl (Nat.le_of_ble_eq_true rfl) d_Law_law_407 (fun ad1 H1 locs1 k1 n1 h1 h2 hJ => ?_)
    exact tail _ _ _ _ _ _ _ _ _ _ hm hJ (hC.d h1 h2) hLI
set_option maxHeartbeats 4000000 in
set_option maxRecDepth 100000 in
theorem law_c_read (l : Launch) (hfl : kFl l) {p : Program} {e : Env} {s : State} {m : MethodId} {below : List Frame} {meth : Method} {c : Code} {b L : Nat} {xs : Nat → Int32} (C0 : lw_At p s m meth c b L xs) {g : mG} {o : Nat} {A : Nat → Prop} (hAe : A = fun q : Nat => s.heap.size ≤ q) (E : lE g A s) (hL : L ≤ 3072) {k : Nat} (hkL : 6 * k + 6 ≤ L) {α : kS} {ad : Nat → Nat} {β : mS} {w : Nat → Int64} {H : Heap} {locs : List Loc} {ls : Array Slot} {cells slots : Nat} (hI : lTI k α β) (hJ : lJ g o A s α ad β w H locs) (hC : lPC k α cells slots) (hl : lv_has ls 7 [(4, .int (nI (6 * k))), (0, .ref b), (1, .ref (kad g.1 0)), (2, .ref (mad g 0)), (3, .ref o)])
    (next : ∀ (α' : kS) (ad' : Nat → Nat) (β' : mS) (w' : Nat → Int64) (H' : Heap) (locs' : List Loc) (ls' : Array Slot) (cells' slots' : Nat), lTI (k + 1) α' β' → lJ g o A s α' ad' β' w' H' locs' → lPC (k + 1) α' cells' slots' → lv_has ls' 7 [(4, .int (nI (6 * k))), (0, .ref b), (1, .ref (kad g.1 0)), (2, .ref (mad g 0)), (3, .ref o)] → W p l e room_1 s m #[Value.ref b] below meth c H' locs' cells' slots' (lw_Z below #[Value.ref b] s) (F0 m 452 ls' [])) : W p l e room_1 s m #[Value.ref b] below meth c H locs cells slots (lw_Z below #[Value.ref b] s) (F0 m 228 ls []) := by
  obtain ⟨hx, hb, hr, hml, hown, hts, hX0, hbl, hlocks, hgv⟩ := id C0
  have hT : ∀ w ∈ vT, w.before _ s = true := fun w h => hts w (vT_in w h)
  have hbA : ¬ A b := by rw [hAe]; exact Nat.not_le.mpr hbl
  have S : CallFix p m c b_Law_law 7 s #[Value.ref b] vT "FamilyKernelLaw" := ⟨hx, hb, hml, hown, hT⟩
  have hk : k < 512 := by omega
  obtain ⟨x, y, hf, hm, hLI⟩ := t_read hk hI
  refine lv_aload_n hx hb d_Law_law_228 rfl (lv_at hl 2 rfl) ?_
  refine lk_read (rest := []) (k_Ker_read hfl lawN x hf) S E hJ vt_1767 vt_1768 vt_1769 vt_201 vt_235 ⟨by decide, by decide, by decide +kernel⟩ ⟨(Nat.le_of_ble_eq_true rfl), (Nat.le_of_ble_eq_true rfl)⟩ (hC.room hJ.2.1.F hk).1 hl.1 (Nat.le_of_ble_eq_true rfl) d_Law_law_229 (fun ad1 H locs k1 n1 h1 h2 hJ => ?_)
  have hD := hC.d h1 h2
  refine lv_pop hx hb d_Law_law_232 rfl ?_
  refine lv_aload_n hx hb d_Law_law_233 rfl (lv_at hl 3 rfl) ?_
  refine lm_read (rest := []) (k_Mod_read lawN y hm) S E hJ vt_1884 vt_1885 vt_1886 vt_1349 vt_1365 ⟨by decide, by decide, by decide +kernel⟩ ⟨(Nat.le_of_ble_eq_true rfl), (Nat.le_of_ble_eq_true rfl)⟩ (hD.room hJ.2.1.F hk).1 hl.1 (Nat.le_of_ble_eq_true rfl) d_Law_law_234 (fun H locs k2 n2 h3 h4 hJ => ?_)
  refine lv_pop hx hb d_Law_law_237 rfl ?_
  refine lv_goto (tgt := 452) hx hb d_Law_law_238 (by decide) ?_
  exact next _ _ _ _ _ _ _ _ _ hLI hJ (hD.n h3 h4) (lv_sub hl [0, 1, 2, 3, 4] rfl)
theorem kw_Law_60 : kWv "FamilyKernelLaw" 60 "FamilyKernel" y_Ker_fault b_Ker_fault 2 (some .int) 1 := ⟨vt_1840, vt_1841, vt_1842, vt_201, vt_1192, by decide, by decide, by decide +kernel⟩
theorem kw_Law_63 : kWv "FamilyKernelLaw" 63 "FamilyKernelModel" y_Mod_fault b_Mod_fault 2 (some .int) 1 := ⟨vt_1894, vt_1895, vt_1896, vt_1349, vt_1745, by decide, by decide, by decide +kernel⟩
set_option maxHeartbeats 4000000 in
set_option maxRecDepth 100000 in
theorem law_c_fault (l : Launch) (hfl : kFl l) {p : Program} {e : Env} {s : State} {m : MethodId} {below : List Frame} {meth : Method} {c : Code} {b L : Nat} {xs : Nat → Int32} (C0 : lw_At p s m meth c b L xs) {g : mG} {o : Nat} {A : Nat → Prop} (hAe : A = fun q : Nat => s.heap.size ≤ q) (E : lE g A s) (hL : L ≤ 3072) {k : Nat} (hkL : 6 * k + 6 ≤ L) {α : kS} {ad : Nat → Nat} {β : mS} {w : Nat → Int64} {H : Heap} {locs : List Loc} {ls : Array Slot} {cells slots : Nat} (hI : lTI k α β) (hJ : lJ g o A s α ad β w H locs) (hC : lPC k α cells slots) (hl : lv_has ls 7 [(4, .int (nI (6 * k))), (0, .ref b), (1, .ref (kad g.1 0)), (2, .ref (mad g 0)), (3, .ref o)])
    (next : ∀ (α' : kS) (ad' : Nat → Nat) (β' : mS) (w' : Nat → Int64) (H' : Heap) (locs' : List Loc) (ls' : Array Slot) (cells' slots' : Nat), lTI (k + 1) α' β' → lJ g o A s α' ad' β' w' H' locs' → lPC (k + 1) α' cells' slots' → lv_has ls' 7 [(4, .int (nI (6 * k))), (0, .ref b), (1, .ref (kad g.1 0)), (2, .ref (mad g 0)), (3, .ref o)] → W p l e room_1 s m #[Value.ref b] below meth c H' locs' cells' slots' (lw_Z below #[Value.ref b] s) (F0 m 452 ls' [])) : W p l e room_1 s m #[Value.ref b] below meth c H locs cells slots (lw_Z below #[Value.ref b] s) (F0 m 241 ls []) := by
  obtain ⟨hx, hb, hr, hml, hown, hts, hX0, hbl, hlocks, hgv⟩ := id C0
  have hT : ∀ w ∈ vT, w.before _ s = true := fun w h => hts w (vT_in w h)
  have hbA : ¬ A b := by rw [hAe]; exact Nat.not_le.mpr hbl
  have S : CallFix p m c b_Law_law 7 s #[Value.ref b] vT "FamilyKernelLaw" := ⟨hx, hb, hml, hown, hT⟩
  have hk : k < 512 := by omega
  refine lv_aload_n hx hb d_Law_law_241 rfl (lv_at hl 2 rfl) ?_
  refine lv_aload_n hx hb d_Law_law_242 rfl (lv_at hl 1 rfl) ?_
  refine lv_iload hx hb d_Law_law_243 (lv_at hl 0 rfl) ?_
  refine lv_iconst (v := 1) hx hb d_Law_law_245 (by decide) ?_
  refine lv_iadd hx hb d_Law_law_246 ?_
  refine lv_topi (fun i_1 ei_1 => ?_)
  obtain rfl : i_1 = nI (6 * k + 1) := ei_1.trans (nI_add (6 * k) 1)
  refine va_sld hx hb hX0 hbl hbA hJ.2.2 (vp_in_nI (n := 6 * k + 1) (by omega) (by omega)) d_Law_law_247 ?_
  refine lk_pure (As := [.int (xs (nI (6 * k + 1)).toNatClampNeg)]) (rest := []) (k_Ker_fault (xs (nI (6 * k + 1)).toNatClampNeg)) S E hJ kw_Law_60 rfl ⟨(Nat.le_of_ble_eq_true rfl), (Nat.le_of_ble_eq_true rfl)⟩ ⟨(hC.room hJ.2.1.F hk).2.1, (hC.room hJ.2.1.F hk).2.2⟩ rfl hl.1 rfl (Nat.le_of_ble_eq_true rfl) d_Law_law_248 ?_
  have hD := hC.d0
  refine lv_pop hx hb d_Law_law_251 rfl ?_
  refine lv_aload_n hx hb d_Law_law_252 rfl (lv_at hl 3 rfl) ?_
  refine lv_aload_n hx hb d_Law_law_253 rfl (lv_at hl 1 rfl) ?_
  refine lv_iload hx hb d_Law_law_254 (lv_at hl 0 rfl) ?_
  refine lv_iconst (v := 1) hx hb d_Law_law_256 (by decide) ?_
  refine lv_iadd hx hb d_Law_law_257 ?_
  refine lv_topi (fun i_2 ei_2 => ?_)
  obtain rfl : i_2 = nI (6 * k + 1) := ei_2.trans (nI_add (6 * k) 1)
  refine va_sld hx hb hX0 hbl hbA hJ.2.2 (vp_in_nI (n := 6 * k + 1) (by omega) (by omega)) d_Law_law_258 ?_
  refine lm_call (As := [.int (xs (nI (6 * k + 1)).toNatClampNeg)]) (rest := []) (f := some (some (some (f_Mod_fault (xs (nI (6 * k + 1)).toNatClampNeg) β).1), (f_Mod_fault (xs (nI (6 * k + 1)).toNatClampNeg) β).2)) rfl (fun x hx => by cases hx; exact k_Mod_fault (xs (nI (6 * k + 1)).toNatClampNeg)) S E hJ kw_Law_63 ⟨(Nat.le_of_ble_eq_true rfl), (Nat.le_of_ble_eq_true rfl)⟩ (hD.room hJ.2.1.F hk).1 rfl hl.1 rfl (Nat.le_of_ble_eq_true rfl) d_Law_law_259 (fun H locs hJ => ?_)
  refine lv_pop hx hb d_Law_law_262 rfl ?_
  refine lv_goto (tgt := 452) hx hb d_Law_law_263 (by decide) ?_
  exact next _ _ _ _ _ _ _ _ _ (t_fault hI _) hJ hD.n0 (lv_sub hl [0, 1, 2, 3, 4] rfl)
theorem kw_Law_81 : kWv "FamilyKernelLaw" 81 "FamilyKernel" y_Ker_count b_Ker_count 2 (some .int) 1 := ⟨vt_1846, vt_1847, vt_1848, vt_201, vt_1200, by decide, by decide, by decide +kernel⟩
theorem kw_Law_84 : kWv "FamilyKernelLaw" 84 "FamilyKernelModel" y_Mod_count b_Mod_count 2 (some .int) 1 := ⟨vt_1912, vt_1913, vt_1914, vt_1349, vt_1755, by decide, by decide, by decide +kernel⟩
set_option maxHeartbeats 4000000 in
set_option maxRecDepth 100000 in
theorem law_c_count (l : Launch) (hfl : kFl l) {p : Program} {e : Env} {s : State} {m : MethodId} {below : List Frame} {meth : Method} {c : Code} {b L : Nat} {xs : Nat → Int32} (C0 : lw_At p s m meth c b L xs) {g : mG} {o : Nat} {A : Nat → Prop} (hAe : A = fun q : Nat => s.heap.size ≤ q) (E : lE g A s) (hL : L ≤ 3072) {k : Nat} (hkL : 6 * k + 6 ≤ L) {α : kS} {ad : Nat → Nat} {β : mS} {w : Nat → Int64} {H : Heap} {locs : List Loc} {ls : Array Slot} {cells slots : Nat} (hI : lTI k α β) (hJ : lJ g o A s α ad β w H locs) (hC : lPC k α cells slots) (hl : lv_has ls 7 [(4, .int (nI (6 * k))), (0, .ref b), (1, .ref (kad g.1 0)), (2, .ref (mad g 0)), (3, .ref o)])
    (next : ∀ (α' : kS) (ad' : Nat → Nat) (β' : mS) (w' : Nat → Int64) (H' : Heap) (locs' : List Loc) (ls' : Array Slot) (cells' slots' : Nat), lTI (k + 1) α' β' → lJ g o A s α' ad' β' w' H' locs' → lPC (k + 1) α' cells' slots' → lv_has ls' 7 [(4, .int (nI (6 * k))), (0, .ref b), (1, .ref (kad g.1 0)), (2, .ref (mad g 0)), (3, .ref o)] → W p l e room_1 s m #[Value.ref b] below meth c H' locs' cells' slots' (lw_Z below #[Value.ref b] s) (F0 m 452 ls' [])) : W p l e room_1 s m #[Value.ref b] below meth c H locs cells slots (lw_Z below #[Value.ref b] s) (F0 m 427 ls []) := by
  obtain ⟨hx, hb, hr, hml, hown, hts, hX0, hbl, hlocks, hgv⟩ := id C0
  have hT : ∀ w ∈ vT, w.before _ s = true := fun w h => hts w (vT_in w h)
  have hbA : ¬ A b := by rw [hAe]; exact Nat.not_le.mpr hbl
  have S : CallFix p m c b_Law_law 7 s #[Value.ref b] vT "FamilyKernelLaw" := ⟨hx, hb, hml, hown, hT⟩
  have hk : k < 512 := by omega
  refine lv_aload_n hx hb d_Law_law_427 rfl (lv_at hl 2 rfl) ?_
  refine lv_aload_n hx hb d_Law_law_428 rfl (lv_at hl 1 rfl) ?_
  refine lv_iload hx hb d_Law_law_429 (lv_at hl 0 rfl) ?_
  refine lv_iconst (v := 1) hx hb d_Law_law_431 (by decide) ?_
  refine lv_iadd hx hb d_Law_law_432 ?_
  refine lv_topi (fun i_1 ei_1 => ?_)
  obtain rfl : i_1 = nI (6 * k + 1) := ei_1.trans (nI_add (6 * k) 1)
  refine va_sld hx hb hX0 hbl hbA hJ.2.2 (vp_in_nI (n := 6 * k + 1) (by omega) (by omega)) d_Law_law_433 ?_
  refine lk_pure (As := [.int (xs (nI (6 * k + 1)).toNatClampNeg)]) (rest := []) (k_Ker_count (xs (nI (6 * k + 1)).toNatClampNeg)) S E hJ kw_Law_81 rfl ⟨(Nat.le_of_ble_eq_true rfl), (Nat.le_of_ble_eq_true rfl)⟩ ⟨(hC.room hJ.2.1.F hk).2.1, (hC.room hJ.2.1.F hk).2.2⟩ rfl hl.1 rfl (Nat.le_of_ble_eq_true rfl) d_Law_law_434 ?_
  have hD := hC.d0
  refine lv_pop hx hb d_Law_law_437 rfl ?_
  refine lv_aload_n hx hb d_Law_law_438 rfl (lv_at hl 3 rfl) ?_
  refine lv_aload_n hx hb d_Law_law_439 rfl (lv_at hl 1 rfl) ?_
  refine lv_iload hx hb d_Law_law_440 (lv_at hl 0 rfl) ?_
  refine lv_iconst (v := 1) hx hb d_Law_law_442 (by decide) ?_
  refine lv_iadd hx hb d_Law_law_443 ?_
  refine lv_topi (fun i_2 ei_2 => ?_)
  obtain rfl : i_2 = nI (6 * k + 1) := ei_2.trans (nI_add (6 * k) 1)
  refine va_sld hx hb hX0 hbl hbA hJ.2.2 (vp_in_nI (n := 6 * k + 1) (by omega) (by omega)) d_Law_law_444 ?_
  refine lm_call (As := [.int (xs (nI (6 * k + 1)).toNatClampNeg)]) (rest := []) (f := some (some (some (f_Mod_count (xs (nI (6 * k + 1)).toNatClampNeg) β).1), (f_Mod_count (xs (nI (6 * k + 1)).toNatClampNeg) β).2)) rfl (fun x hx => by cases hx; exact k_Mod_count (xs (nI (6 * k + 1)).toNatClampNeg)) S E hJ kw_Law_84 ⟨(Nat.le_of_ble_eq_true rfl), (Nat.le_of_ble_eq_true rfl)⟩ (hD.room hJ.2.1.F hk).1 rfl hl.1 rfl (Nat.le_of_ble_eq_true rfl) d_Law_law_445 (fun H locs hJ => ?_)
  refine lv_pop hx hb d_Law_law_448 rfl ?_
  refine lv_goto (tgt := 452) hx hb d_Law_law_449 (by decide) ?_
  exact next _ _ _ _ _ _ _ _ _ (t_count hI _) hJ hD.n0 (lv_sub hl [0, 1, 2, 3, 4] rfl)
theorem kw_Law_64 : kWv "FamilyKernelLaw" 64 "FamilyKernel" y_Ker_reset b_Ker_reset 2 (some .int) 0 := ⟨vt_1843, vt_1844, vt_1845, vt_201, vt_1197, by decide, by decide, by decide +kernel⟩
theorem kw_Law_67 : kWv "FamilyKernelLaw" 67 "FamilyKernelModel" y_Mod_reset b_Mod_reset 2 (some .int) 0 := ⟨vt_1897, vt_1898, vt_1899, vt_1349, vt_1746, by decide, by decide, by decide +kernel⟩
set_option maxHeartbeats 4000000 in
set_option maxRecDepth 100000 in
theorem law_c_reset (l : Launch) (hfl : kFl l) {p : Program} {e : Env} {s : State} {m : MethodId} {below : List Frame} {meth : Method} {c : Code} {b L : Nat} {xs : Nat → Int32} (C0 : lw_At p s m meth c b L xs) {g : mG} {o : Nat} {A : Nat → Prop} (hAe : A = fun q : Nat => s.heap.size ≤ q) (E : lE g A s) (hL : L ≤ 3072) {k : Nat} (hkL : 6 * k + 6 ≤ L) {α : kS} {ad : Nat → Nat} {β : mS} {w : Nat → Int64} {H : Heap} {locs : List Loc} {ls : Array Slot} {cells slots : Nat} (hI : lTI k α β) (hJ : lJ g o A s α ad β w H locs) (hC : lPC k α cells slots) (hl : lv_has ls 7 [(4, .int (nI (6 * k))), (0, .ref b), (1, .ref (kad g.1 0)), (2, .ref (mad g 0)), (3, .ref o)])
    (next : ∀ (α' : kS) (ad' : Nat → Nat) (β' : mS) (w' : Nat → Int64) (H' : Heap) (locs' : List Loc) (ls' : Array Slot) (cells' slots' : Nat), lTI (k + 1) α' β' → lJ g o A s α' ad' β' w' H' locs' → lPC (k + 1) α' cells' slots' → lv_has ls' 7 [(4, .int (nI (6 * k))), (0, .ref b), (1, .ref (kad g.1 0)), (2, .ref (mad g 0)), (3, .ref o)] → W p l e room_1 s m #[Value.ref b] below meth c H' locs' cells' slots' (lw_Z below #[Value.ref b] s) (F0 m 452 ls' [])) : W p l e room_1 s m #[Value.ref b] below meth c H locs cells slots (lw_Z below #[Value.ref b] s) (F0 m 266 ls []) := by
  obtain ⟨hx, hb, hr, hml, hown, hts, hX0, hbl, hlocks, hgv⟩ := id C0
  have hT : ∀ w ∈ vT, w.before _ s = true := fun w h => hts w (vT_in w h)
  have hbA : ¬ A b := by rw [hAe]; exact Nat.not_le.mpr hbl
  have S : CallFix p m c b_Law_law 7 s #[Value.ref b] vT "FamilyKernelLaw" := ⟨hx, hb, hml, hown, hT⟩
  have hk : k < 512 := by omega
  obtain ⟨v, α', hf, hLI⟩ := t_reset hI
  refine lv_aload_n hx hb d_Law_law_266 rfl (lv_at hl 2 rfl) ?_
  refine lk_call (As := []) (rest := []) hf (k_Ker_reset hfl lawN) S E hJ kw_Law_64 ⟨(Nat.le_of_ble_eq_true rfl), (Nat.le_of_ble_eq_true rfl)⟩ ⟨by have := (hC.room hJ.2.1.F hk).1.1; show cells + ((kM - kF α) / 32 + 1) ≤ 234476; omega, by have := (hC.room hJ.2.1.F hk).1.2; show slots + (kM - kF α + 6) ≤ 8392676; omega⟩ rfl hl.1 rfl (Nat.le_of_ble_eq_true rfl) d_Law_law_267 (fun ad1 H locs k1 n1 h1 h2 hJ => ?_)
  have hD : lPD k α' (cells + k1) (slots + n1) := hC.d (by omega) (by omega)
  refine lv_pop hx hb d_Law_law_270 rfl ?_
  refine lv_aload_n hx hb d_Law_law_271 rfl (lv_at hl 3 rfl) ?_
  refine lm_call (As := []) (rest := []) (f := some (some (some (f_Mod_reset β).1), (f_Mod_reset β).2)) rfl (fun x hx => by cases hx; exact k_Mod_reset) S E hJ kw_Law_67 ⟨(Nat.le_of_ble_eq_true rfl), (Nat.le_of_ble_eq_true rfl)⟩ (hD.room hJ.2.1.F hk).1 rfl hl.1 rfl (Nat.le_of_ble_eq_true rfl) d_Law_law_272 (fun H locs hJ => ?_)
  refine lv_pop hx hb d_Law_law_275 rfl ?_
  refine lv_goto (tgt := 452) hx hb d_Law_law_276 (by decide) ?_
  exact next _ _ _ _ _ _ _ _ _ hLI hJ hD.n0 (lv_sub hl [0, 1, 2, 3, 4] rfl)
