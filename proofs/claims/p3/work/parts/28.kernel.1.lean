theorem kw_Ker_115 : kWv "FamilyKernel" 115 "FamilyKernel$Row" y_Row_push b_Row_push 2 none 1 := ⟨vt_1212, vt_252, vt_253, vt_4, vt_254, by decide, by decide, by decide +kernel⟩
def f_Ker_takeBytes_3 (N : Nat)  : Nat → Int32 → Int32 → kS → Option (kO × kS)
  | 0, _, _, _ => none
  | n + 1, x2, x1, β => if x2 < 0 then (some (some none, β)) else (kBv (fR_push β 0 ((((x1).toUInt32 >>> ((x2 : Int32).toUInt32 &&& Int32.toUInt32 31)).toInt32) &&& 255)) fun α2 => (f_Ker_takeBytes_3 N n (x2 + (-8)) x1 α2))
def f_Ker_takeBytes (N : Nat) (a1 : Int32) (α : kS) : Option (kO × kS) := f_Ker_takeBytes_3 N N 24 a1 α
set_option maxHeartbeats 4000000 in
set_option maxRecDepth 100000 in
theorem k_Ker_takeBytes {l : Launch} {g : kG} {α : kS} (hfl : kFl l) (N : Nat) (a1 : Int32)  : ∀ x, f_Ker_takeBytes N a1 α = some x → kC l g y_Ker_takeBytes b_Ker_takeBytes 3 none 31 921 [.ref (kad g 0), .int a1] α (kQr x) := by
  intro x h
  unfold f_Ker_takeBytes at h
  refine kc_ofW (by decide) (fun A ad0 p e s m args below meth c S hr hlocks hno hadm hargs E hI => ?_)
  have hx := S.1
  have hb := S.2.1
  have hown := S.2.2.2.1
  have hT := S.2.2.2.2
  subst hargs
  have hl := lv_entry ([.ref (kad g 0), .int a1]) (n := 3) (Nat.le_of_ble_eq_true rfl)
  rw [lg_entry_eq]
  generalize (lg_sl ([.ref (kad g 0), .int a1]) ++ List.replicate (3 - (lg_sl ([.ref (kad g 0), .int a1])).length) Slot.unset).toArray = ls at hl ⊢
  have hl : lv_has ls 3 [(0, .ref (kad g 0)), (1, .int a1)] := hl
  refine lv_bipush (v := 24) hx hb d_Ker_takeBytes_0 (by decide) ?_
  refine lv_istore_n (lv' := [(2, .int 24), (0, .ref (kad g 0)), (1, .int a1)]) hx hb d_Ker_takeBytes_2 rfl hl (by decide) rfl (fun ls hl => ?_)
  have L3 : ∀ (n3 : Nat) (x2 : Int32) (x1 : Int32) (β : kS) (ad : Nat → Nat) (H : Heap) (locs : List Loc) (cells slots : Nat) (ls : Array Slot), f_Ker_takeBytes_3 N n3 x2 x1 β = some x → kI g A s α ad0 β ad H locs cells slots → lv_has ls 3 [(2, .int x2), (0, .ref (kad g 0)), (1, .int x1)] → W p l e (kR 31 921 α) s m ([.ref (kad g 0), .int a1]).toArray below meth c H locs cells slots (vEQ below (kQ g A α ad0 (kQr x)) ([.ref (kad g 0), .int a1]).toArray s A) (F0 m 3 ls []) := by
    intro n3
    induction n3 with
    | zero => intro x2 x1 β ad H locs cells slots ls h hI hl; rw [f_Ker_takeBytes_3] at h; cases h
    | succ n3 ih3 =>
      intro x2 x1 β ad H locs cells slots ls h hI hl
      rw [f_Ker_takeBytes_3] at h
      refine lv_iload_n hx hb d_Ker_takeBytes_3 rfl (lv_at hl 0 rfl) ?_
      refine lv_if_lt (tgt := 27) hx hb d_Ker_takeBytes_4 (by decide) (fun c1 => ?_) (fun c1 => ?_)
      · replace h := Eq.trans (if_pos c1).symm h
        exact kc_vret hx hb hr hlocks E hI h d_Ker_takeBytes_27
      · replace h := Eq.trans (if_neg c1).symm h
        refine lv_aload_n hx hb d_Ker_takeBytes_7 rfl (lv_at hl 1 rfl) ?_
        refine kf_Ker_tape S E hI.1 vt_10 d_Ker_takeBytes_8 ?_
        refine lv_iload_n hx hb d_Ker_takeBytes_11 rfl (lv_at hl 2 rfl) ?_
        refine lv_iload_n hx hb d_Ker_takeBytes_12 rfl (lv_at hl 0 rfl) ?_
        refine lv_iushr (v := (((x1).toUInt32 >>> ((x2 : Int32).toUInt32 &&& Int32.toUInt32 31)).toInt32)) hx hb d_Ker_takeBytes_13 rfl ?_
        refine lv_sipush (v := 255) hx hb d_Ker_takeBytes_14 (by decide) ?_
        refine lv_iand hx hb d_Ker_takeBytes_17 ?_
        refine kg_cV (As := [.int ((((x1).toUInt32 >>> ((x2 : Int32).toUInt32 &&& Int32.toUInt32 31)).toInt32) &&& 255)]) (rest := []) h (k_Row_push (l := l) (g := g) (α := β) (r := 0) (by decide) ((((x1).toUInt32 >>> ((x2 : Int32).toUInt32 &&& Int32.toUInt32 31)).toInt32) &&& 255)) S hlocks hno E hI kw_Ker_115 ⟨Nat.le_of_ble_eq_true rfl, Nat.le_of_ble_eq_true rfl⟩ (kv_Row (r := 0) (by decide) E hI.1) rfl hl.1 rfl (Nat.le_of_ble_eq_true rfl) d_Ker_takeBytes_18 (fun α2 ad H locs cells slots e3 h hRm hI => ?_)
        refine lv_iinc (v := (x2 + (-8))) (lv' := [(2, .int (x2 + (-8))), (0, .ref (kad g 0)), (1, .int x1)]) hx hb d_Ker_takeBytes_21 hl (k := 0) rfl rfl (by decide) rfl (fun ls hl => ?_)
        refine lv_goto (tgt := 3) hx hb d_Ker_takeBytes_24 (by decide) ?_
        exact ih3 (x2 + (-8)) x1 _ _ _ _ _ _ _ h hI (lv_sub hl [0, 1, 2] rfl)
  exact L3 N 24 a1 _ _ _ _ _ _ _ h hI (lv_sub hl [0, 1, 2] rfl)
theorem kw_Ker_148 : kWv "FamilyKernel" 148 "FamilyKernel$Parser" y_Par_task b_Par_task 1 (some .int) 0 := ⟨vt_205, vt_206, vt_207, vt_40, vt_208, by decide, by decide, by decide +kernel⟩
theorem kw_Ker_170 : kWv "FamilyKernel" 170 "FamilyKernel$Parser" y_Par_type b_Par_type 1 (some .int) 0 := ⟨vt_647, vt_648, vt_649, vt_40, vt_650, by decide, by decide, by decide +kernel⟩
theorem kw_Ker_173 : kWv "FamilyKernel" 173 "FamilyKernel$Parser" y_Par_value b_Par_value 1 (some .int) 0 := ⟨vt_651, vt_652, vt_653, vt_40, vt_654, by decide, by decide, by decide +kernel⟩
theorem kw_Ker_176 : kWv "FamilyKernel" 176 "FamilyKernel$Frames" y_Fra_begin b_Fra_begin 4 none 3 := ⟨vt_655, vt_656, vt_657, vt_47, vt_658, by decide, by decide, by decide +kernel⟩
theorem kw_Ker_180 : kWv "FamilyKernel" 180 "FamilyKernel$Frames" y_Fra_isEmpty b_Fra_isEmpty 1 (some .boolean) 0 := ⟨vt_660, vt_661, vt_662, vt_47, vt_663, by decide, by decide, by decide +kernel⟩
theorem kw_Ker_299 : kWv "FamilyKernel" 299 "FamilyKernel$Meter" y_Meter_fail b_Meter_fail 2 none 1 := ⟨vt_816, vt_406, vt_407, vt_13, vt_408, by decide, by decide, by decide +kernel⟩
theorem kw_Ker_184 : kWv "FamilyKernel" 184 "FamilyKernel$Frames" y_Fra_top b_Fra_top 2 (some .int) 1 := ⟨vt_664, vt_665, vt_666, vt_47, vt_667, by decide, by decide, by decide +kernel⟩
theorem kw_Ker_188 : kWv "FamilyKernel" 188 "FamilyKernel$Reducer" y_Red_whnf b_Red_whnf 6 none 0 := ⟨vt_668, vt_669, vt_670, vt_54, vt_671, by decide, by decide, by decide +kernel⟩
theorem kw_Ker_191 : kWv "FamilyKernel" 191 "FamilyKernel$Reducer" y_Red_whnfMajor b_Red_whnfMajor 12 none 0 := ⟨vt_672, vt_673, vt_674, vt_54, vt_675, by decide, by decide, by decide +kernel⟩
theorem kw_Ker_194 : kWv "FamilyKernel" 194 "FamilyKernel$Reducer" y_Red_conv b_Red_conv 1 none 0 := ⟨vt_676, vt_677, vt_678, vt_54, vt_679, by decide, by decide, by decide +kernel⟩
theorem kw_Ker_197 : kWv "FamilyKernel" 197 "FamilyKernel$Reducer" y_Red_convLeft b_Red_convLeft 1 none 0 := ⟨vt_680, vt_681, vt_682, vt_54, vt_683, by decide, by decide, by decide +kernel⟩
theorem kw_Ker_200 : kWv "FamilyKernel" 200 "FamilyKernel$Reducer" y_Red_convRight b_Red_convRight 7 none 0 := ⟨vt_684, vt_685, vt_686, vt_54, vt_687, by decide, by decide, by decide +kernel⟩
theorem kw_Ker_203 : kWv "FamilyKernel" 203 "FamilyKernel$Reducer" y_Red_convBodies b_Red_convBodies 6 none 0 := ⟨vt_688, vt_689, vt_690, vt_54, vt_691, by decide, by decide, by decide +kernel⟩
theorem kw_Ker_206 : kWv "FamilyKernel" 206 "FamilyKernel$Reducer" y_Red_convLeave b_Red_convLeave 1 none 0 := ⟨vt_692, vt_693, vt_694, vt_54, vt_695, by decide, by decide, by decide +kernel⟩
theorem kw_Ker_209 : kWv "FamilyKernel" 209 "FamilyKernel$Reducer" y_Red_convArguments b_Red_convArguments 2 none 0 := ⟨vt_696, vt_697, vt_698, vt_54, vt_699, by decide, by decide, by decide +kernel⟩
theorem kw_Ker_212 : kWv "FamilyKernel" 212 "FamilyKernel$Reducer" y_Red_normal b_Red_normal 1 none 0 := ⟨vt_700, vt_701, vt_702, vt_54, vt_703, by decide, by decide, by decide +kernel⟩
theorem kw_Ker_215 : kWv "FamilyKernel" 215 "FamilyKernel$Reducer" y_Red_normalSplit b_Red_normalSplit 3 none 0 := ⟨vt_704, vt_705, vt_706, vt_54, vt_707, by decide, by decide, by decide +kernel⟩
theorem kw_Ker_218 : kWv "FamilyKernel" 218 "FamilyKernel$Reducer" y_Red_normalBody b_Red_normalBody 2 none 0 := ⟨vt_708, vt_709, vt_710, vt_54, vt_711, by decide, by decide, by decide +kernel⟩
theorem kw_Ker_221 : kWv "FamilyKernel" 221 "FamilyKernel$Reducer" y_Red_normalClose b_Red_normalClose 3 none 0 := ⟨vt_712, vt_713, vt_714, vt_54, vt_715, by decide, by decide, by decide +kernel⟩
theorem kw_Ker_224 : kWv "FamilyKernel" 224 "FamilyKernel$Reducer" y_Red_normalArgument b_Red_normalArgument 2 none 0 := ⟨vt_716, vt_717, vt_718, vt_54, vt_719, by decide, by decide, by decide +kernel⟩
theorem kw_Ker_227 : kWv "FamilyKernel" 227 "FamilyKernel$Reducer" y_Red_normalApply b_Red_normalApply 2 none 0 := ⟨vt_720, vt_721, vt_722, vt_54, vt_723, by decide, by decide, by decide +kernel⟩
theorem kw_Ker_230 : kWv "FamilyKernel" 230 "FamilyKernel$Typer" y_Typ_infer b_Typ_infer 2 none 0 := ⟨vt_724, vt_725, vt_726, vt_61, vt_727, by decide, by decide, by decide +kernel⟩
theorem kw_Ker_233 : kWv "FamilyKernel" 233 "FamilyKernel$Typer" y_Typ_piBody b_Typ_piBody 1 none 0 := ⟨vt_728, vt_729, vt_730, vt_61, vt_731, by decide, by decide, by decide +kernel⟩
theorem kw_Ker_236 : kWv "FamilyKernel" 236 "FamilyKernel$Typer" y_Typ_piEnd b_Typ_piEnd 2 none 0 := ⟨vt_732, vt_733, vt_734, vt_61, vt_735, by decide, by decide, by decide +kernel⟩
theorem kw_Ker_239 : kWv "FamilyKernel" 239 "FamilyKernel$Typer" y_Typ_lamBody b_Typ_lamBody 1 none 0 := ⟨vt_736, vt_737, vt_738, vt_61, vt_739, by decide, by decide, by decide +kernel⟩
theorem kw_Ker_242 : kWv "FamilyKernel" 242 "FamilyKernel$Typer" y_Typ_lamEnd b_Typ_lamEnd 2 none 0 := ⟨vt_740, vt_741, vt_742, vt_61, vt_743, by decide, by decide, by decide +kernel⟩
theorem kw_Ker_245 : kWv "FamilyKernel" 245 "FamilyKernel$Typer" y_Typ_letValue b_Typ_letValue 2 none 0 := ⟨vt_744, vt_745, vt_746, vt_61, vt_747, by decide, by decide, by decide +kernel⟩
theorem kw_Ker_248 : kWv "FamilyKernel" 248 "FamilyKernel$Typer" y_Typ_letBody b_Typ_letBody 2 none 0 := ⟨vt_748, vt_749, vt_750, vt_61, vt_751, by decide, by decide, by decide +kernel⟩
theorem kw_Ker_251 : kWv "FamilyKernel" 251 "FamilyKernel$Typer" y_Typ_appType b_Typ_appType 1 none 0 := ⟨vt_752, vt_753, vt_754, vt_61, vt_755, by decide, by decide, by decide +kernel⟩
theorem kw_Ker_254 : kWv "FamilyKernel" 254 "FamilyKernel$Typer" y_Typ_appArgument b_Typ_appArgument 2 none 0 := ⟨vt_756, vt_757, vt_758, vt_61, vt_759, by decide, by decide, by decide +kernel⟩
theorem kw_Ker_257 : kWv "FamilyKernel" 257 "FamilyKernel$Typer" y_Typ_appOpen b_Typ_appOpen 4 none 0 := ⟨vt_760, vt_761, vt_762, vt_61, vt_763, by decide, by decide, by decide +kernel⟩
theorem kw_Ker_260 : kWv "FamilyKernel" 260 "FamilyKernel$Typer" y_Typ_sortType b_Typ_sortType 1 none 0 := ⟨vt_764, vt_765, vt_766, vt_61, vt_767, by decide, by decide, by decide +kernel⟩
theorem kw_Ker_263 : kWv "FamilyKernel" 263 "FamilyKernel$Typer" y_Typ_sortEnd b_Typ_sortEnd 1 none 0 := ⟨vt_768, vt_769, vt_770, vt_61, vt_771, by decide, by decide, by decide +kernel⟩
theorem kw_Ker_266 : kWv "FamilyKernel" 266 "FamilyKernel$Typer" y_Typ_checkType b_Typ_checkType 2 none 0 := ⟨vt_772, vt_773, vt_774, vt_61, vt_775, by decide, by decide, by decide +kernel⟩
theorem kw_Ker_269 : kWv "FamilyKernel" 269 "FamilyKernel$Typer" y_Typ_declare b_Typ_declare 1 none 0 := ⟨vt_776, vt_777, vt_778, vt_61, vt_779, by decide, by decide, by decide +kernel⟩
theorem kw_Ker_272 : kWv "FamilyKernel" 272 "FamilyKernel$Typer" y_Typ_declareValue b_Typ_declareValue 1 none 0 := ⟨vt_780, vt_781, vt_782, vt_61, vt_783, by decide, by decide, by decide +kernel⟩
theorem kw_Ker_275 : kWv "FamilyKernel" 275 "FamilyKernel$Typer" y_Typ_eval b_Typ_eval 1 none 0 := ⟨vt_784, vt_785, vt_786, vt_61, vt_787, by decide, by decide, by decide +kernel⟩
theorem kw_Ker_278 : kWv "FamilyKernel" 278 "FamilyKernel$Typer" y_Typ_evalTyped b_Typ_evalTyped 1 none 0 := ⟨vt_788, vt_789, vt_790, vt_61, vt_791, by decide, by decide, by decide +kernel⟩
theorem kw_Ker_281 : kWv "FamilyKernel" 281 "FamilyKernel$Families" y_Fam_family b_Fam_family 2 none 0 := ⟨vt_792, vt_793, vt_794, vt_68, vt_795, by decide, by decide, by decide +kernel⟩
theorem kw_Ker_284 : kWv "FamilyKernel" 284 "FamilyKernel$Families" y_Fam_member b_Fam_member 2 none 0 := ⟨vt_796, vt_797, vt_798, vt_68, vt_799, by decide, by decide, by decide +kernel⟩
theorem kw_Ker_287 : kWv "FamilyKernel" 287 "FamilyKernel$Families" y_Fam_argument b_Fam_argument 1 none 0 := ⟨vt_800, vt_801, vt_802, vt_68, vt_803, by decide, by decide, by decide +kernel⟩
theorem kw_Ker_290 : kWv "FamilyKernel" 290 "FamilyKernel$Families" y_Fam_argumentTested b_Fam_argumentTested 4 none 0 := ⟨vt_804, vt_805, vt_806, vt_68, vt_807, by decide, by decide, by decide +kernel⟩
theorem kw_Ker_293 : kWv "FamilyKernel" 293 "FamilyKernel$Families" y_Fam_memberTyped b_Fam_memberTyped 1 none 0 := ⟨vt_808, vt_809, vt_810, vt_68, vt_811, by decide, by decide, by decide +kernel⟩
theorem kw_Ker_296 : kWv "FamilyKernel" 296 "FamilyKernel$Frames" y_Fra_pop b_Fra_pop 1 none 0 := ⟨vt_812, vt_813, vt_814, vt_47, vt_815, by decide, by decide, by decide +kernel⟩
def f_Ker_work_j585 (N : Nat)  (γ : kS) : Option (kO × kS) := if (f_Fra_isEmpty γ) = 0 then (kBv (f_Meter_fail N 10 γ) fun α5 => (some (some none, α5))) else (some (some none, γ))
def f_Ker_work_30 (N : Nat)  : Nat → Int32 → kS → Option (kO × kS)
  | 0, _, _ => none
  | n + 1, x1, β => if 16777216 ≤ x1 then (f_Ker_work_j585 N  β) else (if (f_Fra_isEmpty β) = 0 then (if (f_Fra_top 0 β) = 1 then (kBv (f_Red_whnf N β) fun α9 => (f_Ker_work_30 N n (x1 + 1) α9)) else (if (f_Fra_top 0 β) = 2 then (kBv (f_Red_whnfMajor N β) fun α12 => (f_Ker_work_30 N n (x1 + 1) α12)) else (if (f_Fra_top 0 β) = 3 then (kBv (f_Red_conv N β) fun α15 => (f_Ker_work_30 N n (x1 + 1) α15)) else (if (f_Fra_top 0 β) = 4 then (kBv (f_Red_convLeft N β) fun α18 => (f_Ker_work_30 N n (x1 + 1) α18)) else (if (f_Fra_top 0 β) = 5 then (kBv (f_Red_convRight N β) fun α21 => (f_Ker_work_30 N n (x1 + 1) α21)) else (if (f_Fra_top 0 β) = 6 then (kBv (f_Red_convBodies N β) fun α24 => (f_Ker_work_30 N n (x1 + 1) α24)) else (if (f_Fra_top 0 β) = 7 then (f_Ker_work_30 N n (x1 + 1) (f_Red_convLeave β)) else (if (f_Fra_top 0 β) = 8 then (kBv (f_Red_convArguments N β) fun α28 => (f_Ker_work_30 N n (x1 + 1) α28)) else (if (f_Fra_top 0 β) = 9 then (kBv (f_Red_normal N β) fun α31 => (f_Ker_work_30 N n (x1 + 1) α31)) else (if (f_Fra_top 0 β) = 10 then (kBv (f_Red_normalSplit N β) fun α34 => (f_Ker_work_30 N n (x1 + 1) α34)) else (if (f_Fra_top 0 β) = 11 then (kBv (f_Red_normalBody N β) fun α37 => (f_Ker_work_30 N n (x1 + 1) α37)) else (if (f_Fra_top 0 β) = 12 then (kBv (f_Red_normalClose N β) fun α40 => (f_Ker_work_30 N n (x1 + 1) α40)) else (if (f_Fra_top 0 β) = 13 then (kBv (f_Red_normalArgument N β) fun α43 => (f_Ker_work_30 N n (x1 + 1) α43)) else (if (f_Fra_top 0 β) = 14 then (kBv (f_Red_normalApply N β) fun α46 => (f_Ker_work_30 N n (x1 + 1) α46)) else (if (f_Fra_top 0 β) = 15 then (kBv (f_Typ_infer N β) fun α49 => (f_Ker_work_30 N n (x1 + 1) α49)) else (if (f_Fra_top 0 β) = 16 then (kBv (f_Typ_piBody N β) fun α52 => (f_Ker_work_30 N n (x1 + 1) α52)) else (if (f_Fra_top 0 β) = 17 then (kBv (f_Typ_piEnd N β) fun α55 => (f_Ker_work_30 N n (x1 + 1) α55)) else (if (f_Fra_top 0 β) = 18 then (kBv (f_Typ_lamBody N β) fun α58 => (f_Ker_work_30 N n (x1 + 1) α58)) else (if (f_Fra_top 0 β) = 19 then (kBv (f_Typ_lamEnd N β) fun α61 => (f_Ker_work_30 N n (x1 + 1) α61)) else (if (f_Fra_top 0 β) = 20 then (kBv (f_Typ_letValue N β) fun α64 => (f_Ker_work_30 N n (x1 + 1) α64)) else (if (f_Fra_top 0 β) = 21 then (kBv (f_Typ_letBody N β) fun α67 => (f_Ker_work_30 N n (x1 + 1) α67)) else (if (f_Fra_top 0 β) = 22 then (kBv (f_Typ_appType N β) fun α70 => (f_Ker_work_30 N n (x1 + 1) α70)) else (if (f_Fra_top 0 β) = 23 then (kBv (f_Typ_appArgument N β) fun α73 => (f_Ker_work_30 N n (x1 + 1) α73)) else (if (f_Fra_top 0 β) = 24 then (kBv (f_Typ_appOpen N β) fun α76 => (f_Ker_work_30 N n (x1 + 1) α76)) else (if (f_Fra_top 0 β) = 25 then (kBv (f_Typ_sortType N β) fun α79 => (f_Ker_work_30 N n (x1 + 1) α79)) else (if (f_Fra_top 0 β) = 26 then (kBv (f_Typ_sortEnd N β) fun α82 => (f_Ker_work_30 N n (x1 + 1) α82)) else (if (f_Fra_top 0 β) = 27 then (kBv (f_Typ_checkType N β) fun α85 => (f_Ker_work_30 N n (x1 + 1) α85)) else (if (f_Fra_top 0 β) = 28 then (kBv (f_Typ_declare N β) fun α88 => (f_Ker_work_30 N n (x1 + 1) α88)) else (if (f_Fra_top 0 β) = 29 then (kBv (f_Typ_declareValue N β) fun α91 => (f_Ker_work_30 N n (x1 + 1) α91)) else (if (f_Fra_top 0 β) = 30 then (kBv (f_Typ_eval N β) fun α94 => (f_Ker_work_30 N n (x1 + 1) α94)) else (if (f_Fra_top 0 β) = 31 then (kBv (f_Typ_evalTyped N β) fun α97 => (f_Ker_work_30 N n (x1 + 1) α97)) else (if (f_Fra_top 0 β) = 32 then (kBv (f_Fam_family N β) fun α100 => (f_Ker_work_30 N n (x1 + 1) α100)) else (if (f_Fra_top 0 β) = 33 then (kBv (f_Fam_member N β) fun α103 => (f_Ker_work_30 N n (x1 + 1) α103)) else (if (f_Fra_top 0 β) = 34 then (kBv (f_Fam_argument N β) fun α106 => (f_Ker_work_30 N n (x1 + 1) α106)) else (if (f_Fra_top 0 β) = 35 then (kBv (f_Fam_argumentTested N β) fun α109 => (f_Ker_work_30 N n (x1 + 1) α109)) else (if (f_Fra_top 0 β) = 36 then (f_Ker_work_30 N n (x1 + 1) (f_Fam_memberTyped β)) else (f_Ker_work_30 N n (x1 + 1) (f_Fra_pop β)))))))))))))))))))))))))))))))))))))) else (f_Ker_work_j585 N  β))
def f_Ker_work (N : Nat)  (α : kS) : Option (kO × kS) := kBv (f_Fra_begin N (f_Par_task α) (f_Par_type α) (f_Par_value α) α) fun α1 => (f_Ker_work_30 N N 0 α1)
set_option maxHeartbeats 4000000 in
set_option maxRecDepth 100000 in
theorem k_Ker_work {l : Launch} {g : kG} {α : kS} (hfl : kFl l) (N : Nat)   : ∀ x, f_Ker_work N α = some x → kC l g y_Ker_work b_Ker_work 2 none 35 1020 [.ref (kad g 0)] α (kQr x) := by
  intro x h
  unfold f_Ker_work at h
  refine kc_ofW (by decide) (fun A ad0 p e s m args below meth c S hr hlocks hno hadm hargs E hI => ?_)
  have hx := S.1
  have hb := S.2.1
  have hown := S.2.2.2.1
  have hT := S.2.2.2.2
  subst hargs
  have hl := lv_entry ([.ref (kad g 0)]) (n := 2) (Nat.le_of_ble_eq_true rfl)
  rw [lg_entry_eq]
  generalize (lg_sl ([.ref (kad g 0)]) ++ List.replicate (2 - (lg_sl ([.ref (kad g 0)])).length) Slot.unset).toArray = ls at hl ⊢
  have hl : lv_has ls 2 [(0, .ref (kad g 0))] := hl
  refine lv_aload_n hx hb d_Ker_work_0 rfl (lv_at hl 0 rfl) ?_
  refine kf_Ker_frames S E hI.1 vt_52 d_Ker_work_1 ?_
  refine lv_aload_n hx hb d_Ker_work_4 rfl (lv_at hl 0 rfl) ?_
  refine kf_Ker_parser S E hI.1 vt_45 d_Ker_work_5 ?_
  refine kg_p (As := []) (rest := [.ref (kad g 6)]) (k_Par_task (l := l) (g := g) (α := α) ) S E hI.1 kw_Ker_148 ⟨Nat.le_of_ble_eq_true rfl, Nat.le_of_ble_eq_true rfl⟩ hI.room (kv_Par E hI.1) rfl hl.1 rfl (Nat.le_of_ble_eq_true rfl) d_Ker_work_8 rfl ?_
  refine lv_aload_n hx hb d_Ker_work_11 rfl (lv_at hl 0 rfl) ?_
  refine kf_Ker_parser S E hI.1 vt_45 d_Ker_work_12 ?_
  refine kg_p (As := []) (rest := [.int (f_Par_task α), .ref (kad g 6)]) (k_Par_type (l := l) (g := g) (α := α) ) S E hI.1 kw_Ker_170 ⟨Nat.le_of_ble_eq_true rfl, Nat.le_of_ble_eq_true rfl⟩ hI.room (kv_Par E hI.1) rfl hl.1 rfl (Nat.le_of_ble_eq_true rfl) d_Ker_work_15 rfl ?_
  refine lv_aload_n hx hb d_Ker_work_18 rfl (lv_at hl 0 rfl) ?_
  refine kf_Ker_parser S E hI.1 vt_45 d_Ker_work_19 ?_
  refine kg_p (As := []) (rest := [.int (f_Par_type α), .int (f_Par_task α), .ref (kad g 6)]) (k_Par_value (l := l) (g := g) (α := α) ) S E hI.1 kw_Ker_173 ⟨Nat.le_of_ble_eq_true rfl, Nat.le_of_ble_eq_true rfl⟩ hI.room (kv_Par E hI.1) rfl hl.1 rfl (Nat.le_of_ble_eq_true rfl) d_Ker_work_22 rfl ?_
  refine kg_cV (As := [.int (f_Par_task α), .int (f_Par_type α), .int (f_Par_value α)]) (rest := []) h (k_Fra_begin (l := l) (g := g) (α := α) hfl N (f_Par_task α) (f_Par_type α) (f_Par_value α)) S hlocks hno E hI kw_Ker_176 ⟨Nat.le_of_ble_eq_true rfl, Nat.le_of_ble_eq_true rfl⟩ (kv_Fra E hI.1) rfl hl.1 rfl (Nat.le_of_ble_eq_true rfl) d_Ker_work_25 (fun α1 ad H locs cells slots e2 h hRm hI => ?_)
  refine lv_iconst (v := 0) hx hb d_Ker_work_28 (by decide) ?_
  refine lv_istore_n (lv' := [(1, .int 0), (0, .ref (kad g 0))]) hx hb d_Ker_work_29 rfl hl (by decide) rfl (fun ls hl => ?_)
  have L30 : ∀ (n30 : Nat) (x1 : Int32) (β : kS) (ad : Nat → Nat) (H : Heap) (locs : List Loc) (cells slots : Nat) (ls : Array Slot), f_Ker_work_30 N n30 x1 β = some x → kI g A s α ad0 β ad H locs cells slots → lv_has ls 2 [(1, .int x1), (0, .ref (kad g 0))] → W p l e (kR 35 1020 α) s m ([.ref (kad g 0)]).toArray below meth c H locs cells slots (vEQ below (kQ g A α ad0 (kQr x)) ([.ref (kad g 0)]).toArray s A) (F0 m 30 ls []) := by
    intro n30
    induction n30 with
    | zero => intro x1 β ad H locs cells slots ls h hI hl; rw [f_Ker_work_30] at h; cases h
    | succ n30 ih30 =>
      intro x1 β ad H locs cells slots ls h hI hl
      rw [f_Ker_work_30] at h
      have J585 : ∀ (γ : kS) (ad : Nat → Nat) (H : Heap) (locs : List Loc) (cells slots : Nat) (ls : Array Slot), f_Ker_work_j585 N γ = some x → kI g A s α ad0 γ ad H locs cells slots → lv_has ls 2 [(0, .ref (kad g 0))] → W p l e (kR 35 1020 α) s m ([.ref (kad g 0)]).toArray below meth c H locs cells slots (vEQ below (kQ g A α ad0 (kQr x)) ([.ref (kad g 0)]).toArray s A) (F0 m 585 ls []) := by
        intro  γ ad H locs cells slots ls h hI hl
        unfold f_Ker_work_j585 at h
        refine lv_aload_n hx hb d_Ker_work_585 rfl (lv_at hl 0 rfl) ?_
        refine kf_Ker_frames S E hI.1 vt_52 d_Ker_work_586 ?_
        refine kg_p (As := []) (rest := []) (k_Fra_isEmpty (l := l) (g := g) (α := γ) ) S E hI.1 kw_Ker_180 ⟨Nat.le_of_ble_eq_true rfl, Nat.le_of_ble_eq_true rfl⟩ hI.room (kv_Fra E hI.1) rfl hl.1 rfl (Nat.le_of_ble_eq_true rfl) d_Ker_work_589 rfl ?_
        refine lv_if_ne (tgt := 604) hx hb d_Ker_work_592 (by decide) (fun c4 => ?_) (fun c4 => ?_)
        · replace h := Eq.trans (if_neg c4).symm h
          exact kc_vret hx hb hr hlocks E hI h d_Ker_work_604
        · replace h := Eq.trans (if_pos c4).symm h
          refine lv_aload_n hx hb d_Ker_work_595 rfl (lv_at hl 0 rfl) ?_
          refine kf_Ker_meter S E hI.1 vt_17 d_Ker_work_596 ?_
          refine lv_bipush (v := 10) hx hb d_Ker_work_599 (by decide) ?_
          refine kg_cV (As := [.int 10]) (rest := []) h (k_Meter_fail (l := l) (g := g) (α := γ) hfl N 10) S hlocks hno E hI kw_Ker_299 ⟨Nat.le_of_ble_eq_true rfl, Nat.le_of_ble_eq_true rfl⟩ (kv_Meter E hI.1) rfl hl.1 rfl (Nat.le_of_ble_eq_true rfl) d_Ker_work_601 (fun α5 ad H locs cells slots e6 h hRm hI => ?_)
          exact kc_vret hx hb hr hlocks E hI h d_Ker_work_604
      refine lv_iload_n hx hb d_Ker_work_30 rfl (lv_at hl 0 rfl) ?_
      refine lv_ldc (v := 16777216) hx hb hown (hT _ vt_659) d_Ker_work_31 ?_
      refine lv_icmp_ge (tgt := 585) hx hb d_Ker_work_33 (by decide) (fun c3 => ?_) (fun c3 => ?_)
      · replace h := Eq.trans (if_pos c3).symm h
        exact J585  _ _ _ _ _ _ _ h hI (lv_sub hl [1] rfl)
      · replace h := Eq.trans (if_neg c3).symm h
        refine lv_aload_n hx hb d_Ker_work_36 rfl (lv_at hl 1 rfl) ?_
        refine kf_Ker_frames S E hI.1 vt_52 d_Ker_work_37 ?_
        refine kg_p (As := []) (rest := []) (k_Fra_isEmpty (l := l) (g := g) (α := β) ) S E hI.1 kw_Ker_180 ⟨Nat.le_of_ble_eq_true rfl, Nat.le_of_ble_eq_true rfl⟩ hI.room (kv_Fra E hI.1) rfl hl.1 rfl (Nat.le_of_ble_eq_true rfl) d_Ker_work_40 rfl ?_
        refine lv_if_ne (tgt := 585) hx hb d_Ker_work_43 (by decide) (fun c7 => ?_) (fun c7 => ?_)
        · replace h := Eq.trans (if_neg c7).symm h
          exact J585  _ _ _ _ _ _ _ h hI (lv_sub hl [1] rfl)
        · replace h := Eq.trans (if_pos c7).symm h
          refine lv_aload_n hx hb d_Ker_work_46 rfl (lv_at hl 1 rfl) ?_
          refine kf_Ker_frames S E hI.1 vt_52 d_Ker_work_47 ?_
          refine lv_iconst (v := 0) hx hb d_Ker_work_50 (by decide) ?_
          refine kg_p (As := [.int 0]) (rest := []) (k_Fra_top (l := l) (g := g) (α := β) 0) S E hI.1 kw_Ker_184 ⟨Nat.le_of_ble_eq_true rfl, Nat.le_of_ble_eq_true rfl⟩ hI.room (kv_Fra E hI.1) rfl hl.1 rfl (Nat.le_of_ble_eq_true rfl) d_Ker_work_51 rfl ?_
          by_cases c8 : (f_Fra_top 0 β) = 1
          · replace h := Eq.trans (if_pos c8).symm h
            refine lv_tableIn (off := 158) (tgt := 212) hx hb d_Ker_work_54 (by rw [c8]; decide) (by rw [c8]; decide) (by rw [c8]; rfl) (by decide) ?_
            refine lv_aload_n hx hb d_Ker_work_212 rfl (lv_at hl 1 rfl) ?_
            refine kf_Ker_reducer S E hI.1 vt_59 d_Ker_work_213 ?_
            refine kg_cV (As := []) (rest := []) h (k_Red_whnf (l := l) (g := g) (α := β) hfl N) S hlocks hno E hI kw_Ker_188 ⟨Nat.le_of_ble_eq_true rfl, Nat.le_of_ble_eq_true rfl⟩ (kv_Red E hI.1) rfl hl.1 rfl (Nat.le_of_ble_eq_true rfl) d_Ker_work_216 (fun α9 ad H locs cells slots e10 h hRm hI => ?_)
            refine lv_goto (tgt := 579) hx hb d_Ker_work_219 (by decide) ?_
            refine lv_iinc (v := (x1 + 1)) (lv' := [(1, .int (x1 + 1)), (0, .ref (kad g 0))]) hx hb d_Ker_work_579 hl (k := 0) rfl rfl (by decide) rfl (fun ls hl => ?_)
            refine lv_goto (tgt := 30) hx hb d_Ker_work_582 (by decide) ?_
            exact ih30 (x1 + 1) _ _ _ _ _ _ _ h hI (lv_sub hl [0, 1] rfl)
          · replace h := Eq.trans (if_neg c8).symm h
            have nc8 := ksw (z := 1) rfl c8
            by_cases c11 : (f_Fra_top 0 β) = 2
            · replace h := Eq.trans (if_pos c11).symm h
              refine lv_tableIn (off := 168) (tgt := 222) hx hb d_Ker_work_54 (by rw [c11]; decide) (by rw [c11]; decide) (by rw [c11]; rfl) (by decide) ?_
              refine lv_aload_n hx hb d_Ker_work_222 rfl (lv_at hl 1 rfl) ?_
              refine kf_Ker_reducer S E hI.1 vt_59 d_Ker_work_223 ?_
              refine kg_cV (As := []) (rest := []) h (k_Red_whnfMajor (l := l) (g := g) (α := β) hfl N) S hlocks hno E hI kw_Ker_191 ⟨Nat.le_of_ble_eq_true rfl, Nat.le_of_ble_eq_true rfl⟩ (kv_Red E hI.1) rfl hl.1 rfl (Nat.le_of_ble_eq_true rfl) d_Ker_work_226 (fun α12 ad H locs cells slots e13 h hRm hI => ?_)
              refine lv_goto (tgt := 579) hx hb d_Ker_work_229 (by decide) ?_
              refine lv_iinc (v := (x1 + 1)) (lv' := [(1, .int (x1 + 1)), (0, .ref (kad g 0))]) hx hb d_Ker_work_579 hl (k := 0) rfl rfl (by decide) rfl (fun ls hl => ?_)
              refine lv_goto (tgt := 30) hx hb d_Ker_work_582 (by decide) ?_
              exact ih30 (x1 + 1) _ _ _ _ _ _ _ h hI (lv_sub hl [0, 1] rfl)
            · replace h := Eq.trans (if_neg c11).symm h
              have nc11 := ksw (z := 2) rfl c11
              by_cases c14 : (f_Fra_top 0 β) = 3
              · replace h := Eq.trans (if_pos c14).symm h
                refine lv_tableIn (off := 178) (tgt := 232) hx hb d_Ker_work_54 (by rw [c14]; decide) (by rw [c14]; decide) (by rw [c14]; rfl) (by decide) ?_
                refine lv_aload_n hx hb d_Ker_work_232 rfl (lv_at hl 1 rfl) ?_
                refine kf_Ker_reducer S E hI.1 vt_59 d_Ker_work_233 ?_
                refine kg_cV (As := []) (rest := []) h (k_Red_conv (l := l) (g := g) (α := β) hfl N) S hlocks hno E hI kw_Ker_194 ⟨Nat.le_of_ble_eq_true rfl, Nat.le_of_ble_eq_true rfl⟩ (kv_Red E hI.1) rfl hl.1 rfl (Nat.le_of_ble_eq_true rfl) d_Ker_work_236 (fun α15 ad H locs cells slots e16 h hRm hI => ?_)
                refine lv_goto (tgt := 579) hx hb d_Ker_work_239 (by decide) ?_
                refine lv_iinc (v := (x1 + 1)) (lv' := [(1, .int (x1 + 1)), (0, .ref (kad g 0))]) hx hb d_Ker_work_579 hl (k := 0) rfl rfl (by decide) rfl (fun ls hl => ?_)
                refine lv_goto (tgt := 30) hx hb d_Ker_work_582 (by decide) ?_
                exact ih30 (x1 + 1) _ _ _ _ _ _ _ h hI (lv_sub hl [0, 1] rfl)
              · replace h := Eq.trans (if_neg c14).symm h
                have nc14 := ksw (z := 3) rfl c14
                by_cases c17 : (f_Fra_top 0 β) = 4
                · replace h := Eq.trans (if_pos c17).symm h
                  refine lv_tableIn (off := 188) (tgt := 242) hx hb d_Ker_work_54 (by rw [c17]; decide) (by rw [c17]; decide) (by rw [c17]; rfl) (by decide) ?_
                  refine lv_aload_n hx hb d_Ker_work_242 rfl (lv_at hl 1 rfl) ?_
                  refine kf_Ker_reducer S E hI.1 vt_59 d_Ker_work_243 ?_
                  refine kg_cV (As := []) (rest := []) h (k_Red_convLeft (l := l) (g := g) (α := β) hfl N) S hlocks hno E hI kw_Ker_197 ⟨Nat.le_of_ble_eq_true rfl, Nat.le_of_ble_eq_true rfl⟩ (kv_Red E hI.1) rfl hl.1 rfl (Nat.le_of_ble_eq_true rfl) d_Ker_work_246 (fun α18 ad H locs cells slots e19 h hRm hI => ?_)
                  refine lv_goto (tgt := 579) hx hb d_Ker_work_249 (by decide) ?_
                  refine lv_iinc (v := (x1 + 1)) (lv' := [(1, .int (x1 + 1)), (0, .ref (kad g 0))]) hx hb d_Ker_work_579 hl (k := 0) rfl rfl (by decide) rfl (fun ls hl => ?_)
                  refine lv_goto (tgt := 30) hx hb d_Ker_work_582 (by decide) ?_
                  exact ih30 (x1 + 1) _ _ _ _ _ _ _ h hI (lv_sub hl [0, 1] rfl)
                · replace h := Eq.trans (if_neg c17).symm h
                  have nc17 := ksw (z := 4) rfl c17
                  by_cases c20 : (f_Fra_top 0 β) = 5
                  · replace h := Eq.trans (if_pos c20).symm h
                    refine lv_tableIn (off := 198) (tgt := 252) hx hb d_Ker_work_54 (by rw [c20]; decide) (by rw [c20]; decide) (by rw [c20]; rfl) (by decide) ?_
                    refine lv_aload_n hx hb d_Ker_work_252 rfl (lv_at hl 1 rfl) ?_
                    refine kf_Ker_reducer S E hI.1 vt_59 d_Ker_work_253 ?_
                    refine kg_cV (As := []) (rest := []) h (k_Red_convRight (l := l) (g := g) (α := β) hfl N) S hlocks hno E hI kw_Ker_200 ⟨Nat.le_of_ble_eq_true rfl, Nat.le_of_ble_eq_true rfl⟩ (kv_Red E hI.1) rfl hl.1 rfl (Nat.le_of_ble_eq_true rfl) d_Ker_work_256 (fun α21 ad H locs cells slots e22 h hRm hI => ?_)
                    refine lv_goto (tgt := 579) hx hb d_Ker_work_259 (by decide) ?_
                    refine lv_iinc (v := (x1 + 1)) (lv' := [(1, .int (x1 + 1)), (0, .ref (kad g 0))]) hx hb d_Ker_work_579 hl (k := 0) rfl rfl (by decide) rfl (fun ls hl => ?_)
                    refine lv_goto (tgt := 30) hx hb d_Ker_work_582 (by decide) ?_
                    exact ih30 (x1 + 1) _ _ _ _ _ _ _ h hI (lv_sub hl [0, 1] rfl)
                  · replace h := Eq.trans (if_neg c20).symm h
                    have nc20 := ksw (z := 5) rfl c20
                    by_cases c23 : (f_Fra_top 0 β) = 6
                    · replace h := Eq.trans (if_pos c23).symm h
                      refine lv_tableIn (off := 208) (tgt := 262) hx hb d_Ker_work_54 (by rw [c23]; decide) (by rw [c23]; decide) (by rw [c23]; rfl) (by decide) ?_
                      refine lv_aload_n hx hb d_Ker_work_262 rfl (lv_at hl 1 rfl) ?_
                      refine kf_Ker_reducer S E hI.1 vt_59 d_Ker_work_263 ?_
                      refine kg_cV (As := []) (rest := []) h (k_Red_convBodies (l := l) (g := g) (α := β) hfl N) S hlocks hno E hI kw_Ker_203 ⟨Nat.le_of_ble_eq_true rfl, Nat.le_of_ble_eq_true rfl⟩ (kv_Red E hI.1) rfl hl.1 rfl (Nat.le_of_ble_eq_true rfl) d_Ker_work_266 (fun α24 ad H locs cells slots e25 h hRm hI => ?_)
                      refine lv_goto (tgt := 579) hx hb d_Ker_work_269 (by decide) ?_
                      refine lv_iinc (v := (x1 + 1)) (lv' := [(1, .int (x1 + 1)), (0, .ref (kad g 0))]) hx hb d_Ker_work_579 hl (k := 0) rfl rfl (by decide) rfl (fun ls hl => ?_)
                      refine lv_goto (tgt := 30) hx hb d_Ker_work_582 (by decide) ?_
                      exact ih30 (x1 + 1) _ _ _ _ _ _ _ h hI (lv_sub hl [0, 1] rfl)
                    · replace h := Eq.trans (if_neg c23).symm h
                      have nc23 := ksw (z := 6) rfl c23
                      by_cases c26 : (f_Fra_top 0 β) = 7
                      · replace h := Eq.trans (if_pos c26).symm h
                        refine lv_tableIn (off := 218) (tgt := 272) hx hb d_Ker_work_54 (by rw [c26]; decide) (by rw [c26]; decide) (by rw [c26]; rfl) (by decide) ?_
                        refine lv_aload_n hx hb d_Ker_work_272 rfl (lv_at hl 1 rfl) ?_
                        refine kf_Ker_reducer S E hI.1 vt_59 d_Ker_work_273 ?_
                        refine kg_tV (As := []) (rest := []) (k_Red_convLeave (l := l) (g := g) (α := β) ) S hlocks hno E hI kw_Ker_206 ⟨Nat.le_of_ble_eq_true rfl, Nat.le_of_ble_eq_true rfl⟩ (kv_Red E hI.1) rfl hl.1 rfl (Nat.le_of_ble_eq_true rfl) d_Ker_work_276 (fun ad H locs cells slots hRm hI => ?_)
                        refine lv_goto (tgt := 579) hx hb d_Ker_work_279 (by decide) ?_
                        refine lv_iinc (v := (x1 + 1)) (lv' := [(1, .int (x1 + 1)), (0, .ref (kad g 0))]) hx hb d_Ker_work_579 hl (k := 0) rfl rfl (by decide) rfl (fun ls hl => ?_)
                        refine lv_goto (tgt := 30) hx hb d_Ker_work_582 (by decide) ?_
                        exact ih30 (x1 + 1) _ _ _ _ _ _ _ h hI (lv_sub hl [0, 1] rfl)
                      · replace h := Eq.trans (if_neg c26).symm h
                        have nc26 := ksw (z := 7) rfl c26
                        by_cases c27 : (f_Fra_top 0 β) = 8
                        · replace h := Eq.trans (if_pos c27).symm h
                          refine lv_tableIn (off := 228) (tgt := 282) hx hb d_Ker_work_54 (by rw [c27]; decide) (by rw [c27]; decide) (by rw [c27]; rfl) (by decide) ?_
                          refine lv_aload_n hx hb d_Ker_work_282 rfl (lv_at hl 1 rfl) ?_
                          refine kf_Ker_reducer S E hI.1 vt_59 d_Ker_work_283 ?_
                          refine kg_cV (As := []) (rest := []) h (k_Red_convArguments (l := l) (g := g) (α := β) hfl N) S hlocks hno E hI kw_Ker_209 ⟨Nat.le_of_ble_eq_true rfl, Nat.le_of_ble_eq_true rfl⟩ (kv_Red E hI.1) rfl hl.1 rfl (Nat.le_of_ble_eq_true rfl) d_Ker_work_286 (fun α28 ad H locs cells slots e29 h hRm hI => ?_)
                          refine lv_goto (tgt := 579) hx hb d_Ker_work_289 (by decide) ?_
                          refine lv_iinc (v := (x1 + 1)) (lv' := [(1, .int (x1 + 1)), (0, .ref (kad g 0))]) hx hb d_Ker_work_579 hl (k := 0) rfl rfl (by decide) rfl (fun ls hl => ?_)
                          refine lv_goto (tgt := 30) hx hb d_Ker_work_582 (by decide) ?_
                          exact ih30 (x1 + 1) _ _ _ _ _ _ _ h hI (lv_sub hl [0, 1] rfl)
                        · replace h := Eq.trans (if_neg c27).symm h
                          have nc27 := ksw (z := 8) rfl c27
                          by_cases c30 : (f_Fra_top 0 β) = 9
                          · replace h := Eq.trans (if_pos c30).symm h
                            refine lv_tableIn (off := 238) (tgt := 292) hx hb d_Ker_work_54 (by rw [c30]; decide) (by rw [c30]; decide) (by rw [c30]; rfl) (by decide) ?_
                            refine lv_aload_n hx hb d_Ker_work_292 rfl (lv_at hl 1 rfl) ?_
                            refine kf_Ker_reducer S E hI.1 vt_59 d_Ker_work_293 ?_
                            refine kg_cV (As := []) (rest := []) h (k_Red_normal (l := l) (g := g) (α := β) hfl N) S hlocks hno E hI kw_Ker_212 ⟨Nat.le_of_ble_eq_true rfl, Nat.le_of_ble_eq_true rfl⟩ (kv_Red E hI.1) rfl hl.1 rfl (Nat.le_of_ble_eq_true rfl) d_Ker_work_296 (fun α31 ad H locs cells slots e32 h hRm hI => ?_)
                            refine lv_goto (tgt := 579) hx hb d_Ker_work_299 (by decide) ?_
                            refine lv_iinc (v := (x1 + 1)) (lv' := [(1, .int (x1 + 1)), (0, .ref (kad g 0))]) hx hb d_Ker_work_579 hl (k := 0) rfl rfl (by decide) rfl (fun ls hl => ?_)
                            refine lv_goto (tgt := 30) hx hb d_Ker_work_582 (by decide) ?_
                            exact ih30 (x1 + 1) _ _ _ _ _ _ _ h hI (lv_sub hl [0, 1] rfl)
                          · replace h := Eq.trans (if_neg c30).symm h
                            have nc30 := ksw (z := 9) rfl c30
                            by_cases c33 : (f_Fra_top 0 β) = 10
                            · replace h := Eq.trans (if_pos c33).symm h
                              refine lv_tableIn (off := 248) (tgt := 302) hx hb d_Ker_work_54 (by rw [c33]; decide) (by rw [c33]; decide) (by rw [c33]; rfl) (by decide) ?_
                              refine lv_aload_n hx hb d_Ker_work_302 rfl (lv_at hl 1 rfl) ?_
                              refine kf_Ker_reducer S E hI.1 vt_59 d_Ker_work_303 ?_
                              refine kg_cV (As := []) (rest := []) h (k_Red_normalSplit (l := l) (g := g) (α := β) hfl N) S hlocks hno E hI kw_Ker_215 ⟨Nat.le_of_ble_eq_true rfl, Nat.le_of_ble_eq_true rfl⟩ (kv_Red E hI.1) rfl hl.1 rfl (Nat.le_of_ble_eq_true rfl) d_Ker_work_306 (fun α34 ad H locs cells slots e35 h hRm hI => ?_)
                              refine lv_goto (tgt := 579) hx hb d_Ker_work_309 (by decide) ?_
                              refine lv_iinc (v := (x1 + 1)) (lv' := [(1, .int (x1 + 1)), (0, .ref (kad g 0))]) hx hb d_Ker_work_579 hl (k := 0) rfl rfl (by decide) rfl (fun ls hl => ?_)
                              refine lv_goto (tgt := 30) hx hb d_Ker_work_582 (by decide) ?_
                              exact ih30 (x1 + 1) _ _ _ _ _ _ _ h hI (lv_sub hl [0, 1] rfl)
                            · replace h := Eq.trans (if_neg c33).symm h
                              have nc33 := ksw (z := 10) rfl c33
                              by_cases c36 : (f_Fra_top 0 β) = 11
                              · replace h := Eq.trans (if_pos c36).symm h
                                refine lv_tableIn (off := 258) (tgt := 312) hx hb d_Ker_work_54 (by rw [c36]; decide) (by rw [c36]; decide) (by rw [c36]; rfl) (by decide) ?_
                                refine lv_aload_n hx hb d_Ker_work_312 rfl (lv_at hl 1 rfl) ?_
                                refine kf_Ker_reducer S E hI.1 vt_59 d_Ker_work_313 ?_
                                refine kg_cV (As := []) (rest := []) h (k_Red_normalBody (l := l) (g := g) (α := β) hfl N) S hlocks hno E hI kw_Ker_218 ⟨Nat.le_of_ble_eq_true rfl, Nat.le_of_ble_eq_true rfl⟩ (kv_Red E hI.1) rfl hl.1 rfl (Nat.le_of_ble_eq_true rfl) d_Ker_work_316 (fun α37 ad H locs cells slots e38 h hRm hI => ?_)
                                refine lv_goto (tgt := 579) hx hb d_Ker_work_319 (by decide) ?_
                                refine lv_iinc (v := (x1 + 1)) (lv' := [(1, .int (x1 + 1)), (0, .ref (kad g 0))]) hx hb d_Ker_work_579 hl (k := 0) rfl rfl (by decide) rfl (fun ls hl => ?_)
                                refine lv_goto (tgt := 30) hx hb d_Ker_work_582 (by decide) ?_
                                exact ih30 (x1 + 1) _ _ _ _ _ _ _ h hI (lv_sub hl [0, 1] rfl)
                              · replace h := Eq.trans (if_neg c36).symm h
                                have nc36 := ksw (z := 11) rfl c36
                                by_cases c39 : (f_Fra_top 0 β) = 12
                                · replace h := Eq.trans (if_pos c39).symm h
                                  refine lv_tableIn (off := 268) (tgt := 322) hx hb d_Ker_work_54 (by rw [c39]; decide) (by rw [c39]; decide) (by rw [c39]; rfl) (by decide) ?_
                                  refine lv_aload_n hx hb d_Ker_work_322 rfl (lv_at hl 1 rfl) ?_
                                  refine kf_Ker_reducer S E hI.1 vt_59 d_Ker_work_323 ?_
                                  refine kg_cV (As := []) (rest := []) h (k_Red_normalClose (l := l) (g := g) (α := β) hfl N) S hlocks hno E hI kw_Ker_221 ⟨Nat.le_of_ble_eq_true rfl, Nat.le_of_ble_eq_true rfl⟩ (kv_Red E hI.1) rfl hl.1 rfl (Nat.le_of_ble_eq_true rfl) d_Ker_work_326 (fun α40 ad H locs cells slots e41 h hRm hI => ?_)
                                  refine lv_goto (tgt := 579) hx hb d_Ker_work_329 (by decide) ?_
                                  refine lv_iinc (v := (x1 + 1)) (lv' := [(1, .int (x1 + 1)), (0, .ref (kad g 0))]) hx hb d_Ker_work_579 hl (k := 0) rfl rfl (by decide) rfl (fun ls hl => ?_)
                                  refine lv_goto (tgt := 30) hx hb d_Ker_work_582 (by decide) ?_
                                  exact ih30 (x1 + 1) _ _ _ _ _ _ _ h hI (lv_sub hl [0, 1] rfl)
                                · replace h := Eq.trans (if_neg c39).symm h
                                  have nc39 := ksw (z := 12) rfl c39
                                  by_cases c42 : (f_Fra_top 0 β) = 13
                                  · replace h := Eq.trans (if_pos c42).symm h
                                    refine lv_tableIn (off := 278) (tgt := 332) hx hb d_Ker_work_54 (by rw [c42]; decide) (by rw [c42]; decide) (by rw [c42]; rfl) (by decide) ?_
                                    refine lv_aload_n hx hb d_Ker_work_332 rfl (lv_at hl 1 rfl) ?_
                                    refine kf_Ker_reducer S E hI.1 vt_59 d_Ker_work_333 ?_
                                    refine kg_cV (As := []) (rest := []) h (k_Red_normalArgument (l := l) (g := g) (α := β) hfl N) S hlocks hno E hI kw_Ker_224 ⟨Nat.le_of_ble_eq_true rfl, Nat.le_of_ble_eq_true rfl⟩ (kv_Red E hI.1) rfl hl.1 rfl (Nat.le_of_ble_eq_true rfl) d_Ker_work_336 (fun α43 ad H locs cells slots e44 h hRm hI => ?_)
                                    refine lv_goto (tgt := 579) hx hb d_Ker_work_339 (by decide) ?_
                                    refine lv_iinc (v := (x1 + 1)) (lv' := [(1, .int (x1 + 1)), (0, .ref (kad g 0))]) hx hb d_Ker_work_579 hl (k := 0) rfl rfl (by decide) rfl (fun ls hl => ?_)
                                    refine lv_goto (tgt := 30) hx hb d_Ker_work_582 (by decide) ?_
                                    exact ih30 (x1 + 1) _ _ _ _ _ _ _ h hI (lv_sub hl [0, 1] rfl)
                                  · replace h := Eq.trans (if_neg c42).symm h
                                    have nc42 := ksw (z := 13) rfl c42
                                    by_cases c45 : (f_Fra_top 0 β) = 14
                                    · replace h := Eq.trans (if_pos c45).symm h
                                      refine lv_tableIn (off := 288) (tgt := 342) hx hb d_Ker_work_54 (by rw [c45]; decide) (by rw [c45]; decide) (by rw [c45]; rfl) (by decide) ?_
                                      refine lv_aload_n hx hb d_Ker_work_342 rfl (lv_at hl 1 rfl) ?_
                                      refine kf_Ker_reducer S E hI.1 vt_59 d_Ker_work_343 ?_
                                      refine kg_cV (As := []) (rest := []) h (k_Red_normalApply (l := l) (g := g) (α := β) hfl N) S hlocks hno E hI kw_Ker_227 ⟨Nat.le_of_ble_eq_true rfl, Nat.le_of_ble_eq_true rfl⟩ (kv_Red E hI.1) rfl hl.1 rfl (Nat.le_of_ble_eq_true rfl) d_Ker_work_346 (fun α46 ad H locs cells slots e47 h hRm hI => ?_)
                                      refine lv_goto (tgt := 579) hx hb d_Ker_work_349 (by decide) ?_
                                      refine lv_iinc (v := (x1 + 1)) (lv' := [(1, .int (x1 + 1)), (0, .ref (kad g 0))]) hx hb d_Ker_work_579 hl (k := 0) rfl rfl (by decide) rfl (fun ls hl => ?_)
                                      refine lv_goto (tgt := 30) hx hb d_Ker_work_582 (by decide) ?_
                                      exact ih30 (x1 + 1) _ _ _ _ _ _ _ h hI (lv_sub hl [0, 1] rfl)
                                    · replace h := Eq.trans (if_neg c45).symm h
                                      have nc45 := ksw (z := 14) rfl c45
                                      by_cases c48 : (f_Fra_top 0 β) = 15
                                      · replace h := Eq.trans (if_pos c48).symm h
                                        refine lv_tableIn (off := 298) (tgt := 352) hx hb d_Ker_work_54 (by rw [c48]; decide) (by rw [c48]; decide) (by rw [c48]; rfl) (by decide) ?_
                                        refine lv_aload_n hx hb d_Ker_work_352 rfl (lv_at hl 1 rfl) ?_
                                        refine kf_Ker_typer S E hI.1 vt_66 d_Ker_work_353 ?_
                                        refine kg_cV (As := []) (rest := []) h (k_Typ_infer (l := l) (g := g) (α := β) hfl N) S hlocks hno E hI kw_Ker_230 ⟨Nat.le_of_ble_eq_true rfl, Nat.le_of_ble_eq_true rfl⟩ (kv_Typ E hI.1) rfl hl.1 rfl (Nat.le_of_ble_eq_true rfl) d_Ker_work_356 (fun α49 ad H locs cells slots e50 h hRm hI => ?_)
                                        refine lv_goto (tgt := 579) hx hb d_Ker_work_359 (by decide) ?_
                                        refine lv_iinc (v := (x1 + 1)) (lv' := [(1, .int (x1 + 1)), (0, .ref (kad g 0))]) hx hb d_Ker_work_579 hl (k := 0) rfl rfl (by decide) rfl (fun ls hl => ?_)
                                        refine lv_goto (tgt := 30) hx hb d_Ker_work_582 (by decide) ?_
                                        exact ih30 (x1 + 1) _ _ _ _ _ _ _ h hI (lv_sub hl [0, 1] rfl)
                                      · replace h := Eq.trans (if_neg c48).symm h
                                        have nc48 := ksw (z := 15) rfl c48
                                        by_cases c51 : (f_Fra_top 0 β) = 16
                                        · replace h := Eq.trans (if_pos c51).symm h
                                          refine lv_tableIn (off := 308) (tgt := 362) hx hb d_Ker_work_54 (by rw [c51]; decide) (by rw [c51]; decide) (by rw [c51]; rfl) (by decide) ?_
                                          refine lv_aload_n hx hb d_Ker_work_362 rfl (lv_at hl 1 rfl) ?_
                                          refine kf_Ker_typer S E hI.1 vt_66 d_Ker_work_363 ?_
                                          refine kg_cV (As := []) (rest := []) h (k_Typ_piBody (l := l) (g := g) (α := β) hfl N) S hlocks hno E hI kw_Ker_233 ⟨Nat.le_of_ble_eq_true rfl, Nat.le_of_ble_eq_true rfl⟩ (kv_Typ E hI.1) rfl hl.1 rfl (Nat.le_of_ble_eq_true rfl) d_Ker_work_366 (fun α52 ad H locs cells slots e53 h hRm hI => ?_)
                                          refine lv_goto (tgt := 579) hx hb d_Ker_work_369 (by decide) ?_
                                          refine lv_iinc (v := (x1 + 1)) (lv' := [(1, .int (x1 + 1)), (0, .ref (kad g 0))]) hx hb d_Ker_work_579 hl (k := 0) rfl rfl (by decide) rfl (fun ls hl => ?_)
                                          refine lv_goto (tgt := 30) hx hb d_Ker_work_582 (by decide) ?_
                                          exact ih30 (x1 + 1) _ _ _ _ _ _ _ h hI (lv_sub hl [0, 1] rfl)
                                        · replace h := Eq.trans (if_neg c51).symm h
                                          have nc51 := ksw (z := 16) rfl c51
                                          by_cases c54 : (f_Fra_top 0 β) = 17
                                          · replace h := Eq.trans (if_pos c54).symm h
                                            refine lv_tableIn (off := 318) (tgt := 372) hx hb d_Ker_work_54 (by rw [c54]; decide) (by rw [c54]; decide) (by rw [c54]; rfl) (by decide) ?_
                                            refine lv_aload_n hx hb d_Ker_work_372 rfl (lv_at hl 1 rfl) ?_
                                            refine kf_Ker_typer S E hI.1 vt_66 d_Ker_work_373 ?_
                                            refine kg_cV (As := []) (rest := []) h (k_Typ_piEnd (l := l) (g := g) (α := β) hfl N) S hlocks hno E hI kw_Ker_236 ⟨Nat.le_of_ble_eq_true rfl, Nat.le_of_ble_eq_true rfl⟩ (kv_Typ E hI.1) rfl hl.1 rfl (Nat.le_of_ble_eq_true rfl) d_Ker_work_376 (fun α55 ad H locs cells slots e56 h hRm hI => ?_)
                                            refine lv_goto (tgt := 579) hx hb d_Ker_work_379 (by decide) ?_
                                            refine lv_iinc (v := (x1 + 1)) (lv' := [(1, .int (x1 + 1)), (0, .ref (kad g 0))]) hx hb d_Ker_work_579 hl (k := 0) rfl rfl (by decide) rfl (fun ls hl => ?_)
                                            refine lv_goto (tgt := 30) hx hb d_Ker_work_582 (by decide) ?_
                                            exact ih30 (x1 + 1) _ _ _ _ _ _ _ h hI (lv_sub hl [0, 1] rfl)
                                          · replace h := Eq.trans (if_neg c54).symm h
                                            have nc54 := ksw (z := 17) rfl c54
                                            by_cases c57 : (f_Fra_top 0 β) = 18
                                            · replace h := Eq.trans (if_pos c57).symm h
                                              refine lv_tableIn (off := 328) (tgt := 382) hx hb d_Ker_work_54 (by rw [c57]; decide) (by rw [c57]; decide) (by rw [c57]; rfl) (by decide) ?_
                                              refine lv_aload_n hx hb d_Ker_work_382 rfl (lv_at hl 1 rfl) ?_
                                              refine kf_Ker_typer S E hI.1 vt_66 d_Ker_work_383 ?_
                                              refine kg_cV (As := []) (rest := []) h (k_Typ_lamBody (l := l) (g := g) (α := β) hfl N) S hlocks hno E hI kw_Ker_239 ⟨Nat.le_of_ble_eq_true rfl, Nat.le_of_ble_eq_true rfl⟩ (kv_Typ E hI.1) rfl hl.1 rfl (Nat.le_of_ble_eq_true rfl) d_Ker_work_386 (fun α58 ad H locs cells slots e59 h hRm hI => ?_)
                                              refine lv_goto (tgt := 579) hx hb d_Ker_work_389 (by decide) ?_
                                              refine lv_iinc (v := (x1 + 1)) (lv' := [(1, .int (x1 + 1)), (0, .ref (kad g 0))]) hx hb d_Ker_work_579 hl (k := 0) rfl rfl (by decide) rfl (fun ls hl => ?_)
                                              refine lv_goto (tgt := 30) hx hb d_Ker_work_582 (by decide) ?_
                                              exact ih30 (x1 + 1) _ _ _ _ _ _ _ h hI (lv_sub hl [0, 1] rfl)
                                            · replace h := Eq.trans (if_neg c57).symm h
                                              have nc57 := ksw (z := 18) rfl c57
                                              by_cases c60 : (f_Fra_top 0 β) = 19
                                              · replace h := Eq.trans (if_pos c60).symm h
                                                refine lv_tableIn (off := 338) (tgt := 392) hx hb d_Ker_work_54 (by rw [c60]; decide) (by rw [c60]; decide) (by rw [c60]; rfl) (by decide) ?_
                                                refine lv_aload_n hx hb d_Ker_work_392 rfl (lv_at hl 1 rfl) ?_
                                                refine kf_Ker_typer S E hI.1 vt_66 d_Ker_work_393 ?_
                                                refine kg_cV (As := []) (rest := []) h (k_Typ_lamEnd (l := l) (g := g) (α := β) hfl N) S hlocks hno E hI kw_Ker_242 ⟨Nat.le_of_ble_eq_true rfl, Nat.le_of_ble_eq_true rfl⟩ (kv_Typ E hI.1) rfl hl.1 rfl (Nat.le_of_ble_eq_true rfl) d_Ker_work_396 (fun α61 ad H locs cells slots e62 h hRm hI => ?_)
                                                refine lv_goto (tgt := 579) hx hb d_Ker_work_399 (by decide) ?_
                                                refine lv_iinc (v := (x1 + 1)) (lv' := [(1, .int (x1 + 1)), (0, .ref (kad g 0))]) hx hb d_Ker_work_579 hl (k := 0) rfl rfl (by decide) rfl (fun ls hl => ?_)
                                                refine lv_goto (tgt := 30) hx hb d_Ker_work_582 (by decide) ?_
                                                exact ih30 (x1 + 1) _ _ _ _ _ _ _ h hI (lv_sub hl [0, 1] rfl)
                                              · replace h := Eq.trans (if_neg c60).symm h
                                                have nc60 := ksw (z := 19) rfl c60
                                                by_cases c63 : (f_Fra_top 0 β) = 20
                                                · replace h := Eq.trans (if_pos c63).symm h
                                                  refine lv_tableIn (off := 348) (tgt := 402) hx hb d_Ker_work_54 (by rw [c63]; decide) (by rw [c63]; decide) (by rw [c63]; rfl) (by decide) ?_
                                                  refine lv_aload_n hx hb d_Ker_work_402 rfl (lv_at hl 1 rfl) ?_
                                                  refine kf_Ker_typer S E hI.1 vt_66 d_Ker_work_403 ?_
                                                  refine kg_cV (As := []) (rest := []) h (k_Typ_letValue (l := l) (g := g) (α := β) hfl N) S hlocks hno E hI kw_Ker_245 ⟨Nat.le_of_ble_eq_true rfl, Nat.le_of_ble_eq_true rfl⟩ (kv_Typ E hI.1) rfl hl.1 rfl (Nat.le_of_ble_eq_true rfl) d_Ker_work_406 (fun α64 ad H locs cells slots e65 h hRm hI => ?_)
                                                  refine lv_goto (tgt := 579) hx hb d_Ker_work_409 (by decide) ?_
                                                  refine lv_iinc (v := (x1 + 1)) (lv' := [(1, .int (x1 + 1)), (0, .ref (kad g 0))]) hx hb d_Ker_work_579 hl (k := 0) rfl rfl (by decide) rfl (fun ls hl => ?_)
                                                  refine lv_goto (tgt := 30) hx hb d_Ker_work_582 (by decide) ?_
                                                  exact ih30 (x1 + 1) _ _ _ _ _ _ _ h hI (lv_sub hl [0, 1] rfl)
                                                · replace h := Eq.trans (if_neg c63).symm h
                                                  have nc63 := ksw (z := 20) rfl c63
                                                  by_cases c66 : (f_Fra_top 0 β) = 21
                                                  · replace h := Eq.trans (if_pos c66).symm h
                                                    refine lv_tableIn (off := 358) (tgt := 412) hx hb d_Ker_work_54 (by rw [c66]; decide) (by rw [c66]; decide) (by rw [c66]; rfl) (by decide) ?_
                                                    refine lv_aload_n hx hb d_Ker_work_412 rfl (lv_at hl 1 rfl) ?_
                                                    refine kf_Ker_typer S E hI.1 vt_66 d_Ker_work_413 ?_
                                                    refine kg_cV (As := []) (rest := []) h (k_Typ_letBody (l := l) (g := g) (α := β) hfl N) S hlocks hno E hI kw_Ker_248 ⟨Nat.le_of_ble_eq_true rfl, Nat.le_of_ble_eq_true rfl⟩ (kv_Typ E hI.1) rfl hl.1 rfl (Nat.le_of_ble_eq_true rfl) d_Ker_work_416 (fun α67 ad H locs cells slots e68 h hRm hI => ?_)
                                                    refine lv_goto (tgt := 579) hx hb d_Ker_work_419 (by decide) ?_
                                                    refine lv_iinc (v := (x1 + 1)) (lv' := [(1, .int (x1 + 1)), (0, .ref (kad g 0))]) hx hb d_Ker_work_579 hl (k := 0) rfl rfl (by decide) rfl (fun ls hl => ?_)
                                                    refine lv_goto (tgt := 30) hx hb d_Ker_work_582 (by decide) ?_
                                                    exact ih30 (x1 + 1) _ _ _ _ _ _ _ h hI (lv_sub hl [0, 1] rfl)
                                                  · replace h := Eq.trans (if_neg c66).symm h
                                                    have nc66 := ksw (z := 21) rfl c66
                                                    by_cases c69 : (f_Fra_top 0 β) = 22
                                                    · replace h := Eq.trans (if_pos c69).symm h
                                                      refine lv_tableIn (off := 368) (tgt := 422) hx hb d_Ker_work_54 (by rw [c69]; decide) (by rw [c69]; decide) (by rw [c69]; rfl) (by decide) ?_
                                                      refine lv_aload_n hx hb d_Ker_work_422 rfl (lv_at hl 1 rfl) ?_
                                                      refine kf_Ker_typer S E hI.1 vt_66 d_Ker_work_423 ?_
                                                      refine kg_cV (As := []) (rest := []) h (k_Typ_appType (l := l) (g := g) (α := β) hfl N) S hlocks hno E hI kw_Ker_251 ⟨Nat.le_of_ble_eq_true rfl, Nat.le_of_ble_eq_true rfl⟩ (kv_Typ E hI.1) rfl hl.1 rfl (Nat.le_of_ble_eq_true rfl) d_Ker_work_426 (fun α70 ad H locs cells slots e71 h hRm hI => ?_)
                                                      refine lv_goto (tgt := 579) hx hb d_Ker_work_429 (by decide) ?_
                                                      refine lv_iinc (v := (x1 + 1)) (lv' := [(1, .int (x1 + 1)), (0, .ref (kad g 0))]) hx hb d_Ker_work_579 hl (k := 0) rfl rfl (by decide) rfl (fun ls hl => ?_)
                                                      refine lv_goto (tgt := 30) hx hb d_Ker_work_582 (by decide) ?_
                                                      exact ih30 (x1 + 1) _ _ _ _ _ _ _ h hI (lv_sub hl [0, 1] rfl)
                                                    · replace h := Eq.trans (if_neg c69).symm h
                                                      have nc69 := ksw (z := 22) rfl c69
                                                      by_cases c72 : (f_Fra_top 0 β) = 23
                                                      · replace h := Eq.trans (if_pos c72).symm h
                                                        refine lv_tableIn (off := 378) (tgt := 432) hx hb d_Ker_work_54 (by rw [c72]; decide) (by rw [c72]; decide) (by rw [c72]; rfl) (by decide) ?_
                                                        refine lv_aload_n hx hb d_Ker_work_432 rfl (lv_at hl 1 rfl) ?_
                                                        refine kf_Ker_typer S E hI.1 vt_66 d_Ker_work_433 ?_
                                                        refine kg_cV (As := []) (rest := []) h (k_Typ_appArgument (l := l) (g := g) (α := β) hfl N) S hlocks hno E hI kw_Ker_254 ⟨Nat.le_of_ble_eq_true rfl, Nat.le_of_ble_eq_true rfl⟩ (kv_Typ E hI.1) rfl hl.1 rfl (Nat.le_of_ble_eq_true rfl) d_Ker_work_436 (fun α73 ad H locs cells slots e74 h hRm hI => ?_)
                                                        refine lv_goto (tgt := 579) hx hb d_Ker_work_439 (by decide) ?_
                                                        refine lv_iinc (v := (x1 + 1)) (lv' := [(1, .int (x1 + 1)), (0, .ref (kad g 0))]) hx hb d_Ker_work_579 hl (k := 0) rfl rfl (by decide) rfl (fun ls hl => ?_)
                                                        refine lv_goto (tgt := 30) hx hb d_Ker_work_582 (by decide) ?_
                                                        exact ih30 (x1 + 1) _ _ _ _ _ _ _ h hI (lv_sub hl [0, 1] rfl)
                                                      · replace h := Eq.trans (if_neg c72).symm h
                                                        have nc72 := ksw (z := 23) rfl c72
                                                        by_cases c75 : (f_Fra_top 0 β) = 24
                                                        · replace h := Eq.trans (if_pos c75).symm h
                                                          refine lv_tableIn (off := 388) (tgt := 442) hx hb d_Ker_work_54 (by rw [c75]; decide) (by rw [c75]; decide) (by rw [c75]; rfl) (by decide) ?_
                                                          refine lv_aload_n hx hb d_Ker_work_442 rfl (lv_at hl 1 rfl) ?_
                                                          refine kf_Ker_typer S E hI.1 vt_66 d_Ker_work_443 ?_
                                                          refine kg_cV (As := []) (rest := []) h (k_Typ_appOpen (l := l) (g := g) (α := β) hfl N) S hlocks hno E hI kw_Ker_257 ⟨Nat.le_of_ble_eq_true rfl, Nat.le_of_ble_eq_true rfl⟩ (kv_Typ E hI.1) rfl hl.1 rfl (Nat.le_of_ble_eq_true rfl) d_Ker_work_446 (fun α76 ad H locs cells slots e77 h hRm hI => ?_)
                                                          refine lv_goto (tgt := 579) hx hb d_Ker_work_449 (by decide) ?_
                                                          refine lv_iinc (v := (x1 + 1)) (lv' := [(1, .int (x1 + 1)), (0, .ref (kad g 0))]) hx hb d_Ker_work_579 hl (k := 0) rfl rfl (by decide) rfl (fun ls hl => ?_)
                                                          refine lv_goto (tgt := 30) hx hb d_Ker_work_582 (by decide) ?_
                                                          exact ih30 (x1 + 1) _ _ _ _ _ _ _ h hI (lv_sub hl [0, 1] rfl)
                                                        · replace h := Eq.trans (if_neg c75).symm h
                                                          have nc75 := ksw (z := 24) rfl c75
                                                          by_cases c78 : (f_Fra_top 0 β) = 25
                                                          · replace h := Eq.trans (if_pos c78).symm h
                                                            refine lv_tableIn (off := 398) (tgt := 452) hx hb d_Ker_work_54 (by rw [c78]; decide) (by rw [c78]; decide) (by rw [c78]; rfl) (by decide) ?_
                                                            refine lv_aload_n hx hb d_Ker_work_452 rfl (lv_at hl 1 rfl) ?_
                                                            refine kf_Ker_typer S E hI.1 vt_66 d_Ker_work_453 ?_
                                                            refine kg_cV (As := []) (rest := []) h (k_Typ_sortType (l := l) (g := g) (α := β) hfl N) S hlocks hno E hI kw_Ker_260 ⟨Nat.le_of_ble_eq_true rfl, Nat.le_of_ble_eq_true rfl⟩ (kv_Typ E hI.1) rfl hl.1 rfl (Nat.le_of_ble_eq_true rfl) d_Ker_work_456 (fun α79 ad H locs cells slots e80 h hRm hI => ?_)
                                                            refine lv_goto (tgt := 579) hx hb d_Ker_work_459 (by decide) ?_
                                                            refine lv_iinc (v := (x1 + 1)) (lv' := [(1, .int (x1 + 1)), (0, .ref (kad g 0))]) hx hb d_Ker_work_579 hl (k := 0) rfl rfl (by decide) rfl (fun ls hl => ?_)
                                                            refine lv_goto (tgt := 30) hx hb d_Ker_work_582 (by decide) ?_
                                                            exact ih30 (x1 + 1) _ _ _ _ _ _ _ h hI (lv_sub hl [0, 1] rfl)
                                                          · replace h := Eq.trans (if_neg c78).symm h
                                                            have nc78 := ksw (z := 25) rfl c78
                                                            by_cases c81 : (f_Fra_top 0 β) = 26
                                                            · replace h := Eq.trans (if_pos c81).symm h
                                                              refine lv_tableIn (off := 408) (tgt := 462) hx hb d_Ker_work_54 (by rw [c81]; decide) (by rw [c81]; decide) (by rw [c81]; rfl) (by decide) ?_
                                                              refine lv_aload_n hx hb d_Ker_work_462 rfl (lv_at hl 1 rfl) ?_
                                                              refine kf_Ker_typer S E hI.1 vt_66 d_Ker_work_463 ?_
                                                              refine kg_cV (As := []) (rest := []) h (k_Typ_sortEnd (l := l) (g := g) (α := β) hfl N) S hlocks hno E hI kw_Ker_263 ⟨Nat.le_of_ble_eq_true rfl, Nat.le_of_ble_eq_true rfl⟩ (kv_Typ E hI.1) rfl hl.1 rfl (Nat.le_of_ble_eq_true rfl) d_Ker_work_466 (fun α82 ad H locs cells slots e83 h hRm hI => ?_)
                                                              refine lv_goto (tgt := 579) hx hb d_Ker_work_469 (by decide) ?_
                                                              refine lv_iinc (v := (x1 + 1)) (lv' := [(1, .int (x1 + 1)), (0, .ref (kad g 0))]) hx hb d_Ker_work_579 hl (k := 0) rfl rfl (by decide) rfl (fun ls hl => ?_)
                                                              refine lv_goto (tgt := 30) hx hb d_Ker_work_582 (by decide) ?_
                                                              exact ih30 (x1 + 1) _ _ _ _ _ _ _ h hI (lv_sub hl [0, 1] rfl)
                                                            · replace h := Eq.trans (if_neg c81).symm h
                                                              have nc81 := ksw (z := 26) rfl c81
                                                              by_cases c84 : (f_Fra_top 0 β) = 27
                                                              · replace h := Eq.trans (if_pos c84).symm h
                                                                refine lv_tableIn (off := 418) (tgt := 472) hx hb d_Ker_work_54 (by rw [c84]; decide) (by rw [c84]; decide) (by rw [c84]; rfl) (by decide) ?_
                                                                refine lv_aload_n hx hb d_Ker_work_472 rfl (lv_at hl 1 rfl) ?_
                                                                refine kf_Ker_typer S E hI.1 vt_66 d_Ker_work_473 ?_
                                                                refine kg_cV (As := []) (rest := []) h (k_Typ_checkType (l := l) (g := g) (α := β) hfl N) S hlocks hno E hI kw_Ker_266 ⟨Nat.le_of_ble_eq_true rfl, Nat.le_of_ble_eq_true rfl⟩ (kv_Typ E hI.1) rfl hl.1 rfl (Nat.le_of_ble_eq_true rfl) d_Ker_work_476 (fun α85 ad H locs cells slots e86 h hRm hI => ?_)
                                                                refine lv_goto (tgt := 579) hx hb d_Ker_work_479 (by decide) ?_
                                                                refine lv_iinc (v := (x1 + 1)) (lv' := [(1, .int (x1 + 1)), (0, .ref (kad g 0))]) hx hb d_Ker_work_579 hl (k := 0) rfl rfl (by decide) rfl (fun ls hl => ?_)
                                                                refine lv_goto (tgt := 30) hx hb d_Ker_work_582 (by decide) ?_
                                                                exact ih30 (x1 + 1) _ _ _ _ _ _ _ h hI (lv_sub hl [0, 1] rfl)
                                                              · replace h := Eq.trans (if_neg c84).symm h
                                                                have nc84 := ksw (z := 27) rfl c84
                                                                by_cases c87 : (f_Fra_top 0 β) = 28
                                                                · replace h := Eq.trans (if_pos c87).symm h
                                                                  refine lv_tableIn (off := 428) (tgt := 482) hx hb d_Ker_work_54 (by rw [c87]; decide) (by rw [c87]; decide) (by rw [c87]; rfl) (by decide) ?_
                                                                  refine lv_aload_n hx hb d_Ker_work_482 rfl (lv_at hl 1 rfl) ?_
                                                                  refine kf_Ker_typer S E hI.1 vt_66 d_Ker_work_483 ?_
                                                                  refine kg_cV (As := []) (rest := []) h (k_Typ_declare (l := l) (g := g) (α := β) hfl N) S hlocks hno E hI kw_Ker_269 ⟨Nat.le_of_ble_eq_true rfl, Nat.le_of_ble_eq_true rfl⟩ (kv_Typ E hI.1) rfl hl.1 rfl (Nat.le_of_ble_eq_true rfl) d_Ker_work_486 (fun α88 ad H locs cells slots e89 h hRm hI => ?_)
                                                                  refine lv_goto (tgt := 579) hx hb d_Ker_work_489 (by decide) ?_
                                                                  refine lv_iinc (v := (x1 + 1)) (lv' := [(1, .int (x1 + 1)), (0, .ref (kad g 0))]) hx hb d_Ker_work_579 hl (k := 0) rfl rfl (by decide) rfl (fun ls hl => ?_)
                                                                  refine lv_goto (tgt := 30) hx hb d_Ker_work_582 (by decide) ?_
                                                                  exact ih30 (x1 + 1) _ _ _ _ _ _ _ h hI (lv_sub hl [0, 1] rfl)
                                                                · replace h := Eq.trans (if_neg c87).symm h
                                                                  have nc87 := ksw (z := 28) rfl c87
                                                                  by_cases c90 : (f_Fra_top 0 β) = 29
                                                                  · replace h := Eq.trans (if_pos c90).symm h
                                                                    refine lv_tableIn (off := 438) (tgt := 492) hx hb d_Ker_work_54 (by rw [c90]; decide) (by rw [c90]; decide) (by rw [c90]; rfl) (by decide) ?_
                                                                    refine lv_aload_n hx hb d_Ker_work_492 rfl (lv_at hl 1 rfl) ?_
                                                                    refine kf_Ker_typer S E hI.1 vt_66 d_Ker_work_493 ?_
                                                                    refine kg_cV (As := []) (rest := []) h (k_Typ_declareValue (l := l) (g := g) (α := β) hfl N) S hlocks hno E hI kw_Ker_272 ⟨Nat.le_of_ble_eq_true rfl, Nat.le_of_ble_eq_true rfl⟩ (kv_Typ E hI.1) rfl hl.1 rfl (Nat.le_of_ble_eq_true rfl) d_Ker_work_496 (fun α91 ad H locs cells slots e92 h hRm hI => ?_)
                                                                    refine lv_goto (tgt := 579) hx hb d_Ker_work_499 (by decide) ?_
                                                                    refine lv_iinc (v := (x1 + 1)) (lv' := [(1, .int (x1 + 1)), (0, .ref (kad g 0))]) hx hb d_Ker_work_579 hl (k := 0) rfl rfl (by decide) rfl (fun ls hl => ?_)
                                                                    refine lv_goto (tgt := 30) hx hb d_Ker_work_582 (by decide) ?_
                                                                    exact ih30 (x1 + 1) _ _ _ _ _ _ _ h hI (lv_sub hl [0, 1] rfl)
                                                                  · replace h := Eq.trans (if_neg c90).symm h
                                                                    have nc90 := ksw (z := 29) rfl c90
                                                                    by_cases c93 : (f_Fra_top 0 β) = 30
                                                                    · replace h := Eq.trans (if_pos c93).symm h
                                                                      refine lv_tableIn (off := 448) (tgt := 502) hx hb d_Ker_work_54 (by rw [c93]; decide) (by rw [c93]; decide) (by rw [c93]; rfl) (by decide) ?_
                                                                      refine lv_aload_n hx hb d_Ker_work_502 rfl (lv_at hl 1 rfl) ?_
                                                                      refine kf_Ker_typer S E hI.1 vt_66 d_Ker_work_503 ?_
                                                                      refine kg_cV (As := []) (rest := []) h (k_Typ_eval (l := l) (g := g) (α := β) hfl N) S hlocks hno E hI kw_Ker_275 ⟨Nat.le_of_ble_eq_true rfl, Nat.le_of_ble_eq_true rfl⟩ (kv_Typ E hI.1) rfl hl.1 rfl (Nat.le_of_ble_eq_true rfl) d_Ker_work_506 (fun α94 ad H locs cells slots e95 h hRm hI => ?_)
                                                                      refine lv_goto (tgt := 579) hx hb d_Ker_work_509 (by decide) ?_
                                                                      refine lv_iinc (v := (x1 + 1)) (lv' := [(1, .int (x1 + 1)), (0, .ref (kad g 0))]) hx hb d_Ker_work_579 hl (k := 0) rfl rfl (by decide) rfl (fun ls hl => ?_)
                                                                      refine lv_goto (tgt := 30) hx hb d_Ker_work_582 (by decide) ?_
                                                                      exact ih30 (x1 + 1) _ _ _ _ _ _ _ h hI (lv_sub hl [0, 1] rfl)
                                                                    · replace h := Eq.trans (if_neg c93).symm h
                                                                      have nc93 := ksw (z := 30) rfl c93
                                                                      by_cases c96 : (f_Fra_top 0 β) = 31
                                                                      · replace h := Eq.trans (if_pos c96).symm h
                                                                        refine lv_tableIn (off := 458) (tgt := 512) hx hb d_Ker_work_54 (by rw [c96]; decide) (by rw [c96]; decide) (by rw [c96]; rfl) (by decide) ?_
                                                                        refine lv_aload_n hx hb d_Ker_work_512 rfl (lv_at hl 1 rfl) ?_
                                                                        refine kf_Ker_typer S E hI.1 vt_66 d_Ker_work_513 ?_
                                                                        refine kg_cV (As := []) (rest := []) h (k_Typ_evalTyped (l := l) (g := g) (α := β) hfl N) S hlocks hno E hI kw_Ker_278 ⟨Nat.le_of_ble_eq_true rfl, Nat.le_of_ble_eq_true rfl⟩ (kv_Typ E hI.1) rfl hl.1 rfl (Nat.le_of_ble_eq_true rfl) d_Ker_work_516 (fun α97 ad H locs cells slots e98 h hRm hI => ?_)
                                                                        refine lv_goto (tgt := 579) hx hb d_Ker_work_519 (by decide) ?_
                                                                        refine lv_iinc (v := (x1 + 1)) (lv' := [(1, .int (x1 + 1)), (0, .ref (kad g 0))]) hx hb d_Ker_work_579 hl (k := 0) rfl rfl (by decide) rfl (fun ls hl => ?_)
                                                                        refine lv_goto (tgt := 30) hx hb d_Ker_work_582 (by decide) ?_
                                                                        exact ih30 (x1 + 1) _ _ _ _ _ _ _ h hI (lv_sub hl [0, 1] rfl)
                                                                      · replace h := Eq.trans (if_neg c96).symm h
                                                                        have nc96 := ksw (z := 31) rfl c96
                                                                        by_cases c99 : (f_Fra_top 0 β) = 32
                                                                        · replace h := Eq.trans (if_pos c99).symm h
                                                                          refine lv_tableIn (off := 468) (tgt := 522) hx hb d_Ker_work_54 (by rw [c99]; decide) (by rw [c99]; decide) (by rw [c99]; rfl) (by decide) ?_
                                                                          refine lv_aload_n hx hb d_Ker_work_522 rfl (lv_at hl 1 rfl) ?_
                                                                          refine kf_Ker_families S E hI.1 vt_73 d_Ker_work_523 ?_
                                                                          refine kg_cV (As := []) (rest := []) h (k_Fam_family (l := l) (g := g) (α := β) hfl N) S hlocks hno E hI kw_Ker_281 ⟨Nat.le_of_ble_eq_true rfl, Nat.le_of_ble_eq_true rfl⟩ (kv_Fam E hI.1) rfl hl.1 rfl (Nat.le_of_ble_eq_true rfl) d_Ker_work_526 (fun α100 ad H locs cells slots e101 h hRm hI => ?_)
                                                                          refine lv_goto (tgt := 579) hx hb d_Ker_work_529 (by decide) ?_
                                                                          refine lv_iinc (v := (x1 + 1)) (lv' := [(1, .int (x1 + 1)), (0, .ref (kad g 0))]) hx hb d_Ker_work_579 hl (k := 0) rfl rfl (by decide) rfl (fun ls hl => ?_)
                                                                          refine lv_goto (tgt := 30) hx hb d_Ker_work_582 (by decide) ?_
                                                                          exact ih30 (x1 + 1) _ _ _ _ _ _ _ h hI (lv_sub hl [0, 1] rfl)
                                                                        · replace h := Eq.trans (if_neg c99).symm h
                                                                          have nc99 := ksw (z := 32) rfl c99
                                                                          by_cases c102 : (f_Fra_top 0 β) = 33
                                                                          · replace h := Eq.trans (if_pos c102).symm h
                                                                            refine lv_tableIn (off := 478) (tgt := 532) hx hb d_Ker_work_54 (by rw [c102]; decide) (by rw [c102]; decide) (by rw [c102]; rfl) (by decide) ?_
                                                                            refine lv_aload_n hx hb d_Ker_work_532 rfl (lv_at hl 1 rfl) ?_
                                                                            refine kf_Ker_families S E hI.1 vt_73 d_Ker_work_533 ?_
                                                                            refine kg_cV (As := []) (rest := []) h (k_Fam_member (l := l) (g := g) (α := β) hfl N) S hlocks hno E hI kw_Ker_284 ⟨Nat.le_of_ble_eq_true rfl, Nat.le_of_ble_eq_true rfl⟩ (kv_Fam E hI.1) rfl hl.1 rfl (Nat.le_of_ble_eq_true rfl) d_Ker_work_536 (fun α103 ad H locs cells slots e104 h hRm hI => ?_)
                                                                            refine lv_goto (tgt := 579) hx hb d_Ker_work_539 (by decide) ?_
                                                                            refine lv_iinc (v := (x1 + 1)) (lv' := [(1, .int (x1 + 1)), (0, .ref (kad g 0))]) hx hb d_Ker_work_579 hl (k := 0) rfl rfl (by decide) rfl (fun ls hl => ?_)
                                                                            refine lv_goto (tgt := 30) hx hb d_Ker_work_582 (by decide) ?_
                                                                            exact ih30 (x1 + 1) _ _ _ _ _ _ _ h hI (lv_sub hl [0, 1] rfl)
                                                                          · replace h := Eq.trans (if_neg c102).symm h
                                                                            have nc102 := ksw (z := 33) rfl c102
                                                                            by_cases c105 : (f_Fra_top 0 β) = 34
                                                                            · replace h := Eq.trans (if_pos c105).symm h
                                                                              refine lv_tableIn (off := 488) (tgt := 542) hx hb d_Ker_work_54 (by rw [c105]; decide) (by rw [c105]; decide) (by rw [c105]; rfl) (by decide) ?_
                                                                              refine lv_aload_n hx hb d_Ker_work_542 rfl (lv_at hl 1 rfl) ?_
                                                                              refine kf_Ker_families S E hI.1 vt_73 d_Ker_work_543 ?_
                                                                              refine kg_cV (As := []) (rest := []) h (k_Fam_argument (l := l) (g := g) (α := β) hfl N) S hlocks hno E hI kw_Ker_287 ⟨Nat.le_of_ble_eq_true rfl, Nat.le_of_ble_eq_true rfl⟩ (kv_Fam E hI.1) rfl hl.1 rfl (Nat.le_of_ble_eq_true rfl) d_Ker_work_546 (fun α106 ad H locs cells slots e107 h hRm hI => ?_)
                                                                              refine lv_goto (tgt := 579) hx hb d_Ker_work_549 (by decide) ?_
                                                                              refine lv_iinc (v := (x1 + 1)) (lv' := [(1, .int (x1 + 1)), (0, .ref (kad g 0))]) hx hb d_Ker_work_579 hl (k := 0) rfl rfl (by decide) rfl (fun ls hl => ?_)
                                                                              refine lv_goto (tgt := 30) hx hb d_Ker_work_582 (by decide) ?_
                                                                              exact ih30 (x1 + 1) _ _ _ _ _ _ _ h hI (lv_sub hl [0, 1] rfl)
                                                                            · replace h := Eq.trans (if_neg c105).symm h
                                                                              have nc105 := ksw (z := 34) rfl c105
                                                                              by_cases c108 : (f_Fra_top 0 β) = 35
                                                                              · replace h := Eq.trans (if_pos c108).symm h
                                                                                refine lv_tableIn (off := 498) (tgt := 552) hx hb d_Ker_work_54 (by rw [c108]; decide) (by rw [c108]; decide) (by rw [c108]; rfl) (by decide) ?_
                                                                                refine lv_aload_n hx hb d_Ker_work_552 rfl (lv_at hl 1 rfl) ?_
                                                                                refine kf_Ker_families S E hI.1 vt_73 d_Ker_work_553 ?_
                                                                                refine kg_cV (As := []) (rest := []) h (k_Fam_argumentTested (l := l) (g := g) (α := β) hfl N) S hlocks hno E hI kw_Ker_290 ⟨Nat.le_of_ble_eq_true rfl, Nat.le_of_ble_eq_true rfl⟩ (kv_Fam E hI.1) rfl hl.1 rfl (Nat.le_of_ble_eq_true rfl) d_Ker_work_556 (fun α109 ad H locs cells slots e110 h hRm hI => ?_)
                                                                                refine lv_goto (tgt := 579) hx hb d_Ker_work_559 (by decide) ?_
                                                                                refine lv_iinc (v := (x1 + 1)) (lv' := [(1, .int (x1 + 1)), (0, .ref (kad g 0))]) hx hb d_Ker_work_579 hl (k := 0) rfl rfl (by decide) rfl (fun ls hl => ?_)
                                                                                refine lv_goto (tgt := 30) hx hb d_Ker_work_582 (by decide) ?_
                                                                                exact ih30 (x1 + 1) _ _ _ _ _ _ _ h hI (lv_sub hl [0, 1] rfl)
                                                                              · replace h := Eq.trans (if_neg c108).symm h
                                                                                have nc108 := ksw (z := 35) rfl c108
                                                                                by_cases c111 : (f_Fra_top 0 β) = 36
                                                                                · replace h := Eq.trans (if_pos c111).symm h
                                                                                  refine lv_tableIn (off := 508) (tgt := 562) hx hb d_Ker_work_54 (by rw [c111]; decide) (by rw [c111]; decide) (by rw [c111]; rfl) (by decide) ?_
                                                                                  refine lv_aload_n hx hb d_Ker_work_562 rfl (lv_at hl 1 rfl) ?_
                                                                                  refine kf_Ker_families S E hI.1 vt_73 d_Ker_work_563 ?_
                                                                                  refine kg_tV (As := []) (rest := []) (k_Fam_memberTyped (l := l) (g := g) (α := β) ) S hlocks hno E hI kw_Ker_293 ⟨Nat.le_of_ble_eq_true rfl, Nat.le_of_ble_eq_true rfl⟩ (kv_Fam E hI.1) rfl hl.1 rfl (Nat.le_of_ble_eq_true rfl) d_Ker_work_566 (fun ad H locs cells slots hRm hI => ?_)
                                                                                  refine lv_goto (tgt := 579) hx hb d_Ker_work_569 (by decide) ?_
                                                                                  refine lv_iinc (v := (x1 + 1)) (lv' := [(1, .int (x1 + 1)), (0, .ref (kad g 0))]) hx hb d_Ker_work_579 hl (k := 0) rfl rfl (by decide) rfl (fun ls hl => ?_)
                                                                                  refine lv_goto (tgt := 30) hx hb d_Ker_work_582 (by decide) ?_
                                                                                  exact ih30 (x1 + 1) _ _ _ _ _ _ _ h hI (lv_sub hl [0, 1] rfl)
                                                                                · replace h := Eq.trans (if_neg c111).symm h
                                                                                  have nc111 := ksw (z := 36) rfl c111
                                                                                  refine lv_tableOut (tgt := 572) hx hb d_Ker_work_54 (by omega) (by decide) ?_
                                                                                  refine lv_aload_n hx hb d_Ker_work_572 rfl (lv_at hl 1 rfl) ?_
                                                                                  refine kf_Ker_frames S E hI.1 vt_52 d_Ker_work_573 ?_
                                                                                  refine kg_tV (As := []) (rest := []) (k_Fra_pop (l := l) (g := g) (α := β) ) S hlocks hno E hI kw_Ker_296 ⟨Nat.le_of_ble_eq_true rfl, Nat.le_of_ble_eq_true rfl⟩ (kv_Fra E hI.1) rfl hl.1 rfl (Nat.le_of_ble_eq_true rfl) d_Ker_work_576 (fun ad H locs cells slots hRm hI => ?_)
                                                                                  refine lv_iinc (v := (x1 + 1)) (lv' := [(1, .int (x1 + 1)), (0, .ref (kad g 0))]) hx hb d_Ker_work_579 hl (k := 0) rfl rfl (by decide) rfl (fun ls hl => ?_)
                                                                                  refine lv_goto (tgt := 30) hx hb d_Ker_work_582 (by decide) ?_
                                                                                  exact ih30 (x1 + 1) _ _ _ _ _ _ _ h hI (lv_sub hl [0, 1] rfl)
  exact L30 N 0 _ _ _ _ _ _ _ h hI (lv_sub hl [0, 1] rfl)
theorem kw_Ker_308 : kWv "FamilyKernel" 308 "FamilyKernel$Parser" y_Par_declared b_Par_declared 1 (some .int) 0 := ⟨vt_1114, vt_971, vt_972, vt_40, vt_973, by decide, by decide, by decide +kernel⟩
theorem kw_Ker_313 : kWv "FamilyKernel" 313 "FamilyKernel$Terms" y_Terms_size b_Terms_size 2 (some .int) 1 := ⟨vt_1178, vt_545, vt_546, vt_19, vt_547, by decide, by decide, by decide +kernel⟩
theorem kw_Ker_315 : kWv "FamilyKernel" 315 "FamilyKernel$Environment" y_Env_sizes b_Env_sizes 1 (some .int) 0 := ⟨vt_1179, vt_1066, vt_1067, vt_26, vt_1068, by decide, by decide, by decide +kernel⟩
theorem kw_Ker_318 : kWv "FamilyKernel" 318 "FamilyKernel$Environment" y_Env_fix b_Env_fix 4 none 3 := ⟨vt_1180, vt_484, vt_485, vt_26, vt_486, by decide, by decide, by decide +kernel⟩
theorem kw_Ker_321 : kWv "FamilyKernel" 321 "FamilyKernel$Environment" y_Env_addSizes b_Env_addSizes 2 none 1 := ⟨vt_1181, vt_1079, vt_1080, vt_26, vt_1081, by decide, by decide, by decide +kernel⟩
theorem kw_Ker_324 : kWv "FamilyKernel" 324 "FamilyKernel$Parser" y_Par_nodes b_Par_nodes 1 (some .int) 0 := ⟨vt_1182, vt_1053, vt_1054, vt_40, vt_1055, by decide, by decide, by decide +kernel⟩
theorem kw_Ker_158 : kWv "FamilyKernel" 158 "FamilyKernel$Terms" y_Terms_release b_Terms_release 3 none 1 := ⟨vt_221, vt_222, vt_223, vt_19, vt_224, by decide, by decide, by decide +kernel⟩
def f_Ker_keepConstant_j73 (N : Nat)  (y3 : Int32) (y2 : Int32) (y1 : Int32) (γ : kS) : Option (kO × kS) := kBv (f_Terms_release N (f_Par_nodes (f_Env_addSizes y3 (f_Env_fix y1 2 y2 (f_Env_fix y1 1 (f_Par_type γ) γ)))) (f_Env_addSizes y3 (f_Env_fix y1 2 y2 (f_Env_fix y1 1 (f_Par_type γ) γ)))) fun α3 => (some (some none, α3))
def f_Ker_keepConstant_j47 (N : Nat)  (y2 : Int32) (y1 : Int32) (t0 : Int32) (t1 : Int32) (γ : kS) : Option (kO × kS) := if ((f_Env_sizes γ) + (t1 + t0)) ≤ 30000 then (f_Ker_keepConstant_j73 N (t1 + t0) y2 y1 γ) else (kBv (f_Meter_fail N 10 γ) fun α5 => (f_Ker_keepConstant_j73 N (t1 + t0) y2 y1 α5))
def f_Ker_keepConstant (N : Nat)  (α : kS) : Option (kO × kS) := if (f_Par_value α) = (-1) then (f_Ker_keepConstant_j47 N (f_Par_value α) (f_Par_declared α) 0 (f_Terms_size (f_Par_type α) α) α) else (f_Ker_keepConstant_j47 N (f_Par_value α) (f_Par_declared α) (f_Terms_size (f_Par_value α) α) (f_Terms_size (f_Par_type α) α) α)
set_option maxHeartbeats 4000000 in
set_option maxRecDepth 100000 in
theorem k_Ker_keepConstant {l : Launch} {g : kG} {α : kS} (hfl : kFl l) (N : Nat)   : ∀ x, f_Ker_keepConstant N α = some x → kC l g y_Ker_keepConstant b_Ker_keepConstant 4 none 12 345 [.ref (kad g 0)] α (kQr x) := by
  intro x h
  unfold f_Ker_keepConstant at h
  refine kc_ofW (by decide) (fun A ad0 p e s m args below meth c S hr hlocks hno hadm hargs E hI => ?_)
  have hx := S.1
  have hb := S.2.1
  have hown := S.2.2.2.1
  have hT := S.2.2.2.2
  subst hargs
  have hl := lv_entry ([.ref (kad g 0)]) (n := 4) (Nat.le_of_ble_eq_true rfl)
  rw [lg_entry_eq]
  generalize (lg_sl ([.ref (kad g 0)]) ++ List.replicate (4 - (lg_sl ([.ref (kad g 0)])).length) Slot.unset).toArray = ls at hl ⊢
  have hl : lv_has ls 4 [(0, .ref (kad g 0))] := hl
  have J73 : ∀ (y3 : Int32) (y2 : Int32) (y1 : Int32) (γ : kS) (ad : Nat → Nat) (H : Heap) (locs : List Loc) (cells slots : Nat) (ls : Array Slot), f_Ker_keepConstant_j73 N y3 y2 y1 γ = some x → kI g A s α ad0 γ ad H locs cells slots → lv_has ls 4 [(3, .int y3), (2, .int y2), (1, .int y1), (0, .ref (kad g 0))] → W p l e (kR 12 345 α) s m ([.ref (kad g 0)]).toArray below meth c H locs cells slots (vEQ below (kQ g A α ad0 (kQr x)) ([.ref (kad g 0)]).toArray s A) (F0 m 73 ls []) := by
    intro y3 y2 y1 γ ad H locs cells slots ls h hI hl
    unfold f_Ker_keepConstant_j73 at h
    refine lv_aload_n hx hb d_Ker_keepConstant_73 rfl (lv_at hl 3 rfl) ?_
    refine kf_Ker_environment S E hI.1 vt_31 d_Ker_keepConstant_74 ?_
    refine lv_iload_n hx hb d_Ker_keepConstant_77 rfl (lv_at hl 2 rfl) ?_
    refine lv_iconst (v := 1) hx hb d_Ker_keepConstant_78 (by decide) ?_
    refine lv_aload_n hx hb d_Ker_keepConstant_79 rfl (lv_at hl 3 rfl) ?_
    refine kf_Ker_parser S E hI.1 vt_45 d_Ker_keepConstant_80 ?_
    refine kg_p (As := []) (rest := [.int 1, .int y1, .ref (kad g 3)]) (k_Par_type (l := l) (g := g) (α := γ) ) S E hI.1 kw_Ker_170 ⟨Nat.le_of_ble_eq_true rfl, Nat.le_of_ble_eq_true rfl⟩ hI.room (kv_Par E hI.1) rfl hl.1 rfl (Nat.le_of_ble_eq_true rfl) d_Ker_keepConstant_83 rfl ?_
    refine kg_tV (As := [.int y1, .int 1, .int (f_Par_type γ)]) (rest := []) (k_Env_fix (l := l) (g := g) (α := γ) y1 1 (f_Par_type γ)) S hlocks hno E hI kw_Ker_318 ⟨Nat.le_of_ble_eq_true rfl, Nat.le_of_ble_eq_true rfl⟩ (kv_Env E hI.1) rfl hl.1 rfl (Nat.le_of_ble_eq_true rfl) d_Ker_keepConstant_86 (fun ad H locs cells slots hRm hI => ?_)
    refine lv_aload_n hx hb d_Ker_keepConstant_89 rfl (lv_at hl 3 rfl) ?_
    refine kf_Ker_environment S E hI.1 vt_31 d_Ker_keepConstant_90 ?_
    refine lv_iload_n hx hb d_Ker_keepConstant_93 rfl (lv_at hl 2 rfl) ?_
    refine lv_iconst (v := 2) hx hb d_Ker_keepConstant_94 (by decide) ?_
    refine lv_iload_n hx hb d_Ker_keepConstant_95 rfl (lv_at hl 1 rfl) ?_
    refine kg_tV (As := [.int y1, .int 2, .int y2]) (rest := []) (k_Env_fix (l := l) (g := g) (α := (f_Env_fix y1 1 (f_Par_type γ) γ)) y1 2 y2) S hlocks hno E hI kw_Ker_318 ⟨Nat.le_of_ble_eq_true rfl, Nat.le_of_ble_eq_true rfl⟩ (kv_Env E hI.1) rfl hl.1 rfl (Nat.le_of_ble_eq_true rfl) d_Ker_keepConstant_96 (fun ad H locs cells slots hRm hI => ?_)
    refine lv_aload_n hx hb d_Ker_keepConstant_99 rfl (lv_at hl 3 rfl) ?_
    refine kf_Ker_environment S E hI.1 vt_31 d_Ker_keepConstant_100 ?_
    refine lv_iload_n hx hb d_Ker_keepConstant_103 rfl (lv_at hl 0 rfl) ?_
    refine kg_tV (As := [.int y3]) (rest := []) (k_Env_addSizes (l := l) (g := g) (α := (f_Env_fix y1 2 y2 (f_Env_fix y1 1 (f_Par_type γ) γ))) y3) S hlocks hno E hI kw_Ker_321 ⟨Nat.le_of_ble_eq_true rfl, Nat.le_of_ble_eq_true rfl⟩ (kv_Env E hI.1) rfl hl.1 rfl (Nat.le_of_ble_eq_true rfl) d_Ker_keepConstant_104 (fun ad H locs cells slots hRm hI => ?_)
    refine lv_aload_n hx hb d_Ker_keepConstant_107 rfl (lv_at hl 3 rfl) ?_
    refine kf_Ker_terms S E hI.1 vt_24 d_Ker_keepConstant_108 ?_
    refine lv_aload_n hx hb d_Ker_keepConstant_111 rfl (lv_at hl 3 rfl) ?_
    refine kf_Ker_parser S E hI.1 vt_45 d_Ker_keepConstant_112 ?_
    refine kg_p (As := []) (rest := [.ref (kad g 2)]) (k_Par_nodes (l := l) (g := g) (α := (f_Env_addSizes y3 (f_Env_fix y1 2 y2 (f_Env_fix y1 1 (f_Par_type γ) γ)))) ) S E hI.1 kw_Ker_324 ⟨Nat.le_of_ble_eq_true rfl, Nat.le_of_ble_eq_true rfl⟩ hI.room (kv_Par E hI.1) rfl hl.1 rfl (Nat.le_of_ble_eq_true rfl) d_Ker_keepConstant_115 rfl ?_
    refine kg_cV (As := [.int (f_Par_nodes (f_Env_addSizes y3 (f_Env_fix y1 2 y2 (f_Env_fix y1 1 (f_Par_type γ) γ))))]) (rest := []) h (k_Terms_release (l := l) (g := g) (α := (f_Env_addSizes y3 (f_Env_fix y1 2 y2 (f_Env_fix y1 1 (f_Par_type γ) γ)))) hfl N (f_Par_nodes (f_Env_addSizes y3 (f_Env_fix y1 2 y2 (f_Env_fix y1 1 (f_Par_type γ) γ))))) S hlocks hno E hI kw_Ker_158 ⟨Nat.le_of_ble_eq_true rfl, Nat.le_of_ble_eq_true rfl⟩ (kv_Terms E hI.1) rfl hl.1 rfl (Nat.le_of_ble_eq_true rfl) d_Ker_keepConstant_118 (fun α3 ad H locs cells slots e4 h hRm hI => ?_)
    exact kc_vret hx hb hr hlocks E hI h d_Ker_keepConstant_121
  have J47 : ∀ (y2 : Int32) (y1 : Int32) (t0 : Int32) (t1 : Int32) (γ : kS) (ad : Nat → Nat) (H : Heap) (locs : List Loc) (cells slots : Nat) (ls : Array Slot), f_Ker_keepConstant_j47 N y2 y1 t0 t1 γ = some x → kI g A s α ad0 γ ad H locs cells slots → lv_has ls 4 [(2, .int y2), (1, .int y1), (0, .ref (kad g 0))] → W p l e (kR 12 345 α) s m ([.ref (kad g 0)]).toArray below meth c H locs cells slots (vEQ below (kQ g A α ad0 (kQr x)) ([.ref (kad g 0)]).toArray s A) (F0 m 47 ls [.int t0, .int t1]) := by
    intro y2 y1 t0 t1 γ ad H locs cells slots ls h hI hl
    unfold f_Ker_keepConstant_j47 at h
    refine lv_iadd hx hb d_Ker_keepConstant_47 ?_
    refine lv_istore_n (lv' := [(3, .int (t1 + t0)), (2, .int y2), (1, .int y1), (0, .ref (kad g 0))]) hx hb d_Ker_keepConstant_48 rfl hl (by decide) rfl (fun ls hl => ?_)
    refine lv_aload_n hx hb d_Ker_keepConstant_49 rfl (lv_at hl 3 rfl) ?_
    refine kf_Ker_environment S E hI.1 vt_31 d_Ker_keepConstant_50 ?_
    refine kg_p (As := []) (rest := []) (k_Env_sizes (l := l) (g := g) (α := γ) ) S E hI.1 kw_Ker_315 ⟨Nat.le_of_ble_eq_true rfl, Nat.le_of_ble_eq_true rfl⟩ hI.room (kv_Env E hI.1) rfl hl.1 rfl (Nat.le_of_ble_eq_true rfl) d_Ker_keepConstant_53 rfl ?_
    refine lv_iload_n hx hb d_Ker_keepConstant_56 rfl (lv_at hl 0 rfl) ?_
    refine lv_iadd hx hb d_Ker_keepConstant_57 ?_
    refine lv_sipush (v := 30000) hx hb d_Ker_keepConstant_58 (by decide) ?_
    refine lv_icmp_le (tgt := 73) hx hb d_Ker_keepConstant_61 (by decide) (fun c2 => ?_) (fun c2 => ?_)
    · replace h := Eq.trans (if_pos c2).symm h
      exact J73 (t1 + t0) y2 y1 _ _ _ _ _ _ _ h hI (lv_sub hl [0, 1, 2, 3] rfl)
    · replace h := Eq.trans (if_neg c2).symm h
      refine lv_aload_n hx hb d_Ker_keepConstant_64 rfl (lv_at hl 3 rfl) ?_
      refine kf_Ker_meter S E hI.1 vt_17 d_Ker_keepConstant_65 ?_
      refine lv_bipush (v := 10) hx hb d_Ker_keepConstant_68 (by decide) ?_
      refine kg_cV (As := [.int 10]) (rest := []) h (k_Meter_fail (l := l) (g := g) (α := γ) hfl N 10) S hlocks hno E hI kw_Ker_299 ⟨Nat.le_of_ble_eq_true rfl, Nat.le_of_ble_eq_true rfl⟩ (kv_Meter E hI.1) rfl hl.1 rfl (Nat.le_of_ble_eq_true rfl) d_Ker_keepConstant_70 (fun α5 ad H locs cells slots e6 h hRm hI => ?_)
      exact J73 (t1 + t0) y2 y1 _ _ _ _ _ _ _ h hI (lv_sub hl [0, 1, 2, 3] rfl)
  refine lv_aload_n hx hb d_Ker_keepConstant_0 rfl (lv_at hl 0 rfl) ?_
  refine kf_Ker_parser S E hI.1 vt_45 d_Ker_keepConstant_1 ?_
  refine kg_p (As := []) (rest := []) (k_Par_declared (l := l) (g := g) (α := α) ) S E hI.1 kw_Ker_308 ⟨Nat.le_of_ble_eq_true rfl, Nat.le_of_ble_eq_true rfl⟩ hI.room (kv_Par E hI.1) rfl hl.1 rfl (Nat.le_of_ble_eq_true rfl) d_Ker_keepConstant_4 rfl ?_
  refine lv_istore_n (lv' := [(1, .int (f_Par_declared α)), (0, .ref (kad g 0))]) hx hb d_Ker_keepConstant_7 rfl hl (by decide) rfl (fun ls hl => ?_)
  refine lv_aload_n hx hb d_Ker_keepConstant_8 rfl (lv_at hl 1 rfl) ?_
  refine kf_Ker_parser S E hI.1 vt_45 d_Ker_keepConstant_9 ?_
  refine kg_p (As := []) (rest := []) (k_Par_value (l := l) (g := g) (α := α) ) S E hI.1 kw_Ker_173 ⟨Nat.le_of_ble_eq_true rfl, Nat.le_of_ble_eq_true rfl⟩ hI.room (kv_Par E hI.1) rfl hl.1 rfl (Nat.le_of_ble_eq_true rfl) d_Ker_keepConstant_12 rfl ?_
  refine lv_istore_n (lv' := [(2, .int (f_Par_value α)), (1, .int (f_Par_declared α)), (0, .ref (kad g 0))]) hx hb d_Ker_keepConstant_15 rfl hl (by decide) rfl (fun ls hl => ?_)
  refine lv_aload_n hx hb d_Ker_keepConstant_16 rfl (lv_at hl 2 rfl) ?_
  refine kf_Ker_terms S E hI.1 vt_24 d_Ker_keepConstant_17 ?_
  refine lv_aload_n hx hb d_Ker_keepConstant_20 rfl (lv_at hl 2 rfl) ?_
  refine kf_Ker_parser S E hI.1 vt_45 d_Ker_keepConstant_21 ?_
  refine kg_p (As := []) (rest := [.ref (kad g 2)]) (k_Par_type (l := l) (g := g) (α := α) ) S E hI.1 kw_Ker_170 ⟨Nat.le_of_ble_eq_true rfl, Nat.le_of_ble_eq_true rfl⟩ hI.room (kv_Par E hI.1) rfl hl.1 rfl (Nat.le_of_ble_eq_true rfl) d_Ker_keepConstant_24 rfl ?_
  refine kg_p (As := [.int (f_Par_type α)]) (rest := []) (k_Terms_size (l := l) (g := g) (α := α) (f_Par_type α)) S E hI.1 kw_Ker_313 ⟨Nat.le_of_ble_eq_true rfl, Nat.le_of_ble_eq_true rfl⟩ hI.room (kv_Terms E hI.1) rfl hl.1 rfl (Nat.le_of_ble_eq_true rfl) d_Ker_keepConstant_27 rfl ?_
  refine lv_iload_n hx hb d_Ker_keepConstant_30 rfl (lv_at hl 0 rfl) ?_
  refine lv_iconst (v := (-1)) hx hb d_Ker_keepConstant_31 (by decide) ?_
  refine lv_icmp_ne (tgt := 39) hx hb d_Ker_keepConstant_32 (by decide) (fun c1 => ?_) (fun c1 => ?_)
  · replace h := Eq.trans (if_neg c1).symm h
    refine lv_aload_n hx hb d_Ker_keepConstant_39 rfl (lv_at hl 2 rfl) ?_
    refine kf_Ker_terms S E hI.1 vt_24 d_Ker_keepConstant_40 ?_
    refine lv_iload_n hx hb d_Ker_keepConstant_43 rfl (lv_at hl 0 rfl) ?_
    refine kg_p (As := [.int (f_Par_value α)]) (rest := [.int (f_Terms_size (f_Par_type α) α)]) (k_Terms_size (l := l) (g := g) (α := α) (f_Par_value α)) S E hI.1 kw_Ker_313 ⟨Nat.le_of_ble_eq_true rfl, Nat.le_of_ble_eq_true rfl⟩ hI.room (kv_Terms E hI.1) rfl hl.1 rfl (Nat.le_of_ble_eq_true rfl) d_Ker_keepConstant_44 rfl ?_
    exact J47 (f_Par_value α) (f_Par_declared α) (f_Terms_size (f_Par_value α) α) (f_Terms_size (f_Par_type α) α) _ _ _ _ _ _ _ h hI (lv_sub hl [0, 1, 2] rfl)
  · replace h := Eq.trans (if_pos c1).symm h
    refine lv_iconst (v := 0) hx hb d_Ker_keepConstant_35 (by decide) ?_
    refine lv_goto (tgt := 47) hx hb d_Ker_keepConstant_36 (by decide) ?_
    exact J47 (f_Par_value α) (f_Par_declared α) 0 (f_Terms_size (f_Par_type α) α) _ _ _ _ _ _ _ h hI (lv_sub hl [0, 1, 2] rfl)
theorem kw_Ker_310 : kWv "FamilyKernel" 310 "FamilyKernel" y_Ker_keepConstant b_Ker_keepConstant 4 none 0 := ⟨vt_1115, vt_1116, vt_1117, vt_201, vt_1118, by decide, by decide, by decide +kernel⟩
theorem kw_Ker_302 : kWv "FamilyKernel" 302 "FamilyKernel$Frames" y_Fra_result b_Fra_result 1 (some .int) 0 := ⟨vt_1109, vt_884, vt_885, vt_47, vt_886, by decide, by decide, by decide +kernel⟩
theorem kw_Ker_305 : kWv "FamilyKernel" 305 "FamilyKernel$Printer" y_Pri_print b_Pri_print 7 none 2 := ⟨vt_1110, vt_1111, vt_1112, vt_75, vt_1113, by decide, by decide, by decide +kernel⟩
def f_Ker_keep (N : Nat) (a1 : Int32) (α : kS) : Option (kO × kS) := if (f_Par_task α) = 30 then (kBv (f_Pri_print N (f_Fra_result α) 0 α) fun α7 => (kBv (f_Terms_release N a1 α7) fun α9 => (some (some none, α9)))) else (if (f_Par_declared α) = (-1) then (kBv (f_Terms_release N a1 α) fun α5 => (some (some none, α5))) else (kBv (f_Ker_keepConstant N α) fun α3 => (some (some none, α3))))
set_option maxHeartbeats 4000000 in
set_option maxRecDepth 100000 in
theorem k_Ker_keep {l : Launch} {g : kG} {α : kS} (hfl : kFl l) (N : Nat) (a1 : Int32)  : ∀ x, f_Ker_keep N a1 α = some x → kC l g y_Ker_keep b_Ker_keep 2 none 35 1022 [.ref (kad g 0), .int a1] α (kQr x) := by
  intro x h
  unfold f_Ker_keep at h
  refine kc_ofW (by decide) (fun A ad0 p e s m args below meth c S hr hlocks hno hadm hargs E hI => ?_)
  have hx := S.1
  have hb := S.2.1
  have hown := S.2.2.2.1
  have hT := S.2.2.2.2
  subst hargs
  have hl := lv_entry ([.ref (kad g 0), .int a1]) (n := 2) (Nat.le_of_ble_eq_true rfl)
  rw [lg_entry_eq]
  generalize (lg_sl ([.ref (kad g 0), .int a1]) ++ List.replicate (2 - (lg_sl ([.ref (kad g 0), .int a1])).length) Slot.unset).toArray = ls at hl ⊢
  have hl : lv_has ls 2 [(0, .ref (kad g 0)), (1, .int a1)] := hl
  refine lv_aload_n hx hb d_Ker_keep_0 rfl (lv_at hl 0 rfl) ?_
  refine kf_Ker_parser S E hI.1 vt_45 d_Ker_keep_1 ?_
  refine kg_p (As := []) (rest := []) (k_Par_task (l := l) (g := g) (α := α) ) S E hI.1 kw_Ker_148 ⟨Nat.le_of_ble_eq_true rfl, Nat.le_of_ble_eq_true rfl⟩ hI.room (kv_Par E hI.1) rfl hl.1 rfl (Nat.le_of_ble_eq_true rfl) d_Ker_keep_4 rfl ?_
  refine lv_bipush (v := 30) hx hb d_Ker_keep_7 (by decide) ?_
  refine lv_icmp_ne (tgt := 38) hx hb d_Ker_keep_9 (by decide) (fun c1 => ?_) (fun c1 => ?_)
  · replace h := Eq.trans (if_neg c1).symm h
    refine lv_aload_n hx hb d_Ker_keep_38 rfl (lv_at hl 0 rfl) ?_
    refine kf_Ker_parser S E hI.1 vt_45 d_Ker_keep_39 ?_
    refine kg_p (As := []) (rest := []) (k_Par_declared (l := l) (g := g) (α := α) ) S E hI.1 kw_Ker_308 ⟨Nat.le_of_ble_eq_true rfl, Nat.le_of_ble_eq_true rfl⟩ hI.room (kv_Par E hI.1) rfl hl.1 rfl (Nat.le_of_ble_eq_true rfl) d_Ker_keep_42 rfl ?_
    refine lv_iconst (v := (-1)) hx hb d_Ker_keep_45 (by decide) ?_
    refine lv_icmp_ne (tgt := 60) hx hb d_Ker_keep_46 (by decide) (fun c2 => ?_) (fun c2 => ?_)
    · replace h := Eq.trans (if_neg c2).symm h
      refine lv_aload_n hx hb d_Ker_keep_60 rfl (lv_at hl 0 rfl) ?_
      refine kg_cV (As := []) (rest := []) h (k_Ker_keepConstant (l := l) (g := g) (α := α) hfl N) S hlocks hno E hI kw_Ker_310 ⟨Nat.le_of_ble_eq_true rfl, Nat.le_of_ble_eq_true rfl⟩ (kv_Ker E hI.1) rfl hl.1 rfl (Nat.le_of_ble_eq_true rfl) d_Ker_keep_61 (fun α3 ad H locs cells slots e4 h hRm hI => ?_)
      exact kc_vret hx hb hr hlocks E hI h d_Ker_keep_64
    · replace h := Eq.trans (if_pos c2).symm h
      refine lv_aload_n hx hb d_Ker_keep_49 rfl (lv_at hl 0 rfl) ?_
      refine kf_Ker_terms S E hI.1 vt_24 d_Ker_keep_50 ?_
      refine lv_iload_n hx hb d_Ker_keep_53 rfl (lv_at hl 1 rfl) ?_
      refine kg_cV (As := [.int a1]) (rest := []) h (k_Terms_release (l := l) (g := g) (α := α) hfl N a1) S hlocks hno E hI kw_Ker_158 ⟨Nat.le_of_ble_eq_true rfl, Nat.le_of_ble_eq_true rfl⟩ (kv_Terms E hI.1) rfl hl.1 rfl (Nat.le_of_ble_eq_true rfl) d_Ker_keep_54 (fun α5 ad H locs cells slots e6 h hRm hI => ?_)
      refine lv_goto (tgt := 64) hx hb d_Ker_keep_57 (by decide) ?_
      exact kc_vret hx hb hr hlocks E hI h d_Ker_keep_64
  · replace h := Eq.trans (if_pos c1).symm h
    refine lv_aload_n hx hb d_Ker_keep_12 rfl (lv_at hl 0 rfl) ?_
    refine kf_Ker_printer S E hI.1 vt_80 d_Ker_keep_13 ?_
    refine lv_aload_n hx hb d_Ker_keep_16 rfl (lv_at hl 0 rfl) ?_
    refine kf_Ker_frames S E hI.1 vt_52 d_Ker_keep_17 ?_
    refine kg_p (As := []) (rest := [.ref (kad g 10)]) (k_Fra_result (l := l) (g := g) (α := α) ) S E hI.1 kw_Ker_302 ⟨Nat.le_of_ble_eq_true rfl, Nat.le_of_ble_eq_true rfl⟩ hI.room (kv_Fra E hI.1) rfl hl.1 rfl (Nat.le_of_ble_eq_true rfl) d_Ker_keep_20 rfl ?_
    refine lv_iconst (v := 0) hx hb d_Ker_keep_23 (by decide) ?_
    refine kg_cV (As := [.int (f_Fra_result α), .int 0]) (rest := []) h (k_Pri_print (l := l) (g := g) (α := α) hfl N (f_Fra_result α) 0) S hlocks hno E hI kw_Ker_305 ⟨Nat.le_of_ble_eq_true rfl, Nat.le_of_ble_eq_true rfl⟩ (kv_Pri E hI.1) rfl hl.1 rfl (Nat.le_of_ble_eq_true rfl) d_Ker_keep_24 (fun α7 ad H locs cells slots e8 h hRm hI => ?_)
    refine lv_aload_n hx hb d_Ker_keep_27 rfl (lv_at hl 0 rfl) ?_
    refine kf_Ker_terms S E hI.1 vt_24 d_Ker_keep_28 ?_
    refine lv_iload_n hx hb d_Ker_keep_31 rfl (lv_at hl 1 rfl) ?_
    refine kg_cV (As := [.int a1]) (rest := []) h (k_Terms_release (l := l) (g := g) (α := α7) hfl N a1) S hlocks hno E hI kw_Ker_158 ⟨Nat.le_of_ble_eq_true rfl, Nat.le_of_ble_eq_true rfl⟩ (kv_Terms E hI.1) rfl hl.1 rfl (Nat.le_of_ble_eq_true rfl) d_Ker_keep_32 (fun α9 ad H locs cells slots e10 h hRm hI => ?_)
    refine lv_goto (tgt := 64) hx hb d_Ker_keep_35 (by decide) ?_
    exact kc_vret hx hb hr hlocks E hI h d_Ker_keep_64
