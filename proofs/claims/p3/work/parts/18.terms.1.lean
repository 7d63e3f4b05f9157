def f_Terms_kind (a1 : Int32) (α : kS) : Int32 := if a1 < 0 then (0) else (if (α.1 6) ≤ a1 then (0) else ((((α.2.2.2.1 (a1).toNatClampNeg)).toInt32 &&& 15)))
set_option maxHeartbeats 4000000 in
set_option maxRecDepth 100000 in
theorem k_Terms_kind {l : Launch} {g : kG} {α : kS} (a1 : Int32)  : kV l g y_Terms_kind b_Terms_kind 2 (some .int) 1 1 [.ref (kad g 2), .int a1] α (f_Terms_kind a1 α) := by
  generalize h : f_Terms_kind a1 α = x
  unfold f_Terms_kind at h
  refine kv_ofW (by decide) (fun A ad p e s m args below meth c S hr hlocks hargs E hJ => ?_)
  have hx := S.1
  have hb := S.2.1
  have hown := S.2.2.2.1
  have hT := S.2.2.2.2
  subst hargs
  have hl := lv_entry ([.ref (kad g 2), .int a1]) (n := 2) (Nat.le_of_ble_eq_true rfl)
  rw [lg_entry_eq]
  generalize (lg_sl ([.ref (kad g 2), .int a1]) ++ List.replicate (2 - (lg_sl ([.ref (kad g 2), .int a1])).length) Slot.unset).toArray = ls at hl ⊢
  have hl : lv_has ls 2 [(0, .ref (kad g 2)), (1, .int a1)] := hl
  refine lv_iload_n hx hb d_Terms_kind_0 rfl (lv_at hl 1 rfl) ?_
  refine lv_if_lt (tgt := 25) hx hb d_Terms_kind_1 (by decide) (fun c1 => ?_) (fun c1 => ?_)
  · replace h := Eq.trans (if_pos c1).symm h
    refine lv_iconst (v := 0) hx hb d_Terms_kind_25 (by decide) ?_
    exact kv_iret (w := 0) hx hb hr rfl hlocks h d_Terms_kind_26
  · replace h := Eq.trans (if_neg c1).symm h
    refine lv_iload_n hx hb d_Terms_kind_4 rfl (lv_at hl 1 rfl) ?_
    refine lv_aload_n hx hb d_Terms_kind_5 rfl (lv_at hl 0 rfl) ?_
    refine kf_Terms_length S E hJ vt_324 d_Terms_kind_6 ?_
    refine lv_icmp_ge (tgt := 25) hx hb d_Terms_kind_9 (by decide) (fun c2 => ?_) (fun c2 => ?_)
    · replace h := Eq.trans (if_pos c2).symm h
      refine lv_iconst (v := 0) hx hb d_Terms_kind_25 (by decide) ?_
      exact kv_iret (w := 0) hx hb hr rfl hlocks h d_Terms_kind_26
    · replace h := Eq.trans (if_neg c2).symm h
      refine lv_aload_n hx hb d_Terms_kind_12 rfl (lv_at hl 0 rfl) ?_
      refine kf_Terms_infos S E hJ vt_96 d_Terms_kind_13 ?_
      refine lv_iload_n hx hb d_Terms_kind_16 rfl (lv_at hl 1 rfl) ?_
      refine kl_infos S E hJ (kTin (by decide) (by decide) hJ.2.1 c1 c2) d_Terms_kind_17 ?_
      refine lv_l2i (v := ((α.2.2.2.1 (a1).toNatClampNeg)).toInt32) hx hb d_Terms_kind_18 rfl ?_
      refine lv_bipush (v := 15) hx hb d_Terms_kind_19 (by decide) ?_
      refine lv_iand hx hb d_Terms_kind_21 ?_
      refine lv_goto (tgt := 26) hx hb d_Terms_kind_22 (by decide) ?_
      exact kv_iret (w := (((α.2.2.2.1 (a1).toNatClampNeg)).toInt32 &&& 15)) hx hb hr rfl hlocks h d_Terms_kind_26
def f_Terms_size (a1 : Int32) (α : kS) : Int32 := if a1 < 0 then (0) else (if (α.1 6) ≤ a1 then (0) else (((((((α.2.2.2.1 (a1).toNatClampNeg)).toUInt64 >>> ((4 : Int32).toInt64.toUInt64 &&& Int64.toUInt64 63)).toInt64)).toInt32 &&& 8191)))
set_option maxHeartbeats 4000000 in
set_option maxRecDepth 100000 in
theorem k_Terms_size {l : Launch} {g : kG} {α : kS} (a1 : Int32)  : kV l g y_Terms_size b_Terms_size 2 (some .int) 1 1 [.ref (kad g 2), .int a1] α (f_Terms_size a1 α) := by
  generalize h : f_Terms_size a1 α = x
  unfold f_Terms_size at h
  refine kv_ofW (by decide) (fun A ad p e s m args below meth c S hr hlocks hargs E hJ => ?_)
  have hx := S.1
  have hb := S.2.1
  have hown := S.2.2.2.1
  have hT := S.2.2.2.2
  subst hargs
  have hl := lv_entry ([.ref (kad g 2), .int a1]) (n := 2) (Nat.le_of_ble_eq_true rfl)
  rw [lg_entry_eq]
  generalize (lg_sl ([.ref (kad g 2), .int a1]) ++ List.replicate (2 - (lg_sl ([.ref (kad g 2), .int a1])).length) Slot.unset).toArray = ls at hl ⊢
  have hl : lv_has ls 2 [(0, .ref (kad g 2)), (1, .int a1)] := hl
  refine lv_iload_n hx hb d_Terms_size_0 rfl (lv_at hl 1 rfl) ?_
  refine lv_if_lt (tgt := 28) hx hb d_Terms_size_1 (by decide) (fun c1 => ?_) (fun c1 => ?_)
  · replace h := Eq.trans (if_pos c1).symm h
    refine lv_iconst (v := 0) hx hb d_Terms_size_28 (by decide) ?_
    exact kv_iret (w := 0) hx hb hr rfl hlocks h d_Terms_size_29
  · replace h := Eq.trans (if_neg c1).symm h
    refine lv_iload_n hx hb d_Terms_size_4 rfl (lv_at hl 1 rfl) ?_
    refine lv_aload_n hx hb d_Terms_size_5 rfl (lv_at hl 0 rfl) ?_
    refine kf_Terms_length S E hJ vt_324 d_Terms_size_6 ?_
    refine lv_icmp_ge (tgt := 28) hx hb d_Terms_size_9 (by decide) (fun c2 => ?_) (fun c2 => ?_)
    · replace h := Eq.trans (if_pos c2).symm h
      refine lv_iconst (v := 0) hx hb d_Terms_size_28 (by decide) ?_
      exact kv_iret (w := 0) hx hb hr rfl hlocks h d_Terms_size_29
    · replace h := Eq.trans (if_neg c2).symm h
      refine lv_aload_n hx hb d_Terms_size_12 rfl (lv_at hl 0 rfl) ?_
      refine kf_Terms_infos S E hJ vt_96 d_Terms_size_13 ?_
      refine lv_iload_n hx hb d_Terms_size_16 rfl (lv_at hl 1 rfl) ?_
      refine kl_infos S E hJ (kTin (by decide) (by decide) hJ.2.1 c1 c2) d_Terms_size_17 ?_
      refine lv_iconst (v := 4) hx hb d_Terms_size_18 (by decide) ?_
      refine lv_lushr (v := (((α.2.2.2.1 (a1).toNatClampNeg)).toUInt64 >>> ((4 : Int32).toInt64.toUInt64 &&& Int64.toUInt64 63)).toInt64) hx hb d_Terms_size_19 rfl ?_
      refine lv_l2i (v := (((((α.2.2.2.1 (a1).toNatClampNeg)).toUInt64 >>> ((4 : Int32).toInt64.toUInt64 &&& Int64.toUInt64 63)).toInt64)).toInt32) hx hb d_Terms_size_20 rfl ?_
      refine lv_sipush (v := 8191) hx hb d_Terms_size_21 (by decide) ?_
      refine lv_iand hx hb d_Terms_size_24 ?_
      refine lv_goto (tgt := 29) hx hb d_Terms_size_25 (by decide) ?_
      exact kv_iret (w := ((((((α.2.2.2.1 (a1).toNatClampNeg)).toUInt64 >>> ((4 : Int32).toInt64.toUInt64 &&& Int64.toUInt64 63)).toInt64)).toInt32 &&& 8191)) hx hb hr rfl hlocks h d_Terms_size_29
def f_Terms_depth (a1 : Int32) (α : kS) : Int32 := if a1 < 0 then (0) else (if (α.1 6) ≤ a1 then (0) else (((((((α.2.2.2.1 (a1).toNatClampNeg)).toUInt64 >>> ((17 : Int32).toInt64.toUInt64 &&& Int64.toUInt64 63)).toInt64)).toInt32 &&& 511)))
set_option maxHeartbeats 4000000 in
set_option maxRecDepth 100000 in
theorem k_Terms_depth {l : Launch} {g : kG} {α : kS} (a1 : Int32)  : kV l g y_Terms_depth b_Terms_depth 2 (some .int) 1 1 [.ref (kad g 2), .int a1] α (f_Terms_depth a1 α) := by
  generalize h : f_Terms_depth a1 α = x
  unfold f_Terms_depth at h
  refine kv_ofW (by decide) (fun A ad p e s m args below meth c S hr hlocks hargs E hJ => ?_)
  have hx := S.1
  have hb := S.2.1
  have hown := S.2.2.2.1
  have hT := S.2.2.2.2
  subst hargs
  have hl := lv_entry ([.ref (kad g 2), .int a1]) (n := 2) (Nat.le_of_ble_eq_true rfl)
  rw [lg_entry_eq]
  generalize (lg_sl ([.ref (kad g 2), .int a1]) ++ List.replicate (2 - (lg_sl ([.ref (kad g 2), .int a1])).length) Slot.unset).toArray = ls at hl ⊢
  have hl : lv_has ls 2 [(0, .ref (kad g 2)), (1, .int a1)] := hl
  refine lv_iload_n hx hb d_Terms_depth_0 rfl (lv_at hl 1 rfl) ?_
  refine lv_if_lt (tgt := 29) hx hb d_Terms_depth_1 (by decide) (fun c1 => ?_) (fun c1 => ?_)
  · replace h := Eq.trans (if_pos c1).symm h
    refine lv_iconst (v := 0) hx hb d_Terms_depth_29 (by decide) ?_
    exact kv_iret (w := 0) hx hb hr rfl hlocks h d_Terms_depth_30
  · replace h := Eq.trans (if_neg c1).symm h
    refine lv_iload_n hx hb d_Terms_depth_4 rfl (lv_at hl 1 rfl) ?_
    refine lv_aload_n hx hb d_Terms_depth_5 rfl (lv_at hl 0 rfl) ?_
    refine kf_Terms_length S E hJ vt_324 d_Terms_depth_6 ?_
    refine lv_icmp_ge (tgt := 29) hx hb d_Terms_depth_9 (by decide) (fun c2 => ?_) (fun c2 => ?_)
    · replace h := Eq.trans (if_pos c2).symm h
      refine lv_iconst (v := 0) hx hb d_Terms_depth_29 (by decide) ?_
      exact kv_iret (w := 0) hx hb hr rfl hlocks h d_Terms_depth_30
    · replace h := Eq.trans (if_neg c2).symm h
      refine lv_aload_n hx hb d_Terms_depth_12 rfl (lv_at hl 0 rfl) ?_
      refine kf_Terms_infos S E hJ vt_96 d_Terms_depth_13 ?_
      refine lv_iload_n hx hb d_Terms_depth_16 rfl (lv_at hl 1 rfl) ?_
      refine kl_infos S E hJ (kTin (by decide) (by decide) hJ.2.1 c1 c2) d_Terms_depth_17 ?_
      refine lv_bipush (v := 17) hx hb d_Terms_depth_18 (by decide) ?_
      refine lv_lushr (v := (((α.2.2.2.1 (a1).toNatClampNeg)).toUInt64 >>> ((17 : Int32).toInt64.toUInt64 &&& Int64.toUInt64 63)).toInt64) hx hb d_Terms_depth_20 rfl ?_
      refine lv_l2i (v := (((((α.2.2.2.1 (a1).toNatClampNeg)).toUInt64 >>> ((17 : Int32).toInt64.toUInt64 &&& Int64.toUInt64 63)).toInt64)).toInt32) hx hb d_Terms_depth_21 rfl ?_
      refine lv_sipush (v := 511) hx hb d_Terms_depth_22 (by decide) ?_
      refine lv_iand hx hb d_Terms_depth_25 ?_
      refine lv_goto (tgt := 30) hx hb d_Terms_depth_26 (by decide) ?_
      exact kv_iret (w := ((((((α.2.2.2.1 (a1).toNatClampNeg)).toUInt64 >>> ((17 : Int32).toInt64.toUInt64 &&& Int64.toUInt64 63)).toInt64)).toInt32 &&& 511)) hx hb hr rfl hlocks h d_Terms_depth_30
def f_Terms_loose (a1 : Int32) (α : kS) : Int32 := if a1 < 0 then (0) else (if (α.1 6) ≤ a1 then (0) else (((((((α.2.2.2.1 (a1).toNatClampNeg)).toUInt64 >>> ((26 : Int32).toInt64.toUInt64 &&& Int64.toUInt64 63)).toInt64)).toInt32 &&& 8191)))
set_option maxHeartbeats 4000000 in
set_option maxRecDepth 100000 in
theorem k_Terms_loose {l : Launch} {g : kG} {α : kS} (a1 : Int32)  : kV l g y_Terms_loose b_Terms_loose 2 (some .int) 1 1 [.ref (kad g 2), .int a1] α (f_Terms_loose a1 α) := by
  generalize h : f_Terms_loose a1 α = x
  unfold f_Terms_loose at h
  refine kv_ofW (by decide) (fun A ad p e s m args below meth c S hr hlocks hargs E hJ => ?_)
  have hx := S.1
  have hb := S.2.1
  have hown := S.2.2.2.1
  have hT := S.2.2.2.2
  subst hargs
  have hl := lv_entry ([.ref (kad g 2), .int a1]) (n := 2) (Nat.le_of_ble_eq_true rfl)
  rw [lg_entry_eq]
  generalize (lg_sl ([.ref (kad g 2), .int a1]) ++ List.replicate (2 - (lg_sl ([.ref (kad g 2), .int a1])).length) Slot.unset).toArray = ls at hl ⊢
  have hl : lv_has ls 2 [(0, .ref (kad g 2)), (1, .int a1)] := hl
  refine lv_iload_n hx hb d_Terms_loose_0 rfl (lv_at hl 1 rfl) ?_
  refine lv_if_lt (tgt := 29) hx hb d_Terms_loose_1 (by decide) (fun c1 => ?_) (fun c1 => ?_)
  · replace h := Eq.trans (if_pos c1).symm h
    refine lv_iconst (v := 0) hx hb d_Terms_loose_29 (by decide) ?_
    exact kv_iret (w := 0) hx hb hr rfl hlocks h d_Terms_loose_30
  · replace h := Eq.trans (if_neg c1).symm h
    refine lv_iload_n hx hb d_Terms_loose_4 rfl (lv_at hl 1 rfl) ?_
    refine lv_aload_n hx hb d_Terms_loose_5 rfl (lv_at hl 0 rfl) ?_
    refine kf_Terms_length S E hJ vt_324 d_Terms_loose_6 ?_
    refine lv_icmp_ge (tgt := 29) hx hb d_Terms_loose_9 (by decide) (fun c2 => ?_) (fun c2 => ?_)
    · replace h := Eq.trans (if_pos c2).symm h
      refine lv_iconst (v := 0) hx hb d_Terms_loose_29 (by decide) ?_
      exact kv_iret (w := 0) hx hb hr rfl hlocks h d_Terms_loose_30
    · replace h := Eq.trans (if_neg c2).symm h
      refine lv_aload_n hx hb d_Terms_loose_12 rfl (lv_at hl 0 rfl) ?_
      refine kf_Terms_infos S E hJ vt_96 d_Terms_loose_13 ?_
      refine lv_iload_n hx hb d_Terms_loose_16 rfl (lv_at hl 1 rfl) ?_
      refine kl_infos S E hJ (kTin (by decide) (by decide) hJ.2.1 c1 c2) d_Terms_loose_17 ?_
      refine lv_bipush (v := 26) hx hb d_Terms_loose_18 (by decide) ?_
      refine lv_lushr (v := (((α.2.2.2.1 (a1).toNatClampNeg)).toUInt64 >>> ((26 : Int32).toInt64.toUInt64 &&& Int64.toUInt64 63)).toInt64) hx hb d_Terms_loose_20 rfl ?_
      refine lv_l2i (v := (((((α.2.2.2.1 (a1).toNatClampNeg)).toUInt64 >>> ((26 : Int32).toInt64.toUInt64 &&& Int64.toUInt64 63)).toInt64)).toInt32) hx hb d_Terms_loose_21 rfl ?_
      refine lv_sipush (v := 8191) hx hb d_Terms_loose_22 (by decide) ?_
      refine lv_iand hx hb d_Terms_loose_25 ?_
      refine lv_goto (tgt := 30) hx hb d_Terms_loose_26 (by decide) ?_
      exact kv_iret (w := ((((((α.2.2.2.1 (a1).toNatClampNeg)).toUInt64 >>> ((26 : Int32).toInt64.toUInt64 &&& Int64.toUInt64 63)).toInt64)).toInt32 &&& 8191)) hx hb hr rfl hlocks h d_Terms_loose_30
def f_Terms_free (a1 : Int32) (α : kS) : Int32 := if a1 < 0 then (0) else (if (α.1 6) ≤ a1 then (0) else (((((((α.2.2.2.1 (a1).toNatClampNeg)).toUInt64 >>> ((39 : Int32).toInt64.toUInt64 &&& Int64.toUInt64 63)).toInt64)).toInt32 &&& 2047)))
set_option maxHeartbeats 4000000 in
set_option maxRecDepth 100000 in
theorem k_Terms_free {l : Launch} {g : kG} {α : kS} (a1 : Int32)  : kV l g y_Terms_free b_Terms_free 2 (some .int) 1 1 [.ref (kad g 2), .int a1] α (f_Terms_free a1 α) := by
  generalize h : f_Terms_free a1 α = x
  unfold f_Terms_free at h
  refine kv_ofW (by decide) (fun A ad p e s m args below meth c S hr hlocks hargs E hJ => ?_)
  have hx := S.1
  have hb := S.2.1
  have hown := S.2.2.2.1
  have hT := S.2.2.2.2
  subst hargs
  have hl := lv_entry ([.ref (kad g 2), .int a1]) (n := 2) (Nat.le_of_ble_eq_true rfl)
  rw [lg_entry_eq]
  generalize (lg_sl ([.ref (kad g 2), .int a1]) ++ List.replicate (2 - (lg_sl ([.ref (kad g 2), .int a1])).length) Slot.unset).toArray = ls at hl ⊢
  have hl : lv_has ls 2 [(0, .ref (kad g 2)), (1, .int a1)] := hl
  refine lv_iload_n hx hb d_Terms_free_0 rfl (lv_at hl 1 rfl) ?_
  refine lv_if_lt (tgt := 29) hx hb d_Terms_free_1 (by decide) (fun c1 => ?_) (fun c1 => ?_)
  · replace h := Eq.trans (if_pos c1).symm h
    refine lv_iconst (v := 0) hx hb d_Terms_free_29 (by decide) ?_
    exact kv_iret (w := 0) hx hb hr rfl hlocks h d_Terms_free_30
  · replace h := Eq.trans (if_neg c1).symm h
    refine lv_iload_n hx hb d_Terms_free_4 rfl (lv_at hl 1 rfl) ?_
    refine lv_aload_n hx hb d_Terms_free_5 rfl (lv_at hl 0 rfl) ?_
    refine kf_Terms_length S E hJ vt_324 d_Terms_free_6 ?_
    refine lv_icmp_ge (tgt := 29) hx hb d_Terms_free_9 (by decide) (fun c2 => ?_) (fun c2 => ?_)
    · replace h := Eq.trans (if_pos c2).symm h
      refine lv_iconst (v := 0) hx hb d_Terms_free_29 (by decide) ?_
      exact kv_iret (w := 0) hx hb hr rfl hlocks h d_Terms_free_30
    · replace h := Eq.trans (if_neg c2).symm h
      refine lv_aload_n hx hb d_Terms_free_12 rfl (lv_at hl 0 rfl) ?_
      refine kf_Terms_infos S E hJ vt_96 d_Terms_free_13 ?_
      refine lv_iload_n hx hb d_Terms_free_16 rfl (lv_at hl 1 rfl) ?_
      refine kl_infos S E hJ (kTin (by decide) (by decide) hJ.2.1 c1 c2) d_Terms_free_17 ?_
      refine lv_bipush (v := 39) hx hb d_Terms_free_18 (by decide) ?_
      refine lv_lushr (v := (((α.2.2.2.1 (a1).toNatClampNeg)).toUInt64 >>> ((39 : Int32).toInt64.toUInt64 &&& Int64.toUInt64 63)).toInt64) hx hb d_Terms_free_20 rfl ?_
      refine lv_l2i (v := (((((α.2.2.2.1 (a1).toNatClampNeg)).toUInt64 >>> ((39 : Int32).toInt64.toUInt64 &&& Int64.toUInt64 63)).toInt64)).toInt32) hx hb d_Terms_free_21 rfl ?_
      refine lv_sipush (v := 2047) hx hb d_Terms_free_22 (by decide) ?_
      refine lv_iand hx hb d_Terms_free_25 ?_
      refine lv_goto (tgt := 30) hx hb d_Terms_free_26 (by decide) ?_
      exact kv_iret (w := ((((((α.2.2.2.1 (a1).toNatClampNeg)).toUInt64 >>> ((39 : Int32).toInt64.toUInt64 &&& Int64.toUInt64 63)).toInt64)).toInt32 &&& 2047)) hx hb hr rfl hlocks h d_Terms_free_30
def f_Terms_left (a1 : Int32) (α : kS) : Int32 := if a1 < 0 then (0) else (if (α.1 6) ≤ a1 then (0) else ((α.2.2.2.2 0 (a1).toNatClampNeg)))
set_option maxHeartbeats 4000000 in
set_option maxRecDepth 100000 in
theorem k_Terms_left {l : Launch} {g : kG} {α : kS} (a1 : Int32)  : kV l g y_Terms_left b_Terms_left 2 (some .int) 1 1 [.ref (kad g 2), .int a1] α (f_Terms_left a1 α) := by
  generalize h : f_Terms_left a1 α = x
  unfold f_Terms_left at h
  refine kv_ofW (by decide) (fun A ad p e s m args below meth c S hr hlocks hargs E hJ => ?_)
  have hx := S.1
  have hb := S.2.1
  have hown := S.2.2.2.1
  have hT := S.2.2.2.2
  subst hargs
  have hl := lv_entry ([.ref (kad g 2), .int a1]) (n := 2) (Nat.le_of_ble_eq_true rfl)
  rw [lg_entry_eq]
  generalize (lg_sl ([.ref (kad g 2), .int a1]) ++ List.replicate (2 - (lg_sl ([.ref (kad g 2), .int a1])).length) Slot.unset).toArray = ls at hl ⊢
  have hl : lv_has ls 2 [(0, .ref (kad g 2)), (1, .int a1)] := hl
  refine lv_iload_n hx hb d_Terms_left_0 rfl (lv_at hl 1 rfl) ?_
  refine lv_if_lt (tgt := 21) hx hb d_Terms_left_1 (by decide) (fun c1 => ?_) (fun c1 => ?_)
  · replace h := Eq.trans (if_pos c1).symm h
    refine lv_iconst (v := 0) hx hb d_Terms_left_21 (by decide) ?_
    exact kv_iret (w := 0) hx hb hr rfl hlocks h d_Terms_left_22
  · replace h := Eq.trans (if_neg c1).symm h
    refine lv_iload_n hx hb d_Terms_left_4 rfl (lv_at hl 1 rfl) ?_
    refine lv_aload_n hx hb d_Terms_left_5 rfl (lv_at hl 0 rfl) ?_
    refine kf_Terms_length S E hJ vt_324 d_Terms_left_6 ?_
    refine lv_icmp_ge (tgt := 21) hx hb d_Terms_left_9 (by decide) (fun c2 => ?_) (fun c2 => ?_)
    · replace h := Eq.trans (if_pos c2).symm h
      refine lv_iconst (v := 0) hx hb d_Terms_left_21 (by decide) ?_
      exact kv_iret (w := 0) hx hb hr rfl hlocks h d_Terms_left_22
    · replace h := Eq.trans (if_neg c2).symm h
      refine lv_aload_n hx hb d_Terms_left_12 rfl (lv_at hl 0 rfl) ?_
      refine kf_Terms_lefts S E hJ vt_97 d_Terms_left_13 ?_
      refine lv_iload_n hx hb d_Terms_left_16 rfl (lv_at hl 1 rfl) ?_
      refine kl_lefts S E hJ (kTin (by decide) (by decide) hJ.2.1 c1 c2) d_Terms_left_17 ?_
      refine lv_goto (tgt := 22) hx hb d_Terms_left_18 (by decide) ?_
      exact kv_iret (w := (α.2.2.2.2 0 (a1).toNatClampNeg)) hx hb hr rfl hlocks h d_Terms_left_22
def f_Terms_right (a1 : Int32) (α : kS) : Int32 := if a1 < 0 then (0) else (if (α.1 6) ≤ a1 then (0) else ((α.2.2.2.2 1 (a1).toNatClampNeg)))
set_option maxHeartbeats 4000000 in
set_option maxRecDepth 100000 in
theorem k_Terms_right {l : Launch} {g : kG} {α : kS} (a1 : Int32)  : kV l g y_Terms_right b_Terms_right 2 (some .int) 1 1 [.ref (kad g 2), .int a1] α (f_Terms_right a1 α) := by
  generalize h : f_Terms_right a1 α = x
  unfold f_Terms_right at h
  refine kv_ofW (by decide) (fun A ad p e s m args below meth c S hr hlocks hargs E hJ => ?_)
  have hx := S.1
  have hb := S.2.1
  have hown := S.2.2.2.1
  have hT := S.2.2.2.2
  subst hargs
  have hl := lv_entry ([.ref (kad g 2), .int a1]) (n := 2) (Nat.le_of_ble_eq_true rfl)
  rw [lg_entry_eq]
  generalize (lg_sl ([.ref (kad g 2), .int a1]) ++ List.replicate (2 - (lg_sl ([.ref (kad g 2), .int a1])).length) Slot.unset).toArray = ls at hl ⊢
  have hl : lv_has ls 2 [(0, .ref (kad g 2)), (1, .int a1)] := hl
  refine lv_iload_n hx hb d_Terms_right_0 rfl (lv_at hl 1 rfl) ?_
  refine lv_if_lt (tgt := 21) hx hb d_Terms_right_1 (by decide) (fun c1 => ?_) (fun c1 => ?_)
  · replace h := Eq.trans (if_pos c1).symm h
    refine lv_iconst (v := 0) hx hb d_Terms_right_21 (by decide) ?_
    exact kv_iret (w := 0) hx hb hr rfl hlocks h d_Terms_right_22
  · replace h := Eq.trans (if_neg c1).symm h
    refine lv_iload_n hx hb d_Terms_right_4 rfl (lv_at hl 1 rfl) ?_
    refine lv_aload_n hx hb d_Terms_right_5 rfl (lv_at hl 0 rfl) ?_
    refine kf_Terms_length S E hJ vt_324 d_Terms_right_6 ?_
    refine lv_icmp_ge (tgt := 21) hx hb d_Terms_right_9 (by decide) (fun c2 => ?_) (fun c2 => ?_)
    · replace h := Eq.trans (if_pos c2).symm h
      refine lv_iconst (v := 0) hx hb d_Terms_right_21 (by decide) ?_
      exact kv_iret (w := 0) hx hb hr rfl hlocks h d_Terms_right_22
    · replace h := Eq.trans (if_neg c2).symm h
      refine lv_aload_n hx hb d_Terms_right_12 rfl (lv_at hl 0 rfl) ?_
      refine kf_Terms_rights S E hJ vt_98 d_Terms_right_13 ?_
      refine lv_iload_n hx hb d_Terms_right_16 rfl (lv_at hl 1 rfl) ?_
      refine kl_rights S E hJ (kTin (by decide) (by decide) hJ.2.1 c1 c2) d_Terms_right_17 ?_
      refine lv_goto (tgt := 22) hx hb d_Terms_right_18 (by decide) ?_
      exact kv_iret (w := (α.2.2.2.2 1 (a1).toNatClampNeg)) hx hb hr rfl hlocks h d_Terms_right_22
def f_Terms_length  (α : kS) : Int32 := (α.1 6)
set_option maxHeartbeats 4000000 in
set_option maxRecDepth 100000 in
theorem k_Terms_length {l : Launch} {g : kG} {α : kS}   : kV l g y_Terms_length b_Terms_length 1 (some .int) 1 1 [.ref (kad g 2)] α (f_Terms_length α) := by
  generalize h : f_Terms_length α = x
  unfold f_Terms_length at h
  refine kv_ofW (by decide) (fun A ad p e s m args below meth c S hr hlocks hargs E hJ => ?_)
  have hx := S.1
  have hb := S.2.1
  have hown := S.2.2.2.1
  have hT := S.2.2.2.2
  subst hargs
  have hl := lv_entry ([.ref (kad g 2)]) (n := 1) (Nat.le_of_ble_eq_true rfl)
  rw [lg_entry_eq]
  generalize (lg_sl ([.ref (kad g 2)]) ++ List.replicate (1 - (lg_sl ([.ref (kad g 2)])).length) Slot.unset).toArray = ls at hl ⊢
  have hl : lv_has ls 1 [(0, .ref (kad g 2))] := hl
  refine lv_aload_n hx hb d_Terms_length_0 rfl (lv_at hl 0 rfl) ?_
  refine kf_Terms_length S E hJ vt_324 d_Terms_length_1 ?_
  exact kv_iret (w := (α.1 6)) hx hb hr rfl hlocks h d_Terms_length_4
def f_Terms_binds (a1 : Int32) (α : kS) : Int32 := if a1 = 6 then (1) else (if a1 = 7 then (1) else (if a1 = 9 then (1) else (0)))
set_option maxHeartbeats 4000000 in
set_option maxRecDepth 100000 in
theorem k_Terms_binds {l : Launch} {g : kG} {α : kS} (a1 : Int32)  : kV l g y_Terms_binds b_Terms_binds 1 (some .int) 1 1 [.int a1] α (f_Terms_binds a1 α) := by
  generalize h : f_Terms_binds a1 α = x
  unfold f_Terms_binds at h
  refine kv_ofW (by decide) (fun A ad p e s m args below meth c S hr hlocks hargs E hJ => ?_)
  have hx := S.1
  have hb := S.2.1
  have hown := S.2.2.2.1
  have hT := S.2.2.2.2
  subst hargs
  have hl := lv_entry ([.int a1]) (n := 1) (Nat.le_of_ble_eq_true rfl)
  rw [lg_entry_eq]
  generalize (lg_sl ([.int a1]) ++ List.replicate (1 - (lg_sl ([.int a1])).length) Slot.unset).toArray = ls at hl ⊢
  have hl : lv_has ls 1 [(0, .int a1)] := hl
  refine lv_iload_n hx hb d_Terms_binds_0 rfl (lv_at hl 0 rfl) ?_
  refine lv_bipush (v := 6) hx hb d_Terms_binds_1 (by decide) ?_
  refine lv_icmp_eq (tgt := 18) hx hb d_Terms_binds_3 (by decide) (fun c1 => ?_) (fun c1 => ?_)
  · replace h := Eq.trans (if_pos c1).symm h
    refine lv_iconst (v := 1) hx hb d_Terms_binds_18 (by decide) ?_
    refine lv_goto (tgt := 23) hx hb d_Terms_binds_19 (by decide) ?_
    exact kv_iret (w := 1) hx hb hr rfl hlocks h d_Terms_binds_23
  · replace h := Eq.trans (if_neg c1).symm h
    refine lv_iload_n hx hb d_Terms_binds_6 rfl (lv_at hl 0 rfl) ?_
    refine lv_bipush (v := 7) hx hb d_Terms_binds_7 (by decide) ?_
    refine lv_icmp_eq (tgt := 18) hx hb d_Terms_binds_9 (by decide) (fun c2 => ?_) (fun c2 => ?_)
    · replace h := Eq.trans (if_pos c2).symm h
      refine lv_iconst (v := 1) hx hb d_Terms_binds_18 (by decide) ?_
      refine lv_goto (tgt := 23) hx hb d_Terms_binds_19 (by decide) ?_
      exact kv_iret (w := 1) hx hb hr rfl hlocks h d_Terms_binds_23
    · replace h := Eq.trans (if_neg c2).symm h
      refine lv_iload_n hx hb d_Terms_binds_12 rfl (lv_at hl 0 rfl) ?_
      refine lv_bipush (v := 9) hx hb d_Terms_binds_13 (by decide) ?_
      refine lv_icmp_ne (tgt := 22) hx hb d_Terms_binds_15 (by decide) (fun c3 => ?_) (fun c3 => ?_)
      · replace h := Eq.trans (if_neg c3).symm h
        refine lv_iconst (v := 0) hx hb d_Terms_binds_22 (by decide) ?_
        exact kv_iret (w := 0) hx hb hr rfl hlocks h d_Terms_binds_23
      · replace h := Eq.trans (if_pos c3).symm h
        refine lv_iconst (v := 1) hx hb d_Terms_binds_18 (by decide) ?_
        refine lv_goto (tgt := 23) hx hb d_Terms_binds_19 (by decide) ?_
        exact kv_iret (w := 1) hx hb hr rfl hlocks h d_Terms_binds_23
def f_Terms_slot (a1 : Int32) (a2 : Int32) (a3 : Int32) (α : kS) : Int32 := (((((a1 * 668265263) + (a2 * (-1640531535))) + (a3 * (-2048144789))) ^^^ ((((((a1 * 668265263) + (a2 * (-1640531535))) + (a3 * (-2048144789)))).toUInt32 >>> ((15 : Int32).toUInt32 &&& Int32.toUInt32 31)).toInt32)) &&& ((nI (α.2.2.1 25)) - 1))
set_option maxHeartbeats 4000000 in
set_option maxRecDepth 100000 in
theorem k_Terms_slot {l : Launch} {g : kG} {α : kS} (a1 : Int32) (a2 : Int32) (a3 : Int32)  : kV l g y_Terms_slot b_Terms_slot 5 (some .int) 1 1 [.ref (kad g 2), .int a1, .int a2, .int a3] α (f_Terms_slot a1 a2 a3 α) := by
  generalize h : f_Terms_slot a1 a2 a3 α = x
  unfold f_Terms_slot at h
  refine kv_ofW (by decide) (fun A ad p e s m args below meth c S hr hlocks hargs E hJ => ?_)
  have hx := S.1
  have hb := S.2.1
  have hown := S.2.2.2.1
  have hT := S.2.2.2.2
  subst hargs
  have hl := lv_entry ([.ref (kad g 2), .int a1, .int a2, .int a3]) (n := 5) (Nat.le_of_ble_eq_true rfl)
  rw [lg_entry_eq]
  generalize (lg_sl ([.ref (kad g 2), .int a1, .int a2, .int a3]) ++ List.replicate (5 - (lg_sl ([.ref (kad g 2), .int a1, .int a2, .int a3])).length) Slot.unset).toArray = ls at hl ⊢
  have hl : lv_has ls 5 [(0, .ref (kad g 2)), (1, .int a1), (2, .int a2), (3, .int a3)] := hl
  refine lv_iload_n hx hb d_Terms_slot_0 rfl (lv_at hl 1 rfl) ?_
  refine lv_ldc (v := 668265263) hx hb hown (hT _ vt_572) d_Terms_slot_1 ?_
  refine lv_imul hx hb d_Terms_slot_3 ?_
  refine lv_iload_n hx hb d_Terms_slot_4 rfl (lv_at hl 2 rfl) ?_
  refine lv_ldc (v := (-1640531535)) hx hb hown (hT _ vt_573) d_Terms_slot_5 ?_
  refine lv_imul hx hb d_Terms_slot_7 ?_
  refine lv_iadd hx hb d_Terms_slot_8 ?_
  refine lv_iload_n hx hb d_Terms_slot_9 rfl (lv_at hl 3 rfl) ?_
  refine lv_ldc (v := (-2048144789)) hx hb hown (hT _ vt_574) d_Terms_slot_10 ?_
  refine lv_imul hx hb d_Terms_slot_12 ?_
  refine lv_iadd hx hb d_Terms_slot_13 ?_
  refine lv_istore (lv' := [(4, .int (((a1 * 668265263) + (a2 * (-1640531535))) + (a3 * (-2048144789)))), (0, .ref (kad g 2)), (1, .int a1), (2, .int a2), (3, .int a3)]) hx hb d_Terms_slot_14 hl (by decide) rfl (fun ls hl => ?_)
  refine lv_iload hx hb d_Terms_slot_16 (lv_at hl 0 rfl) ?_
  refine lv_iload hx hb d_Terms_slot_18 (lv_at hl 0 rfl) ?_
  refine lv_bipush (v := 15) hx hb d_Terms_slot_20 (by decide) ?_
  refine lv_iushr (v := ((((((a1 * 668265263) + (a2 * (-1640531535))) + (a3 * (-2048144789)))).toUInt32 >>> ((15 : Int32).toUInt32 &&& Int32.toUInt32 31)).toInt32)) hx hb d_Terms_slot_22 rfl ?_
  refine lv_ixor hx hb d_Terms_slot_23 ?_
  refine lv_istore (lv' := [(4, .int ((((a1 * 668265263) + (a2 * (-1640531535))) + (a3 * (-2048144789))) ^^^ ((((((a1 * 668265263) + (a2 * (-1640531535))) + (a3 * (-2048144789)))).toUInt32 >>> ((15 : Int32).toUInt32 &&& Int32.toUInt32 31)).toInt32))), (0, .ref (kad g 2)), (1, .int a1), (2, .int a2), (3, .int a3)]) hx hb d_Terms_slot_24 hl (by decide) rfl (fun ls hl => ?_)
  refine lv_iload hx hb d_Terms_slot_26 (lv_at hl 0 rfl) ?_
  refine lv_aload_n hx hb d_Terms_slot_28 rfl (lv_at hl 1 rfl) ?_
  refine kf_Terms_heads S E hJ vt_100 d_Terms_slot_29 ?_
  refine kn_heads S E hJ d_Terms_slot_32 ?_
  refine lv_iconst (v := 1) hx hb d_Terms_slot_33 (by decide) ?_
  refine lv_isub hx hb d_Terms_slot_34 ?_
  refine lv_iand hx hb d_Terms_slot_35 ?_
  exact kv_iret (w := (((((a1 * 668265263) + (a2 * (-1640531535))) + (a3 * (-2048144789))) ^^^ ((((((a1 * 668265263) + (a2 * (-1640531535))) + (a3 * (-2048144789)))).toUInt32 >>> ((15 : Int32).toUInt32 &&& Int32.toUInt32 31)).toInt32)) &&& ((nI (α.2.2.1 25)) - 1))) hx hb hr rfl hlocks h d_Terms_slot_36
theorem kw_Terms_52 : kWv "FamilyKernel$Terms" 52 "FamilyKernel$Terms" y_Terms_kind b_Terms_kind 2 (some .int) 1 := ⟨vt_540, vt_541, vt_542, vt_19, vt_543, by decide, by decide, by decide +kernel⟩
theorem kw_Terms_56 : kWv "FamilyKernel$Terms" 56 "FamilyKernel$Terms" y_Terms_left b_Terms_left 2 (some .int) 1 := ⟨vt_632, vt_633, vt_634, vt_19, vt_635, by decide, by decide, by decide +kernel⟩
def f_Terms_head_4 (N : Nat)  (α : kS) : Nat → Int32 → Int32 → Option Int32
  | 0, _, _ => none
  | n + 1, x3, x2 => if 3000 ≤ x3 then (some x2) else (if (f_Terms_kind x2 α) = 5 then (f_Terms_head_4 N α n (x3 + 1) (f_Terms_left x2 α)) else (some x2))
def f_Terms_head (N : Nat) (a1 : Int32) (α : kS) : Option Int32 := f_Terms_head_4 N α N 0 a1
set_option maxHeartbeats 4000000 in
set_option maxRecDepth 100000 in
theorem k_Terms_head {l : Launch} {g : kG} {α : kS} (N : Nat) (a1 : Int32)  : ∀ x, f_Terms_head N a1 α = some x → kV l g y_Terms_head b_Terms_head 4 (some .int) 2 22 [.ref (kad g 2), .int a1] α x := by
  intro x h
  unfold f_Terms_head at h
  refine kv_ofW (by decide) (fun A ad p e s m args below meth c S hr hlocks hargs E hJ => ?_)
  have hx := S.1
  have hb := S.2.1
  have hown := S.2.2.2.1
  have hT := S.2.2.2.2
  subst hargs
  have hl := lv_entry ([.ref (kad g 2), .int a1]) (n := 4) (Nat.le_of_ble_eq_true rfl)
  rw [lg_entry_eq]
  generalize (lg_sl ([.ref (kad g 2), .int a1]) ++ List.replicate (4 - (lg_sl ([.ref (kad g 2), .int a1])).length) Slot.unset).toArray = ls at hl ⊢
  have hl : lv_has ls 4 [(0, .ref (kad g 2)), (1, .int a1)] := hl
  refine lv_iload_n hx hb d_Terms_head_0 rfl (lv_at hl 1 rfl) ?_
  refine lv_istore_n (lv' := [(2, .int a1), (0, .ref (kad g 2)), (1, .int a1)]) hx hb d_Terms_head_1 rfl hl (by decide) rfl (fun ls hl => ?_)
  refine lv_iconst (v := 0) hx hb d_Terms_head_2 (by decide) ?_
  refine lv_istore_n (lv' := [(3, .int 0), (2, .int a1), (0, .ref (kad g 2)), (1, .int a1)]) hx hb d_Terms_head_3 rfl hl (by decide) rfl (fun ls hl => ?_)
  have L4 : ∀ (n4 : Nat) (x3 : Int32) (x2 : Int32) (ls : Array Slot), f_Terms_head_4 N α n4 x3 x2 = some x → lv_has ls 4 [(3, .int x3), (2, .int x2), (0, .ref (kad g 2))] → W p l e { frames := 2, cells := 0, slots := 0, locals := 22 } s m ([.ref (kad g 2), .int a1]).toArray below meth c s.heap [] 0 0 (MQ below (QcRead x) ([.ref (kad g 2), .int a1]).toArray s 0 0 (fun _ => False)) (F0 m 4 ls []) := by
    intro n4
    induction n4 with
    | zero => intro x3 x2 ls h hl; rw [f_Terms_head_4] at h; cases h
    | succ n4 ih4 =>
      intro x3 x2 ls h hl
      rw [f_Terms_head_4] at h
      refine lv_iload_n hx hb d_Terms_head_4 rfl (lv_at hl 0 rfl) ?_
      refine lv_sipush (v := 3000) hx hb d_Terms_head_5 (by decide) ?_
      refine lv_icmp_ge (tgt := 32) hx hb d_Terms_head_8 (by decide) (fun c1 => ?_) (fun c1 => ?_)
      · replace h := Eq.trans (if_pos c1).symm h
        refine lv_iload_n hx hb d_Terms_head_32 rfl (lv_at hl 1 rfl) ?_
        exact kv_iret (w := x2) hx hb hr rfl hlocks (Option.some.inj h) d_Terms_head_33
      · replace h := Eq.trans (if_neg c1).symm h
        refine lv_aload_n hx hb d_Terms_head_11 rfl (lv_at hl 2 rfl) ?_
        refine lv_iload_n hx hb d_Terms_head_12 rfl (lv_at hl 1 rfl) ?_
        refine kg_p (As := [.int x2]) (rest := []) (k_Terms_kind (l := l) (g := g) (α := α) x2) S E hJ kw_Terms_52 ⟨Nat.le_of_ble_eq_true rfl, Nat.le_of_ble_eq_true rfl⟩ ⟨Nat.le_refl _, Nat.le_refl _⟩ (kv_Terms E hJ) rfl hl.1 rfl (Nat.le_of_ble_eq_true rfl) d_Terms_head_13 rfl ?_
        refine lv_iconst (v := 5) hx hb d_Terms_head_16 (by decide) ?_
        refine lv_icmp_ne (tgt := 32) hx hb d_Terms_head_17 (by decide) (fun c2 => ?_) (fun c2 => ?_)
        · replace h := Eq.trans (if_neg c2).symm h
          refine lv_iload_n hx hb d_Terms_head_32 rfl (lv_at hl 1 rfl) ?_
          exact kv_iret (w := x2) hx hb hr rfl hlocks (Option.some.inj h) d_Terms_head_33
        · replace h := Eq.trans (if_pos c2).symm h
          refine lv_aload_n hx hb d_Terms_head_20 rfl (lv_at hl 2 rfl) ?_
          refine lv_iload_n hx hb d_Terms_head_21 rfl (lv_at hl 1 rfl) ?_
          refine kg_p (As := [.int x2]) (rest := []) (k_Terms_left (l := l) (g := g) (α := α) x2) S E hJ kw_Terms_56 ⟨Nat.le_of_ble_eq_true rfl, Nat.le_of_ble_eq_true rfl⟩ ⟨Nat.le_refl _, Nat.le_refl _⟩ (kv_Terms E hJ) rfl hl.1 rfl (Nat.le_of_ble_eq_true rfl) d_Terms_head_22 rfl ?_
          refine lv_istore_n (lv' := [(2, .int (f_Terms_left x2 α)), (3, .int x3), (0, .ref (kad g 2))]) hx hb d_Terms_head_25 rfl hl (by decide) rfl (fun ls hl => ?_)
          refine lv_iinc (v := (x3 + 1)) (lv' := [(3, .int (x3 + 1)), (2, .int (f_Terms_left x2 α)), (0, .ref (kad g 2))]) hx hb d_Terms_head_26 hl (k := 1) rfl rfl (by decide) rfl (fun ls hl => ?_)
          refine lv_goto (tgt := 4) hx hb d_Terms_head_29 (by decide) ?_
          exact ih4 (x3 + 1) (f_Terms_left x2 α) _ h (lv_sub hl [0, 1, 2] rfl)
  exact L4 N 0 a1 _ h (lv_sub hl [0, 1, 2] rfl)
def f_Terms_behind_4 (N : Nat)  (α : kS) : Nat → Int32 → Int32 → Option Int32
  | 0, _, _ => none
  | n + 1, x3, x2 => if 3000 ≤ x2 then (some x2) else (if (f_Terms_kind x3 α) = 5 then (f_Terms_behind_4 N α n (f_Terms_left x3 α) (x2 + 1)) else (some x2))
def f_Terms_behind (N : Nat) (a1 : Int32) (α : kS) : Option Int32 := f_Terms_behind_4 N α N a1 0
set_option maxHeartbeats 4000000 in
set_option maxRecDepth 100000 in
theorem k_Terms_behind {l : Launch} {g : kG} {α : kS} (N : Nat) (a1 : Int32)  : ∀ x, f_Terms_behind N a1 α = some x → kV l g y_Terms_behind b_Terms_behind 4 (some .int) 2 22 [.ref (kad g 2), .int a1] α x := by
  intro x h
  unfold f_Terms_behind at h
  refine kv_ofW (by decide) (fun A ad p e s m args below meth c S hr hlocks hargs E hJ => ?_)
  have hx := S.1
  have hb := S.2.1
  have hown := S.2.2.2.1
  have hT := S.2.2.2.2
  subst hargs
  have hl := lv_entry ([.ref (kad g 2), .int a1]) (n := 4) (Nat.le_of_ble_eq_true rfl)
  rw [lg_entry_eq]
  generalize (lg_sl ([.ref (kad g 2), .int a1]) ++ List.replicate (4 - (lg_sl ([.ref (kad g 2), .int a1])).length) Slot.unset).toArray = ls at hl ⊢
  have hl : lv_has ls 4 [(0, .ref (kad g 2)), (1, .int a1)] := hl
  refine lv_iconst (v := 0) hx hb d_Terms_behind_0 (by decide) ?_
  refine lv_istore_n (lv' := [(2, .int 0), (0, .ref (kad g 2)), (1, .int a1)]) hx hb d_Terms_behind_1 rfl hl (by decide) rfl (fun ls hl => ?_)
  refine lv_iload_n hx hb d_Terms_behind_2 rfl (lv_at hl 2 rfl) ?_
  refine lv_istore_n (lv' := [(3, .int a1), (2, .int 0), (0, .ref (kad g 2)), (1, .int a1)]) hx hb d_Terms_behind_3 rfl hl (by decide) rfl (fun ls hl => ?_)
  have L4 : ∀ (n4 : Nat) (x3 : Int32) (x2 : Int32) (ls : Array Slot), f_Terms_behind_4 N α n4 x3 x2 = some x → lv_has ls 4 [(3, .int x3), (2, .int x2), (0, .ref (kad g 2))] → W p l e { frames := 2, cells := 0, slots := 0, locals := 22 } s m ([.ref (kad g 2), .int a1]).toArray below meth c s.heap [] 0 0 (MQ below (QcRead x) ([.ref (kad g 2), .int a1]).toArray s 0 0 (fun _ => False)) (F0 m 4 ls []) := by
    intro n4
    induction n4 with
    | zero => intro x3 x2 ls h hl; rw [f_Terms_behind_4] at h; cases h
    | succ n4 ih4 =>
      intro x3 x2 ls h hl
      rw [f_Terms_behind_4] at h
      refine lv_iload_n hx hb d_Terms_behind_4 rfl (lv_at hl 1 rfl) ?_
      refine lv_sipush (v := 3000) hx hb d_Terms_behind_5 (by decide) ?_
      refine lv_icmp_ge (tgt := 32) hx hb d_Terms_behind_8 (by decide) (fun c1 => ?_) (fun c1 => ?_)
      · replace h := Eq.trans (if_pos c1).symm h
        refine lv_iload_n hx hb d_Terms_behind_32 rfl (lv_at hl 1 rfl) ?_
        exact kv_iret (w := x2) hx hb hr rfl hlocks (Option.some.inj h) d_Terms_behind_33
      · replace h := Eq.trans (if_neg c1).symm h
        refine lv_aload_n hx hb d_Terms_behind_11 rfl (lv_at hl 2 rfl) ?_
        refine lv_iload_n hx hb d_Terms_behind_12 rfl (lv_at hl 0 rfl) ?_
        refine kg_p (As := [.int x3]) (rest := []) (k_Terms_kind (l := l) (g := g) (α := α) x3) S E hJ kw_Terms_52 ⟨Nat.le_of_ble_eq_true rfl, Nat.le_of_ble_eq_true rfl⟩ ⟨Nat.le_refl _, Nat.le_refl _⟩ (kv_Terms E hJ) rfl hl.1 rfl (Nat.le_of_ble_eq_true rfl) d_Terms_behind_13 rfl ?_
        refine lv_iconst (v := 5) hx hb d_Terms_behind_16 (by decide) ?_
        refine lv_icmp_ne (tgt := 32) hx hb d_Terms_behind_17 (by decide) (fun c2 => ?_) (fun c2 => ?_)
        · replace h := Eq.trans (if_neg c2).symm h
          refine lv_iload_n hx hb d_Terms_behind_32 rfl (lv_at hl 1 rfl) ?_
          exact kv_iret (w := x2) hx hb hr rfl hlocks (Option.some.inj h) d_Terms_behind_33
        · replace h := Eq.trans (if_pos c2).symm h
          refine lv_iinc (v := (x2 + 1)) (lv' := [(2, .int (x2 + 1)), (3, .int x3), (0, .ref (kad g 2))]) hx hb d_Terms_behind_20 hl (k := 1) rfl rfl (by decide) rfl (fun ls hl => ?_)
          refine lv_aload_n hx hb d_Terms_behind_23 rfl (lv_at hl 2 rfl) ?_
          refine lv_iload_n hx hb d_Terms_behind_24 rfl (lv_at hl 1 rfl) ?_
          refine kg_p (As := [.int x3]) (rest := []) (k_Terms_left (l := l) (g := g) (α := α) x3) S E hJ kw_Terms_56 ⟨Nat.le_of_ble_eq_true rfl, Nat.le_of_ble_eq_true rfl⟩ ⟨Nat.le_refl _, Nat.le_refl _⟩ (kv_Terms E hJ) rfl hl.1 rfl (Nat.le_of_ble_eq_true rfl) d_Terms_behind_25 rfl ?_
          refine lv_istore_n (lv' := [(3, .int (f_Terms_left x3 α)), (2, .int (x2 + 1)), (0, .ref (kad g 2))]) hx hb d_Terms_behind_28 rfl hl (by decide) rfl (fun ls hl => ?_)
          refine lv_goto (tgt := 4) hx hb d_Terms_behind_29 (by decide) ?_
          exact ih4 (f_Terms_left x3 α) (x2 + 1) _ h (lv_sub hl [0, 1, 2] rfl)
  exact L4 N a1 0 _ h (lv_sub hl [0, 1, 2] rfl)
theorem kw_Terms_59 : kWv "FamilyKernel$Terms" 59 "FamilyKernel$Terms" y_Terms_right b_Terms_right 2 (some .int) 1 := ⟨vt_625, vt_626, vt_627, vt_19, vt_628, by decide, by decide, by decide +kernel⟩
def f_Terms_fromLast_5 (N : Nat)  (α : kS) : Nat → Int32 → Int32 → Int32 → Option Int32
  | 0, _, _, _ => none
  | n + 1, x4, x3, x2 => if x2 ≤ x4 then (some (f_Terms_right x3 α)) else (f_Terms_fromLast_5 N α n (x4 + 1) (f_Terms_left x3 α) x2)
def f_Terms_fromLast (N : Nat) (a1 : Int32) (a2 : Int32) (α : kS) : Option Int32 := f_Terms_fromLast_5 N α N 0 a1 a2
set_option maxHeartbeats 4000000 in
set_option maxRecDepth 100000 in
theorem k_Terms_fromLast {l : Launch} {g : kG} {α : kS} (N : Nat) (a1 : Int32) (a2 : Int32)  : ∀ x, f_Terms_fromLast N a1 a2 α = some x → kV l g y_Terms_fromLast b_Terms_fromLast 5 (some .int) 2 22 [.ref (kad g 2), .int a1, .int a2] α x := by
  intro x h
  unfold f_Terms_fromLast at h
  refine kv_ofW (by decide) (fun A ad p e s m args below meth c S hr hlocks hargs E hJ => ?_)
  have hx := S.1
  have hb := S.2.1
  have hown := S.2.2.2.1
  have hT := S.2.2.2.2
  subst hargs
  have hl := lv_entry ([.ref (kad g 2), .int a1, .int a2]) (n := 5) (Nat.le_of_ble_eq_true rfl)
  rw [lg_entry_eq]
  generalize (lg_sl ([.ref (kad g 2), .int a1, .int a2]) ++ List.replicate (5 - (lg_sl ([.ref (kad g 2), .int a1, .int a2])).length) Slot.unset).toArray = ls at hl ⊢
  have hl : lv_has ls 5 [(0, .ref (kad g 2)), (1, .int a1), (2, .int a2)] := hl
  refine lv_iload_n hx hb d_Terms_fromLast_0 rfl (lv_at hl 1 rfl) ?_
  refine lv_istore_n (lv' := [(3, .int a1), (0, .ref (kad g 2)), (1, .int a1), (2, .int a2)]) hx hb d_Terms_fromLast_1 rfl hl (by decide) rfl (fun ls hl => ?_)
  refine lv_iconst (v := 0) hx hb d_Terms_fromLast_2 (by decide) ?_
  refine lv_istore (lv' := [(4, .int 0), (3, .int a1), (0, .ref (kad g 2)), (1, .int a1), (2, .int a2)]) hx hb d_Terms_fromLast_3 hl (by decide) rfl (fun ls hl => ?_)
  have L5 : ∀ (n5 : Nat) (x4 : Int32) (x3 : Int32) (x2 : Int32) (ls : Array Slot), f_Terms_fromLast_5 N α n5 x4 x3 x2 = some x → lv_has ls 5 [(4, .int x4), (3, .int x3), (0, .ref (kad g 2)), (2, .int x2)] → W p l e { frames := 2, cells := 0, slots := 0, locals := 22 } s m ([.ref (kad g 2), .int a1, .int a2]).toArray below meth c s.heap [] 0 0 (MQ below (QcRead x) ([.ref (kad g 2), .int a1, .int a2]).toArray s 0 0 (fun _ => False)) (F0 m 5 ls []) := by
    intro n5
    induction n5 with
    | zero => intro x4 x3 x2 ls h hl; rw [f_Terms_fromLast_5] at h; cases h
    | succ n5 ih5 =>
      intro x4 x3 x2 ls h hl
      rw [f_Terms_fromLast_5] at h
      refine lv_iload hx hb d_Terms_fromLast_5 (lv_at hl 0 rfl) ?_
      refine lv_iload_n hx hb d_Terms_fromLast_7 rfl (lv_at hl 3 rfl) ?_
      refine lv_icmp_ge (tgt := 23) hx hb d_Terms_fromLast_8 (by decide) (fun c1 => ?_) (fun c1 => ?_)
      · replace h := Eq.trans (if_pos c1).symm h
        refine lv_aload_n hx hb d_Terms_fromLast_23 rfl (lv_at hl 2 rfl) ?_
        refine lv_iload_n hx hb d_Terms_fromLast_24 rfl (lv_at hl 1 rfl) ?_
        refine kg_p (As := [.int x3]) (rest := []) (k_Terms_right (l := l) (g := g) (α := α) x3) S E hJ kw_Terms_59 ⟨Nat.le_of_ble_eq_true rfl, Nat.le_of_ble_eq_true rfl⟩ ⟨Nat.le_refl _, Nat.le_refl _⟩ (kv_Terms E hJ) rfl hl.1 rfl (Nat.le_of_ble_eq_true rfl) d_Terms_fromLast_25 rfl ?_
        exact kv_iret (w := (f_Terms_right x3 α)) hx hb hr rfl hlocks (Option.some.inj h) d_Terms_fromLast_28
      · replace h := Eq.trans (if_neg c1).symm h
        refine lv_aload_n hx hb d_Terms_fromLast_11 rfl (lv_at hl 2 rfl) ?_
        refine lv_iload_n hx hb d_Terms_fromLast_12 rfl (lv_at hl 1 rfl) ?_
        refine kg_p (As := [.int x3]) (rest := []) (k_Terms_left (l := l) (g := g) (α := α) x3) S E hJ kw_Terms_56 ⟨Nat.le_of_ble_eq_true rfl, Nat.le_of_ble_eq_true rfl⟩ ⟨Nat.le_refl _, Nat.le_refl _⟩ (kv_Terms E hJ) rfl hl.1 rfl (Nat.le_of_ble_eq_true rfl) d_Terms_fromLast_13 rfl ?_
        refine lv_istore_n (lv' := [(3, .int (f_Terms_left x3 α)), (4, .int x4), (0, .ref (kad g 2)), (2, .int x2)]) hx hb d_Terms_fromLast_16 rfl hl (by decide) rfl (fun ls hl => ?_)
        refine lv_iinc (v := (x4 + 1)) (lv' := [(4, .int (x4 + 1)), (3, .int (f_Terms_left x3 α)), (0, .ref (kad g 2)), (2, .int x2)]) hx hb d_Terms_fromLast_17 hl (k := 1) rfl rfl (by decide) rfl (fun ls hl => ?_)
        refine lv_goto (tgt := 5) hx hb d_Terms_fromLast_20 (by decide) ?_
        exact ih5 (x4 + 1) (f_Terms_left x3 α) x2 _ h (lv_sub hl [0, 1, 2, 3] rfl)
  exact L5 N 0 a1 a2 _ h (lv_sub hl [0, 1, 2, 4] rfl)
