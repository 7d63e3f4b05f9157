/-! THE CLAIM OUT OF ONE WALK OF THE LAW'S BODY. Your part is whole_start (and what it stands on); all else here is the same for every law, but numbers. -/
def R_law : String := "FamilyKernelLaw"
def lw_P (b : Addr) (xs : List Int32) (args : Array Value) (s : State) : Prop := args = #[.ref b] ∧ s.IntsAt b xs ∧ xs.length ≤ 6 ∧ (Jvm.Cond.and given_1 narrow_1).before args s = true
def lw_Q (_ : Array Value) (s : State) (o : Outcome) (t : State) : Prop := o = .returned (some (.int 1)) ∧ Framed s o t [] 600002 7302231
def lw_Z (below : List Frame) (a : Array Value) (s : State) : State → Prop := fun t => ∃ o, t.status = .running ∧ Ended t below o ∧ lw_Q a s o t
/-- the law's own end, with 1 on the stack, nothing written that was there before, its room as the claim has it -/
theorem lw_ret {p : Program} {l : Launch} {e : Env} {s : State} {m : MethodId} {below : List Frame} {meth : Method} {c : Code} {b : Nat} (hx : p.tables.exec = Jvm.exec) (hb : c.code = code) (hr : meth.sig.returnType = ret) (hlocks : meth.locks = false) {pc : Nat} {H : Heap} {ls : Array Slot} (hdg : decode code pc = .ok (.ireturn, 1)) : W p l e room_1 s m #[Value.ref b] below meth c H [] 600002 7302231 (lw_Z below #[Value.ref b] s) (F0 m pc ls [.int 1]) := by
  intro T hT X
  obtain ⟨fs, hret, hrun, hended, hW, hframe⟩ := X.leave (v := some (.int 1)) (hlocks := hlocks) (fun h => by rw [hr] at h; cases h)
  have hmeth' : T.vm.method? m = some meth := X.method'
  refine ⟨T.setFrames fs, ?_, .returned (some (.int 1)), hrun, hended, rfl, ⟨_, rfl⟩, hW, hframe⟩
  jvm_step X.here [X.here.top, hx, hb, hdg, hmeth', hr, ret, narrow_b1]
  (try refine ⟨rfl, ?_⟩); (try refine ⟨rfl, ?_⟩)
  first | (intro acts; rw [hret _ acts rfl rfl rfl]) | rw [hret _ _ rfl rfl rfl]
  exact Steps.refl _
/-- what holds at the law's entry: the machine, the code, the tables' words (any of lw_tbl by 'hts w (by decide +kernel)'), the script of L ints xs at the cell b, what the Statement gives of the start (any of its parts by flat_of_before) -/
def lw_At (p : Program) (s : State) (m : MethodId) (meth : Method) (c : Code) (b L : Nat) (xs : Nat → Int32) : Prop :=
  p.tables.exec = Jvm.exec ∧ c.code = code ∧ meth.sig.returnType = ret ∧ c.maxLocals = 7 ∧ s.vm.findClass R_law = some m.cls ∧ (∀ w ∈ lw_tbl, w.before #[Value.ref b] s = true) ∧ va_X b L xs s s.heap ∧ b < s.heap.size ∧ meth.locks = false ∧ (Jvm.Cond.and given_1 narrow_1).before #[Value.ref b] s = true
theorem law_end {p : Program} {l : Launch} {e : Env} {s : State} {m : MethodId} {below : List Frame} {meth : Method} {c : Code} {b L : Nat} {xs : Nat → Int32} (C0 : lw_At p s m meth c b L xs) {H : Heap} {locs : List Loc} {ls : Array Slot} {cs sl : Nat} (h1 : cs ≤ 600002) (h2 : sl ≤ 7302231) (hS : ∀ q ∈ locs, s.heap.size ≤ q.base) :
    W p l e room_1 s m #[Value.ref b] below meth c H locs cs sl (lw_Z below #[Value.ref b] s) (F0 m 598 ls []) := by
  obtain ⟨hx, hb, hr, hml, hown, hts, hX, hbl, hlocks, hgv⟩ := C0
  refine lv_iconst (v := 1) hx hb d_Law_law_598 (by decide) ?_
  refine va_forget hS ?_
  refine W.widen (k := 600002) (n := 7302231) h1 h2 ?_
  exact lw_ret hx hb hr hlocks d_Law_law_599
theorem vl_gt {L : Nat} (hL : L ≤ 6) : (Int32.ofNat L : Int32) - 6 < 6 := by
  rcases (show L = 0 ∨ L = 1 ∨ L = 2 ∨ L = 3 ∨ L = 4 ∨ L = 5 ∨ L = 6 by omega) with rfl | rfl | rfl | rfl | rfl | rfl | rfl <;> decide
theorem law_next {p : Program} {l : Launch} {e : Env} {s : State} {m : MethodId} {below : List Frame} {meth : Method} {c : Code} {b : Nat} {xs : Nat → Int32} (C0 : lw_At p s m meth c b 6 xs) {H : Heap} {locs : List Loc} {ls : Array Slot} {cs sl : Nat} (h1 : cs ≤ 600002) (h2 : sl ≤ 7302231) {A : Nat → Prop} (hAe : A = fun q : Nat => s.heap.size ≤ q) (hS : va_S A s.heap H locs) (hl : lv_has ls 7 [(4, .int 0), (0, .ref b)]) :
    W p l e room_1 s m #[Value.ref b] below meth c H locs cs sl (lw_Z below #[Value.ref b] s) (F0 m 592 ls []) := by
  obtain ⟨hx, hb, hr, hml, hown, hts, hX, hbl, hlocks, hgv⟩ := id C0
  have hbA : ¬ A b := by rw [hAe]; exact Nat.not_le.mpr hbl
  refine lv_iinc (v := 6) (lv' := [(4, .int 6), (0, .ref b)]) hx hb d_Law_law_592 hl (k := 0) rfl (by decide) (by decide) rfl (fun ls hl => ?_)
  refine lv_goto (tgt := 23) hx hb d_Law_law_595 (by decide) ?_
  refine lv_iload hx hb d_Law_law_23 (lv_at hl 0 rfl) ?_
  refine lv_aload_n hx hb d_Law_law_25 rfl (lv_at hl 1 rfl) ?_
  refine va_slen hx hb hX hbl hbA hS d_Law_law_26 ?_
  refine lv_bipush (v := 6) hx hb d_Law_law_27 (by decide) ?_
  refine lv_isub hx hb d_Law_law_29 ?_
  refine lv_icmp_gt (tgt := 598) hx hb d_Law_law_30 (by decide) (fun c_1 => ?_) (fun c_1 => absurd (vl_gt (Nat.le_refl 6)) c_1)
  exact law_end C0 h1 h2 (fun q hq => by have := hS.2.2 q hq; rw [hAe] at this; exact this)
set_option maxRecDepth 100000 in
theorem law_X_IAE {p : Program} {s : State} {m : MethodId} {meth : Method} {c : Code} {b L : Nat} {xs : Nat → Int32} (C0 : lw_At p s m meth c b L xs) : vx_X "java/lang/IllegalArgumentException" s := by
  obtain ⟨-, -, -, -, -, hts, -, -, -, hgv⟩ := C0
  have hs := flat_of_before _ hgv
  exact ⟨⟨⟨(hts _ (List.mem_append_right _ (List.mem_of_getElem? (i := 646) rfl))), hs (.isRef (.static "java/lang/Throwable" "UNASSIGNED_STACK" "[Ljava/lang/StackTraceElement;")) (by decide +kernel)⟩, ⟨(hts _ (List.mem_append_right _ (List.mem_of_getElem? (i := 648) rfl))), hs (.isRef (.static "java/lang/Throwable" "SUPPRESSED_SENTINEL" "Ljava/util/List;")) (by decide +kernel)⟩⟩,
    va_Nw.of rfl (hts _ (List.mem_append_right _ (List.mem_of_getElem? (i := 1597) rfl))), va_Nw.of rfl (hts _ (List.mem_append_right _ (List.mem_of_getElem? (i := 622) rfl))), va_Nw.of rfl (hts _ (List.mem_append_right _ (List.mem_of_getElem? (i := 624) rfl))), va_Nw.of rfl (hts _ (List.mem_append_right _ (List.mem_of_getElem? (i := 626) rfl)))⟩
set_option maxRecDepth 100000 in
theorem law_X_NSE {p : Program} {s : State} {m : MethodId} {meth : Method} {c : Code} {b L : Nat} {xs : Nat → Int32} (C0 : lw_At p s m meth c b L xs) : vx_X "java/util/NoSuchElementException" s := by
  obtain ⟨-, -, -, -, -, hts, -, -, -, hgv⟩ := C0
  have hs := flat_of_before _ hgv
  exact ⟨⟨⟨(hts _ (List.mem_append_right _ (List.mem_of_getElem? (i := 646) rfl))), hs (.isRef (.static "java/lang/Throwable" "UNASSIGNED_STACK" "[Ljava/lang/StackTraceElement;")) (by decide +kernel)⟩, ⟨(hts _ (List.mem_append_right _ (List.mem_of_getElem? (i := 648) rfl))), hs (.isRef (.static "java/lang/Throwable" "SUPPRESSED_SENTINEL" "Ljava/util/List;")) (by decide +kernel)⟩⟩,
    va_Nw.of rfl (hts _ (List.mem_append_right _ (List.mem_of_getElem? (i := 1620) rfl))), va_Nw.of rfl (hts _ (List.mem_append_right _ (List.mem_of_getElem? (i := 622) rfl))), va_Nw.of rfl (hts _ (List.mem_append_right _ (List.mem_of_getElem? (i := 624) rfl))), va_Nw.of rfl (hts _ (List.mem_append_right _ (List.mem_of_getElem? (i := 626) rfl)))⟩
set_option maxRecDepth 100000 in
theorem law_X_IOB {p : Program} {s : State} {m : MethodId} {meth : Method} {c : Code} {b L : Nat} {xs : Nat → Int32} (C0 : lw_At p s m meth c b L xs) : vx_X "java/lang/IndexOutOfBoundsException" s := by
  obtain ⟨-, -, -, -, -, hts, -, -, -, hgv⟩ := C0
  have hs := flat_of_before _ hgv
  exact ⟨⟨⟨(hts _ (List.mem_append_right _ (List.mem_of_getElem? (i := 646) rfl))), hs (.isRef (.static "java/lang/Throwable" "UNASSIGNED_STACK" "[Ljava/lang/StackTraceElement;")) (by decide +kernel)⟩, ⟨(hts _ (List.mem_append_right _ (List.mem_of_getElem? (i := 648) rfl))), hs (.isRef (.static "java/lang/Throwable" "SUPPRESSED_SENTINEL" "Ljava/util/List;")) (by decide +kernel)⟩⟩,
    va_Nw.of rfl (hts _ (List.mem_append_right _ (List.mem_of_getElem? (i := 1663) rfl))), va_Nw.of rfl (hts _ (List.mem_append_right _ (List.mem_of_getElem? (i := 622) rfl))), va_Nw.of rfl (hts _ (List.mem_append_right _ (List.mem_of_getElem? (i := 624) rfl))), va_Nw.of rfl (hts _ (List.mem_append_right _ (List.mem_of_getElem? (i := 626) rfl)))⟩
