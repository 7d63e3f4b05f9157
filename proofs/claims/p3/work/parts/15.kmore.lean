-- calls whose end is known beforehand; static methods that only read; throwing
section KMO
variable {p : Program} {l : Launch} {e : Env} {R : Room} {fr0 lo0 : Nat} {s : State} {m : MethodId} {args : Array Value} {below : List Frame} {meth : Method} {c : Code} {H : Heap} {locs : List Loc} {cells slots : Nat} {g : kG} {A : Nat → Prop} {α0 α : kS} {ad0 ad : Nat → Nat} {x : kO × kS} {cc : ByteArray}
variable {y : MethodName} {bytes : ByteArray} {maxL nL n0 index fr lo : Nat} {ret : Option FieldType} {own C : String} {b : Addr} {As rest st0 : List Value} {ls : Array Slot} {pc : Nat}
theorem kg_tV {β : kS} {Q : Outcome → kS → Prop} (hM : kC l g y bytes maxL ret fr lo (.ref b :: As) α (kQr (some none, β))) (S : CallFix p m c cc nL s args vT own) (hlocks : meth.locks = false) (hno : c.exceptionTable.isEmpty = true) (E : kE g A s) (hI : kI g A s α0 ad0 α ad H locs cells slots)
    (hw : kWv own index C y bytes maxL ret n0) (hR : fr + 1 ≤ fr0 ∧ 8 + (maxL + 11) + lo ≤ lo0) (hrecv : ∃ cellB : Cell, H[b]? = some cellB ∧ cellB.vm.isStatics = false ∧ s.vm.findClass C = some cellB.cls)
    (hn : As.length = n0) (hsize : ls.size = nL) (hstack : st0 = As.reverse ++ .ref b :: rest) (hW : (rest.map fun v => v.category).sum ≤ 8) (hdg : decode cc pc = .ok (.invokevirtual index, 3))
    (kr : ∀ (ad' : Nat → Nat) (H1 : Heap) (locs1 : List Loc) (cells1 slots1 : Nat), kRm α ad β ad' → kI g A s α0 ad0 β ad' H1 locs1 cells1 slots1 → W p l e (kR fr0 lo0 α0) s m args below meth c H1 locs1 cells1 slots1 (vEQ below (kQ g A α0 ad0 Q) args s A) (F0 m (pc + 3) ls rest)) :
    W p l e (kR fr0 lo0 α0) s m args below meth c H locs cells slots (vEQ below (kQ g A α0 ad0 Q) args s A) (F0 m pc ls st0) := by
  obtain ⟨w1, w2, w3, w4, w5, w6⟩ := hw
  refine kc_callV S hlocks hno E hI hM w1 w2 w3 w4 w5 w6 hR hrecv hn hsize hstack hW hdg ?_ ?_
  · intro v1 α' ad' H1 locs1 cells1 slots1 hq hRm hI1
    obtain ⟨rfl, hq2⟩ := hq
    cases hq2
    exact kr ad' H1 locs1 cells1 slots1 hRm hI1
  · intro a α' hq
    cases hq.2
theorem kg_tI {v : Int32} {β : kS} {Q : Outcome → kS → Prop} (hM : kC l g y bytes maxL ret fr lo (.ref b :: As) α (kQr (some (some v), β))) (S : CallFix p m c cc nL s args vT own) (hlocks : meth.locks = false) (hno : c.exceptionTable.isEmpty = true) (E : kE g A s) (hI : kI g A s α0 ad0 α ad H locs cells slots)
    (hw : kWv own index C y bytes maxL ret n0) (hR : fr + 1 ≤ fr0 ∧ 8 + (maxL + 11) + lo ≤ lo0) (hrecv : ∃ cellB : Cell, H[b]? = some cellB ∧ cellB.vm.isStatics = false ∧ s.vm.findClass C = some cellB.cls)
    (hn : As.length = n0) (hsize : ls.size = nL) (hstack : st0 = As.reverse ++ .ref b :: rest) (hW : (rest.map fun v => v.category).sum ≤ 8) (hdg : decode cc pc = .ok (.invokevirtual index, 3))
    (kr : ∀ (ad' : Nat → Nat) (H1 : Heap) (locs1 : List Loc) (cells1 slots1 : Nat), kRm α ad β ad' → kI g A s α0 ad0 β ad' H1 locs1 cells1 slots1 → W p l e (kR fr0 lo0 α0) s m args below meth c H1 locs1 cells1 slots1 (vEQ below (kQ g A α0 ad0 Q) args s A) (F0 m (pc + 3) ls (.int v :: rest))) :
    W p l e (kR fr0 lo0 α0) s m args below meth c H locs cells slots (vEQ below (kQ g A α0 ad0 Q) args s A) (F0 m pc ls st0) := by
  obtain ⟨w1, w2, w3, w4, w5, w6⟩ := hw
  refine kc_callV S hlocks hno E hI hM w1 w2 w3 w4 w5 w6 hR hrecv hn hsize hstack hW hdg ?_ ?_
  · intro v1 α' ad' H1 locs1 cells1 slots1 hq hRm hI1
    obtain ⟨rfl, hq2⟩ := hq
    cases hq2
    exact kr ad' H1 locs1 cells1 slots1 hRm hI1
  · intro a α' hq
    cases hq.2
/-- the words of a static call -/
def kWs (own : String) (index : Nat) (y : MethodName) (bytes : ByteArray) (maxL : Nat) (ret : Option FieldType) (n0 : Nat) : Prop :=
  Cond.methodLink own index y ∈ vT ∧ Cond.static y ∈ vT ∧ Cond.initialized y.cls ∈ vT ∧ Cond.code y bytes maxL ret ∈ vT ∧ y.cls ≠ "java/lang/invoke/MethodHandle" ∧ y.cls ≠ "java/lang/invoke/VarHandle" ∧ (parseMethodDescriptor y.desc).map (fun d => d.parameters.length) = some n0
theorem kg_pS {Q : State → Prop} {v : Int32} (hM : kV l g y bytes maxL ret fr lo As α v) (S : CallFix p m c cc nL s args vT own) (E : kE g A s) (hJ : kJ g A s α ad H locs)
    (hw : kWs own index y bytes maxL ret n0) (hR : fr + 1 ≤ R.frames ∧ 8 + (maxL + 11) + lo ≤ R.locals) (hc : cells ≤ R.cells ∧ slots ≤ R.slots)
    (hn : As.length = n0) (hsize : ls.size = nL) (hstack : st0 = As.reverse ++ rest) (hW : (rest.map fun v => v.category).sum ≤ 8) (hdg : decode cc pc = .ok (.invokestatic index, 3))
    (kr : W p l e R s m args below meth c H locs cells slots Q (F0 m (pc + 3) ls (.int v :: rest))) :
    W p l e R s m args below meth c H locs cells slots Q (F0 m pc ls st0) := by
  obtain ⟨w1, w2, w4, w5, w6, w7, w8⟩ := hw
  obtain ⟨hexec, hb, hml, hown, hts⟩ := S
  subst hstack
  refine W.callR (g := F0 m pc ls (As.reverse ++ rest)) (rest := rest) (a := As.toArray) (r := v) ?_ kr
  intro T hT X
  obtain ⟨v, st₀, t, T', L, a1, a2, a3, a4, -, a5, a6⟩ := va_runS (As := As) (rest := rest) (g := F0 m pc ls (As.reverse ++ rest)) ⟨hexec, hb, hml, hown, hts⟩ (hM A ad) (va_cwS n0 hts (gSS w1 w2 w4 w5) rfl rfl rfl ⟨w6, w7, w8⟩ hR) ⟨kB_blind, hJ.to E⟩ rfl hn hsize rfl (lv_room hW) hdg hc T hT X
  exact ⟨v, st₀, t, T', L, a1, a2, a3, a4, a5, a6⟩
theorem kHp.kept {H1 : Heap} (h : kHp g A α ad H) (hq : ∀ q : Nat, q < H.size → H1[q]? = H[q]?) : kHp g A α ad H1 := by
  obtain ⟨zf, hP, hD, hz⟩ := h
  exact ⟨zf, hP.kept (fun k q hk => hq _ (hP k q hk).lt), hD, hz⟩
/-- new IllegalStateException, thrown -/
theorem kg_throw {ix ic : Nat} (S : CallFix p m c cc nL s args vT own) (hlocks : meth.locks = false) (hno : c.exceptionTable.isEmpty = true) (htr : e.platform.stackTraces = false) (E : kE g A s) (hI : kI g A s α0 ad0 α ad H locs cells slots) (h : some ((none, α) : kO × kS) = some x)
    (hcl : Cond.classLink own ix kISE ∈ vT) (hini : Cond.initialized kISE ∈ vT) (hall : (Bundle.ownAtoms0 own ic kISE vx_names).all (fun a => decide (a ∈ vT) || decide (a ∈ [Cond.castable kISE kISE, vx_l1, vx_l2, vx_r1, vx_r2, vx_d1, vx_d2, vx_d3])) = true)
    (hls : ls.size = nL) (d0 : decode cc pc = .ok (.new ix, 3)) (d3 : decode cc (pc + 3) = .ok (.dup, 1)) (d4 : decode cc (pc + 4) = .ok (.invokespecial ic, 3)) (d7 : decode cc (pc + 7) = .ok (.athrow, 1)) (hf : 5 < fr0) (hlo : 81 ≤ lo0) :
    W p l e (kR fr0 lo0 α0) s m args below meth c H locs cells slots (vEQ below (kQ g A α0 ad0 (kQr x)) args s A) (F0 m pc ls []) := by
  cases h
  obtain ⟨hexec, hb, hml, hown, hts⟩ := S
  intro T hT X
  have hF := hI.1.2.1.F
  have b1 := hI.2.2.1
  have b2 := hI.2.2.2
  have X' := vr_base X (by show cells ≤ (kM - kF α0) / 32 + 1; omega) (by show slots ≤ kM - kF α0 + 6; omega)
  have hW0 : s.WarmedH (T.setFrames (.invoking m args :: below)).vm := X.warmed
  have E' : kE g A (T.setFrames (.invoking m args :: below)) := E.at hI.1.2.2 hT hW0
  have hts' : ∀ w ∈ vT, w.before args (T.setFrames (.invoking m args :: below)) = true := fun w hw => word_at hW0 (gw hw).2 (hts w hw)
  obtain ⟨U, st, o, hrun, hend, xx, ce, rfl, hW, hsame, hce, hst, hcls⟩ := vx_throw (s := T.setFrames (.invoking m args :: below)) (R := vr_room (kR fr0 lo0 α0) cells slots) (nL := nL) hexec hb hml htr (own := own) (E := kISE) (ix := ix) (ic := ic) (by rw [hW0.alike.findClass]; exact hown) (by decide) (hts' _ hcl) (hts' _ hini) (vx_atoms hall hts' E'.2.2.1) hno hls d0 d3 d4 d7 hf hlo
    (by show 1 ≤ (kM - kF α0) / 32 + 1 - cells; omega) (by show 6 ≤ kM - kF α0 + 6 - slots; omega) hlocks T rfl X'
  obtain ⟨w1, w2⟩ := vr_same X hW hsame
  obtain ⟨o1, o2⟩ := vx_old hsame
  have o1 : T.heap.size ≤ U.heap.size := o1
  have o2 : ∀ q : Nat, q < T.heap.size → U.heap[q]? = T.heap[q]? := o2
  rw [hT] at o1 o2
  refine ⟨U, st, .threw xx, locs ++ [], cells + 1, slots + 6, hrun, hend, w1, w2, by rw [List.append_nil]; exact hI.1.2.2.2.2, α, ad, ⟨rfl, xx, rfl⟩, ⟨hI.1.1.kept o2, hI.1.2.1, ?_⟩, hI.2.1, ?_, ?_, ?_⟩
  · exact E.by w1 (Nat.le_trans hI.1.2.2.1 o1) (fun q h1 h2 => (o2 q (Nat.lt_of_lt_of_le h1 hI.1.2.2.1)).trans (hI.1.2.2.2.1 q h1 h2))
  · intro x1 e1
    cases e1
    exact ⟨ce, hce, hst, by rw [hW.alike.findClass]; exact hcls⟩
  · show slots + 6 + kF α0 ≤ kF α + 6 * 1
    omega
  · show 32 * (cells + 1) + kF α0 ≤ kF α + 32 * 1
    omega
end KMO
