theorem vg_spec {y : MethodName} {bytes : ByteArray} {maxL : Nat} {ret : Option FieldType} {cd : Cond} {args : Array Value} {s : State} {m : MethodId} (hcd : (cd = Cond.code y bytes maxL ret) ∨ ∃ hh, cd = Cond.codeWith y bytes maxL ret hh) (hn : s.methodNamed? y = some m) (h : cd.before args s = true) :
    ∃ meth c, s.vm.method? m = some meth ∧ meth.code = some c ∧ c.maxLocals = maxL ∧ parseMethodDescriptor y.desc = some meth.sig := by
  rcases hcd with rfl | ⟨hh, rfl⟩
  · obtain ⟨meth, c, h1, h2, -, h4, -, -, -, h8⟩ := Cond.code_spec hn h
    exact ⟨meth, c, h1, h2, h4, h8⟩
  · obtain ⟨m9, meth, c, hn9, h1, h2, -, h4, -, -, -, h8⟩ := Cond.codeWith_spec h
    cases hn.symm.trans hn9
    exact ⟨meth, c, h1, h2, h4, h8⟩
theorem vE_ofWW {l : Launch} {y : MethodName} {ws ws' : List Cond} {rm : Room} {Pc : Array Value → State → Prop} {Q : Array Value → State → Outcome → State → Nat → Nat → Prop} {A : Nat → Prop} {cc : ByteArray} {maxL : Nat} {ret : Option FieldType} {hh : List (Nat × Nat × Nat × Nat)}
    (hy : plainName y.cls = true) (hw : ws = Cond.codeWith y cc maxL ret hh :: ws')
    (body : ∀ p e s m args below meth c s₁, BodyLoose p l y (headSpec ws rm) cc maxL ret e s m args below meth c s₁ → c.maxLocals = maxL → c.exceptionTable.toList.map (fun h => (h.startPc, h.endPc, h.handlerPc, h.catchType)) = hh → Pc args s →
      W p l e (headSpec ws rm).room s m args below meth c s.heap [] 0 0 (vEQ below Q args s A) (entryFrame m args maxL)) : vE l y ws rm Pc Q A := by
  refine MetFree.of_bodyS (code := cc) (maxLocals := maxL) (ret := ret) hy ?_ ?_
  · intro args s m h hn
    obtain ⟨m9, meth, c, hn9, h1, h2, h3, h4, -, h5, h6, -⟩ := Cond.codeWith_spec (atoms_spec (ws := ws) h _ (by rw [hw]; exact List.mem_cons_self))
    cases hn.symm.trans hn9
    exact ⟨meth, c, h1, h2, h3, h4, h5, h6⟩
  · intro p e s m args below meth c s₁ B hml hP _
    have hh0 : s₁.heap = s.heap := by rw [B.state]; rfl
    obtain ⟨m9, meth9, c9, hn9, h1, h2, -, -, h5, -⟩ := Cond.codeWith_spec (atoms_spec (ws := ws) B.pre _ (by rw [hw]; exact List.mem_cons_self))
    cases B.named.symm.trans hn9
    cases B.method.symm.trans h1
    cases (Stand.of_body B).code.symm.trans h2
    obtain ⟨t, a1, o, L, k, n, b1, b2, b3⟩ := body p e s m args below meth c s₁ B hml h5 hP s₁ hh0 (Stand.of_body B)
    exact ⟨t, o, a1, b1, b2, L, k, n, b3⟩
theorem vg_one {c : Code} {a b d e : Nat} (h : c.exceptionTable.toList.map (fun h => (h.startPc, h.endPc, h.handlerPc, h.catchType)) = [(a, b, d, e)]) : ∃ x, c.exceptionTable.toList = [x] ∧ x.startPc = a ∧ x.endPc = b ∧ x.handlerPc = d ∧ x.catchType = e := by
  match hl : c.exceptionTable.toList, h with
  | [x], h =>
    simp only [List.map_cons, List.map_nil, List.cons.injEq, and_true, Prod.mk.injEq] at h
    exact ⟨x, rfl, h.1, h.2.1, h.2.2.1, h.2.2.2⟩
  | [], h => simp at h
  | x :: x' :: r, h => simp at h
section VGC
variable {p : Program} {l : Launch} {e : Env} {R : Room} {s : State} {m : MethodId} {args : Array Value} {below : List Frame} {meth : Method} {c : Code} {H : Heap} {locs : List Loc} {cells slots : Nat} {A : Nat → Prop} {cc : ByteArray}
variable {y : MethodName} {bytes : ByteArray} {maxL nL n0 index : Nat} {ret : Option FieldType} {rm : Room} {Pc : Array Value → State → Prop} {Qc : Array Value → State → Outcome → State → Nat → Nat → Prop} {A1 : Nat → Prop} {own C : String} {b : Addr} {As rest st0 : List Value} {ls : Array Slot} {pc : Nat} {H0 : Heap}
/-- invokevirtual of a method with two ends, in any method -/
theorem vE_callG {Qf : State → Prop} {cd : Cond} (S : CallFix p m c cc nL s args vT own) (hM : vE l y (cd :: vT) rm Pc Qc A1) (hcd : (cd = Cond.code y bytes maxL ret) ∨ ∃ hh, cd = Cond.codeWith y bytes maxL ret hh)
    (h1 : Cond.methodLink own index y ∈ vT) (h2 : Cond.instanceMethod y ∈ vT) (h3 : Cond.selects C y y ∈ vT) (h4 : Cond.initialized y.cls ∈ vT) (h5 : cd ∈ vT)
    (hd : y.cls ≠ "java/lang/invoke/MethodHandle" ∧ y.cls ≠ "java/lang/invoke/VarHandle" ∧ (parseMethodDescriptor y.desc).map (fun d => d.parameters.length) = some n0) (hR : rm.frames + 1 ≤ R.frames ∧ 8 + (maxL + 11) + rm.locals ≤ R.locals) (hp : PreV s H C b Pc As)
    (hn : As.length = n0) (hsize : ls.size = nL) (hstack : st0 = As.reverse ++ .ref b :: rest) (hW : (rest.map fun v => v.category).sum ≤ 8) (hdg : decode cc pc = .ok (.invokevirtual index, 3)) (hf : cells + rm.cells ≤ R.cells ∧ slots + rm.slots ≤ R.slots)
    (hS : va_S A H0 H locs) (hA : ∀ q, A1 q → A q)
    (kr : ∀ (v : Option Value) (st t : State) (H1 : Heap) (locs1 : List Loc) (k n : Nat), st.heap = H → t.heap = H1 → s.vm.Alike t.vm → Qc (Value.ref b :: As).toArray st (.returned v) t k n → H.size ≤ H1.size → (∀ q : Nat, q < H.size → ¬ A1 q → H1[q]? = H[q]?) → va_S A H0 H1 locs1 → W p l e R s m args below meth c H1 locs1 (cells + k) (slots + n) Qf (F0 m (pc + 3) ls (v.toList ++ rest)))
    (kx : ∀ (x : Addr) (st t T' : State) (H1 : Heap) (locs1 : List Loc) (k n : Nat), st.heap = H → t.heap = H1 → T'.heap = H1 → s.vm.Alike t.vm → Stand p l e R s m args below meth c T' locs1 (cells + k) (slots + n) → Qc (Value.ref b :: As).toArray st (.threw x) t k n → H.size ≤ H1.size → (∀ q : Nat, q < H.size → ¬ A1 q → H1[q]? = H[q]?) → va_S A H0 H1 locs1 → ∃ tt, Steps p.tables e below ((T'.setTop (F0 m pc ls rest)).pushFrame (.throwing x)) tt ∧ Qf tt) :
    W p l e R s m args below meth c H locs cells slots Qf (F0 m pc ls st0) := by
  obtain ⟨hexec, hb, hml, hown, hts⟩ := S
  obtain ⟨hbl, ⟨cellB, hcB, hoB, hclB⟩, hPc⟩ := hp
  obtain ⟨mk, methM, hnamed, hmethM, hstM, habM⟩ := Cond.instanceMethod_spec (hts _ h2)
  obtain ⟨methM', cM, hmethM', hcM, hlM, hsigM⟩ := vg_spec hcd hnamed (hts _ h5)
  cases hmethM.symm.trans hmethM'
  obtain ⟨c2, r2, m2, q1, q2, q3, q4, kP, hkP, hkPi⟩ := Cond.selects_spec (hts _ h3)
  cases hclB.symm.trans q1
  cases (State.methodFound?_of_named hnamed ⟨hd.1, hd.2.1⟩).symm.trans q2
  cases hnamed.symm.trans q3
  have hlen : As.length = methM.sig.parameters.length := by
    have h9 := hd.2.2
    rw [hsigM] at h9
    exact hn.trans (Option.some.inj h9).symm
  intro T hT X
  have hselP : selectMethod e.platform s.vm cellB.cls mk = .method mk := by rw [Launch.admits_selectMethod X.admits]; exact q4
  obtain ⟨vm₁, X₁, hstep₁⟩ := X.invokevirtual hexec hown (hts _ h1) hnamed hmethM hstM hkP hkPi ⟨hd.1, hd.2.1⟩ (a := b) (cell := cellB) (by rw [hT]; exact hcB)
    (fun z h => by rw [h] at hoB; cases hoB) hselP hmethM habM hkP hkPi (g := F0 m pc ls st0) rfl (argsL := As) (rest := rest) hlen hstack (by rw [hb]; exact hdg)
  have hnU : (T.setVm vm₁).methodNamed? y = some mk := X₁.named hnamed
  obtain ⟨kY, hkY, -⟩ := className_of_methodNamed hnU
  have hpay := vx_pay hts h5
  have hinitY : kY.init = .initialized := Cond.initialized_spec (findClass_of_methodNamed hnU) hkY (word_at (args := args) (a' := (Value.ref b :: As).toArray) X₁.warmed (gw h4).2 (hts _ h4))
  obtain ⟨methY, cY, hmY, hcY, hlY, -⟩ := vg_spec hcd hnU (hpay _ List.mem_cons_self (Value.ref b :: As).toArray (T.setVm vm₁) X₁.warmed)
  have hat : At (T.setVm vm₁) (F0 m pc ls rest).method c below := X₁.here
  have h8 := lv_room (m := m) (pc := pc) (ls := ls) (rest := rest) (st := rest) hW
  have h9 : 2 * (F0 m pc ls rest).monitorRoom + ((F0 m pc ls rest).stack.map fun v => v.category).sum + (cY.maxLocals + 11) + rm.locals ≤ R.locals := by
    rw [hlY]
    have h10 := hR.2
    show 2 * (F0 m pc ls rest).monitorRoom + (rest.map fun v => v.category).sum + (maxL + 11) + rm.locals ≤ R.locals
    omega
  have happ : (headSpec (cd :: vT) rm).appliesLoose y e.platform ((T.setVm vm₁).calling (F0 m pc ls rest) mk (Value.ref b :: As).toArray) = true :=
    Spec.appliesLoose_calling (g := F0 m pc ls rest) hat (by rw [hb]; exact hdg) hnU hkY hinitY
      (X₁.room_calling (g := F0 m pc ls rest) (R' := rm) (by rw [hml]; exact hsize) hmY hcY hR.1 h9 hf.1 hf.2) (atoms_intro fun w hw => hpay w hw _ _ X₁.warmed)
  obtain ⟨mid, hmid⟩ := hat.above
  have hfr : ((T.setVm vm₁).setTop (F0 m pc ls rest)).frames = (.java (F0 m pc ls rest) :: mid) ++ below := by rw [State.frames_setTop' _ hat.top, hmid]; rfl
  obtain ⟨o, s₂, hsteps, -, hend, L, k, n, hW2, hsame, hL, hq⟩ := Steps.callFree hM p X₁.admits X₁.cas X₁.clock (acts := []) hfr happ (hbl _ _ _ _ (hPc (T.setVm vm₁) hT X₁.warmed)) trivial
  rw [State.frames_setTop' _ hat.top, X₁.tail] at hend
  obtain ⟨o1, o2⟩ := vE_off hsame hL
  have o1 : T.heap.size ≤ s₂.heap.size := o1
  have o2 : ∀ q : Nat, q < T.heap.size → ¬ A1 q → s₂.heap[q]? = T.heap[q]? := o2
  rw [hT] at o1
  rw [hT] at o2
  have hst : ((T.setVm vm₁).calling (F0 m pc ls rest) mk (Value.ref b :: As).toArray).heap = H := hT
  have hal : s.vm.Alike s₂.vm := X₁.warmed.alike.trans (show (T.setVm vm₁).vm.Alike s₂.vm from hW2.alike)
  have hS1 : va_S A H0 s₂.heap (locs ++ L) := by
    refine ⟨Nat.le_trans hS.1 o1, fun q hq0 hqA => ?_, fun q hq0 => ?_⟩
    · rw [o2 q (Nat.lt_of_lt_of_le hq0 hS.1) (fun h => hqA (hA q h))]
      exact hS.2.1 q hq0 hqA
    · rcases List.mem_append.mp hq0 with h | h
      · exact hS.2.2 q h
      · exact hA _ (hL q h)
  cases o with
  | returned v =>
    obtain ⟨T', X', hWT, hsT, hs2⟩ := X₁.outOf (g := F0 m pc ls rest) rfl (by rw [hb]; exact hdg) hend hW2 hsame
    have hheap : s₂.heap = T'.heap := by rw [hs2]; rfl
    rw [hheap] at o1 o2 hS1
    obtain ⟨t, a1, b1⟩ := kr v _ s₂ T'.heap (locs ++ L) k n hst hheap hal hq o1 o2 hS1 T' rfl X'
    refine ⟨t, hstep₁ _ fun acts => ?_, b1⟩
    rw [doInvoke_state]
    refine Steps.trans hsteps ?_
    rw [hs2]
    exact a1
  | threw x =>
    obtain ⟨T', X', hWT, hsT, hs2⟩ := X₁.outOfThrown (g := F0 m pc ls rest) rfl hend hW2 hsame
    have hheap : s₂.heap = T'.heap := by rw [hs2]; rfl
    rw [hheap] at o1 o2 hS1
    obtain ⟨tt, a1, b1⟩ := kx x _ s₂ T' T'.heap (locs ++ L) k n hst hheap rfl hal X' hq o1 o2 hS1
    refine ⟨tt, hstep₁ _ fun acts => ?_, b1⟩
    rw [doInvoke_state]
    refine Steps.trans hsteps ?_
    rw [hs2]
    exact a1
end VGC
