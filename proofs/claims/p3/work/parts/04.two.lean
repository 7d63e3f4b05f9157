-- contracts with two ends (an answer, or a throw) and a bill (what was taken of the room, known only at the end)
def vE (l : Launch) (y : MethodName) (ws : List Cond) (rm : Room) (Pc : Array Value → State → Prop) (Q : Array Value → State → Outcome → State → Nat → Nat → Prop) (A : Nat → Prop) : Prop :=
  MetFree l y (headSpec ws rm) Pc (fun _ _ _ _ _ => True) (fun a st o t => ∃ (L : List Loc) (k n : Nat), st.WarmedH t.vm ∧ st.sameButNew ({ t with vm := st.vm } : State) L k n ∧ (∀ q ∈ L, A q.base) ∧ Q a st o t k n)
def vEQ (below : List Frame) (Q : Array Value → State → Outcome → State → Nat → Nat → Prop) (a : Array Value) (s : State) (A : Nat → Prop) : State → Prop := fun t =>
  ∃ (o : Outcome) (L : List Loc) (k n : Nat), t.status = .running ∧ Ended t below o ∧ s.WarmedH t.vm ∧ s.sameButNew ({ t with vm := s.vm } : State) L k n ∧ (∀ q ∈ L, A q.base) ∧ Q a s o t k n
theorem vE_ofW {l : Launch} {y : MethodName} {ws ws' : List Cond} {rm : Room} {Pc : Array Value → State → Prop} {Q : Array Value → State → Outcome → State → Nat → Nat → Prop} {A : Nat → Prop} {cc : ByteArray} {maxL : Nat} {ret : Option FieldType}
    (hy : plainName y.cls = true) (hw : ws = Cond.code y cc maxL ret :: ws')
    (body : ∀ p e s m args below meth c s₁, BodyLoose p l y (headSpec ws rm) cc maxL ret e s m args below meth c s₁ → c.maxLocals = maxL → Pc args s →
      W p l e (headSpec ws rm).room s m args below meth c s.heap [] 0 0 (vEQ below Q args s A) (entryFrame m args maxL)) : vE l y ws rm Pc Q A := by
  refine MetFree.of_bodyS (code := cc) (maxLocals := maxL) (ret := ret) hy ?_ ?_
  · intro args s m h hn
    obtain ⟨meth, c, h1, h2, h3, h4, h5, h6, -, -⟩ := Cond.code_spec hn (atoms_spec (ws := ws) h _ (by rw [hw]; exact List.mem_cons_self))
    exact ⟨meth, c, h1, h2, h3, h4, h5, h6⟩
  · intro p e s m args below meth c s₁ B hml hP _
    have hh0 : s₁.heap = s.heap := by rw [B.state]; rfl
    obtain ⟨t, a1, o, L, k, n, b1, b2, b3⟩ := body p e s m args below meth c s₁ B hml hP s₁ hh0 (Stand.of_body B)
    exact ⟨t, o, a1, b1, b2, L, k, n, b3⟩
section VEN
variable {p : Program} {l : Launch} {e : Env} {R : Room} {s : State} {m : MethodId} {args : Array Value} {below : List Frame} {meth : Method} {c : Code} {H : Heap} {locs : List Loc} {cells slots : Nat} {Q : Array Value → State → Outcome → State → Nat → Nat → Prop} {A : Nat → Prop} {cc : ByteArray}
theorem vE_iret {v : Int32} (hexec : p.tables.exec = Jvm.exec) (hb : c.code = cc) (hr : meth.sig.returnType = some .int) (hq : ∀ t : State, t.heap = H → s.WarmedH t.vm → Q args s (.returned (some (.int v))) t cells slots) (hf : ∀ q ∈ locs, A q.base)
    {pc : Nat} {ls : Array Slot} (hdg : decode cc pc = .ok (.ireturn, 1)) (hlocks : meth.locks = false) : W p l e R s m args below meth c H locs cells slots (vEQ below Q args s A) (F0 m pc ls [.int v]) := by
  intro T hT X
  obtain ⟨fs, hret, hrun, hended, hW, hframe⟩ := X.leave (v := some (.int v)) (hlocks := hlocks) (fun h => by rw [hr] at h; cases h)
  have hmeth' : T.vm.method? m = some meth := X.method'
  refine ⟨T.setFrames fs, ?_, .returned (some (.int v)), locs, cells, slots, hrun, hended, hW, hframe, hf, hq _ hT hW⟩
  jvm_step X.here [X.here.top, hexec, hb, hdg, hmeth', hr, narrow]
  (try refine ⟨rfl, ?_⟩); (try refine ⟨rfl, ?_⟩)
  first | (intro acts; rw [hret _ acts rfl rfl rfl]) | rw [hret _ _ rfl rfl rfl]
  exact Steps.refl _
theorem vE_vret (hexec : p.tables.exec = Jvm.exec) (hb : c.code = cc) (hr : meth.sig.returnType = none) (hq : ∀ t : State, t.heap = H → s.WarmedH t.vm → Q args s (.returned none) t cells slots) (hf : ∀ q ∈ locs, A q.base)
    {pc : Nat} {ls : Array Slot} (hdg : decode cc pc = .ok (.return_, 1)) (hlocks : meth.locks = false) : W p l e R s m args below meth c H locs cells slots (vEQ below Q args s A) (F0 m pc ls []) := by
  intro T hT X
  obtain ⟨fs, hret, hrun, hended, hW, hframe⟩ := X.leave (v := none) (hlocks := hlocks) (fun _ => rfl)
  have hmeth' : T.vm.method? m = some meth := X.method'
  refine ⟨T.setFrames fs, ?_, .returned none, locs, cells, slots, hrun, hended, hW, hframe, hf, hq _ hT hW⟩
  jvm_step X.here [X.here.top, hexec, hb, hdg, hmeth', hr]
  (try refine ⟨rfl, ?_⟩); (try refine ⟨rfl, ?_⟩)
  first | (intro acts; rw [hret _ acts rfl rfl rfl]) | rw [hret _ _ rfl rfl rfl]
  exact Steps.refl _
/-- a contract with one end and a fixed bill is one with two -/
theorem vE_ofMet {y : MethodName} {ws : List Cond} {rm : Room} {Pc : Array Value → State → Prop} {Qc : Array Value → State → Outcome → State → Prop} {mc ms : Nat} {free : Addr → Prop} (h : Met l y ws rm Pc Qc mc ms free) :
    vE l y ws rm Pc (fun a st o t k n => k = mc ∧ n = ms ∧ (∃ v, o = .returned v) ∧ Qc a st o t) free := by
  intro p e ha hc hk s m args below hf happ hP hK
  obtain ⟨n, o, h1, h2, h3, hq, L, ⟨hv, hW, hs⟩, hL⟩ := h p e ha hc hk s m args below hf happ hP hK
  exact ⟨n, o, h1, h2, h3, L, mc, ms, hW, hs, hL, rfl, rfl, hv, hq⟩
theorem vE_off {st t : State} {L : List Loc} {k n : Nat} {A : Nat → Prop} (h : st.sameButNew ({ t with vm := st.vm } : State) L k n) (hL : ∀ q ∈ L, A q.base) : st.heap.size ≤ t.heap.size ∧ ∀ q : Nat, q < st.heap.size → ¬ A q → t.heap[q]? = st.heap[q]? := by
  obtain ⟨-, h1, -, -, -, h2⟩ := h
  refine ⟨h1, fun q hq hA => ?_⟩
  have hc : st.heap[q]? = some st.heap[q] := Array.getElem?_eq_getElem hq
  obtain ⟨c', hc', he, hsz, hsl⟩ := h2 q _ hc
  have hc' : t.heap[q]? = some c' := hc'
  rw [hc', hc, he]
  have : c'.slots = st.heap[q].slots := by
    apply Array.ext_getElem?
    intro i
    exact hsl i (fun hm => hA (hL _ hm))
  rw [this]
variable {y : MethodName} {bytes : ByteArray} {maxL nL n0 index : Nat} {ret : Option FieldType} {rm : Room} {Pc : Array Value → State → Prop} {Qc : Array Value → State → Outcome → State → Nat → Nat → Prop} {A1 : Nat → Prop} {own C : String} {b : Addr} {As rest st0 : List Value} {ls : Array Slot} {pc : Nat} {H0 : Heap}
/-- invokevirtual of a method with two ends, in a method without handlers that has two ends itself -/
theorem vE_callV (S : CallFix p m c cc nL s args vT own) (hM : vE l y (Cond.code y bytes maxL ret :: vT) rm Pc Qc A1)
    (h1 : Cond.methodLink own index y ∈ vT) (h2 : Cond.instanceMethod y ∈ vT) (h3 : Cond.selects C y y ∈ vT) (h4 : Cond.initialized y.cls ∈ vT) (h5 : Cond.code y bytes maxL ret ∈ vT)
    (hd : y.cls ≠ "java/lang/invoke/MethodHandle" ∧ y.cls ≠ "java/lang/invoke/VarHandle" ∧ (parseMethodDescriptor y.desc).map (fun d => d.parameters.length) = some n0) (hR : rm.frames + 1 ≤ R.frames ∧ 8 + (maxL + 11) + rm.locals ≤ R.locals) (hp : PreV s H C b Pc As)
    (hn : As.length = n0) (hsize : ls.size = nL) (hstack : st0 = As.reverse ++ .ref b :: rest) (hW : (rest.map fun v => v.category).sum ≤ 8) (hdg : decode cc pc = .ok (.invokevirtual index, 3)) (hf : cells + rm.cells ≤ R.cells ∧ slots + rm.slots ≤ R.slots)
    (hno : c.exceptionTable.isEmpty = true) (hlocks : meth.locks = false) (hS : va_S A H0 H locs) (hA : ∀ q, A1 q → A q)
    (kr : ∀ (v : Option Value) (st t : State) (H1 : Heap) (locs1 : List Loc) (k n : Nat), st.heap = H → t.heap = H1 → s.vm.Alike t.vm → Qc (Value.ref b :: As).toArray st (.returned v) t k n → H.size ≤ H1.size → (∀ q : Nat, q < H.size → ¬ A1 q → H1[q]? = H[q]?) → va_S A H0 H1 locs1 → W p l e R s m args below meth c H1 locs1 (cells + k) (slots + n) (vEQ below Q args s A) (F0 m (pc + 3) ls (v.toList ++ rest)))
    (kx : ∀ (x : Addr) (st t t' : State) (H1 : Heap) (k n : Nat), st.heap = H → t.heap = H1 → t'.heap = H1 → s.WarmedH t'.vm → s.vm.Alike t.vm → Qc (Value.ref b :: As).toArray st (.threw x) t k n → H.size ≤ H1.size → (∀ q : Nat, q < H.size → ¬ A1 q → H1[q]? = H[q]?) → Q args s (.threw x) t' (cells + k) (slots + n)) :
    W p l e R s m args below meth c H locs cells slots (vEQ below Q args s A) (F0 m pc ls st0) := by
  obtain ⟨hexec, hb, hml, hown, hts⟩ := S
  obtain ⟨hbl, ⟨cellB, hcB, hoB, hclB⟩, hPc⟩ := hp
  obtain ⟨mk, methM, hnamed, hmethM, hstM, habM⟩ := Cond.instanceMethod_spec (hts _ h2)
  obtain ⟨methM', cM, hmethM', hcM, -, hlM, -, -, -, hsigM⟩ := Cond.code_spec hnamed (hts _ h5)
  cases hmethM.symm.trans hmethM'
  obtain ⟨c2, r2, m2, q1, q2, q3, q4, kP, hkP, hkPi⟩ := Cond.selects_spec (hts _ h3)
  cases hclB.symm.trans q1
  cases (State.methodFound?_of_named hnamed ⟨hd.1, hd.2.1⟩).symm.trans q2
  cases hnamed.symm.trans q3
  have hlen : As.length = methM.sig.parameters.length := by
    have h9 := hd.2.2
    rw [hsigM] at h9
    exact hn.trans (Option.some.inj h9).symm
  intro T hT X
  have hselP : selectMethod e.platform s.vm cellB.cls mk = .method mk := by rw [Launch.admits_selectMethod X.admits]; exact q4
  obtain ⟨vm₁, X₁, hstep₁⟩ := X.invokevirtual hexec hown (hts _ h1) hnamed hmethM hstM hkP hkPi ⟨hd.1, hd.2.1⟩ (a := b) (cell := cellB) (by rw [hT]; exact hcB)
    (fun z h => by rw [h] at hoB; cases hoB) hselP hmethM habM hkP hkPi (g := F0 m pc ls st0) rfl (argsL := As) (rest := rest) hlen hstack (by rw [hb]; exact hdg)
  have hnU : (T.setVm vm₁).methodNamed? y = some mk := X₁.named hnamed
  obtain ⟨kY, hkY, -⟩ := className_of_methodNamed hnU
  have hpay := vx_pay hts h5
  have hinitY : kY.init = .initialized := Cond.initialized_spec (findClass_of_methodNamed hnU) hkY (word_at (args := args) (a' := (Value.ref b :: As).toArray) X₁.warmed (gw h4).2 (hts _ h4))
  obtain ⟨methY, cY, hmY, hcY, -, hlY, -, -, -, -⟩ := Cond.code_spec hnU (hpay _ List.mem_cons_self (Value.ref b :: As).toArray (T.setVm vm₁) X₁.warmed)
  have hat : At (T.setVm vm₁) (F0 m pc ls rest).method c below := X₁.here
  have h8 := lv_room (m := m) (pc := pc) (ls := ls) (rest := rest) (st := rest) hW
  have h9 : 2 * (F0 m pc ls rest).monitorRoom + ((F0 m pc ls rest).stack.map fun v => v.category).sum + (cY.maxLocals + 11) + rm.locals ≤ R.locals := by
    rw [hlY]
    have h10 := hR.2
    show 2 * (F0 m pc ls rest).monitorRoom + (rest.map fun v => v.category).sum + (maxL + 11) + rm.locals ≤ R.locals
    omega
  have happ : (headSpec (Cond.code y bytes maxL ret :: vT) rm).appliesLoose y e.platform ((T.setVm vm₁).calling (F0 m pc ls rest) mk (Value.ref b :: As).toArray) = true :=
    Spec.appliesLoose_calling (g := F0 m pc ls rest) hat (by rw [hb]; exact hdg) hnU hkY hinitY
      (X₁.room_calling (g := F0 m pc ls rest) (R' := rm) (by rw [hml]; exact hsize) hmY hcY hR.1 h9 hf.1 hf.2) (atoms_intro fun w hw => hpay w hw _ _ X₁.warmed)
  obtain ⟨mid, hmid⟩ := hat.above
  have hfr : ((T.setVm vm₁).setTop (F0 m pc ls rest)).frames = (.java (F0 m pc ls rest) :: mid) ++ below := by rw [State.frames_setTop' _ hat.top, hmid]; rfl
  obtain ⟨o, s₂, hsteps, -, hend, L, k, n, hW2, hsame, hL, hq⟩ := Steps.callFree hM p X₁.admits X₁.cas X₁.clock (acts := []) hfr happ (hbl _ _ _ _ (hPc (T.setVm vm₁) hT X₁.warmed)) trivial
  rw [State.frames_setTop' _ hat.top, X₁.tail] at hend
  obtain ⟨o1, o2⟩ := vE_off hsame hL
  have o1 : T.heap.size ≤ s₂.heap.size := o1
  have o2 : ∀ q : Nat, q < T.heap.size → ¬ A1 q → s₂.heap[q]? = T.heap[q]? := o2
  rw [hT] at o1
  rw [hT] at o2
  have hst : ((T.setVm vm₁).calling (F0 m pc ls rest) mk (Value.ref b :: As).toArray).heap = H := hT
  have hal : s.vm.Alike s₂.vm := X₁.warmed.alike.trans (show (T.setVm vm₁).vm.Alike s₂.vm from hW2.alike)
  have hS1 : va_S A H0 s₂.heap (locs ++ L) := by
    refine ⟨Nat.le_trans hS.1 o1, fun q hq0 hqA => ?_, fun q hq0 => ?_⟩
    · rw [o2 q (Nat.lt_of_lt_of_le hq0 hS.1) (fun h => hqA (hA q h))]
      exact hS.2.1 q hq0 hqA
    · rcases List.mem_append.mp hq0 with h | h
      · exact hS.2.2 q h
      · exact hA _ (hL q h)
  cases o with
  | returned v =>
    obtain ⟨T', X', hWT, hsT, hs2⟩ := X₁.outOf (g := F0 m pc ls rest) rfl (by rw [hb]; exact hdg) hend hW2 hsame
    have hheap : s₂.heap = T'.heap := by rw [hs2]; rfl
    rw [hheap] at o1 o2 hS1
    obtain ⟨t, a1, b1⟩ := kr v _ s₂ T'.heap (locs ++ L) k n hst hheap hal hq o1 o2 hS1 T' rfl X'
    refine ⟨t, hstep₁ _ fun acts => ?_, b1⟩
    rw [doInvoke_state]
    refine Steps.trans hsteps ?_
    rw [hs2]
    exact a1
  | threw x =>
    obtain ⟨T', X', hWT, hsT, hs2⟩ := X₁.outOfThrown (g := F0 m pc ls rest) rfl hend hW2 hsame
    have hheap : s₂.heap = T'.heap := by rw [hs2]; rfl
    rw [hheap] at o1 o2 hS1
    have hout : ∀ z ∈ c.exceptionTable.toList, covers z (F0 m pc ls rest).pc = false := by
      intro z h
      have h0 : c.exceptionTable.toList = [] := by simpa using hno
      rw [h0] at h
      cases h
    obtain ⟨w1, w2, w3, w4, w5⟩ := X'.leaveThrown x (g := F0 m pc ls rest) rfl rfl rfl hout hlocks
    refine ⟨T'.setFrames (.throwing x :: below), hstep₁ _ fun acts => ?_, .threw x, locs ++ L, cells + k, slots + n, w2, w3, w4, w5, hS1.2.2, kx x _ s₂ _ T'.heap k n hst hheap rfl w4 hal hq o1 o2⟩
    rw [doInvoke_state]
    refine Steps.trans hsteps ?_
    rw [hs2]
    exact w1
end VEN
