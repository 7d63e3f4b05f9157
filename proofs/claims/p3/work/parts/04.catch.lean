-- the catch: a callee throws, the caller's own table takes it
section VXC
variable {p : Program} {l : Launch} {e : Env} {R : Room} {s : State} {m : MethodId} {args : Array Value} {below : List Frame} {meth : Method} {c : Code} {T : State} {locs : List Loc} {cells slots : Nat}
theorem vx_find {Q : Handler → Pre} {K : CtlPost} {e : Env} {d : Bool} {acts : List Action} {u : State} {f : JFrame} {a : Addr} {mth : Method} {cd : Code} {x : ExceptionTableEntry} {r : List ExceptionTableEntry} {k : ClassId} {cell : Cell} {z : Class}
    (hm : u.vm.method? f.method = some mth) (hc : mth.code = some cd) (ht : cd.exceptionTable.toList = x :: r) (hx : covers x f.pc = true) (h0 : x.catchType ≠ 0)
    (hl : u.vm.ClassLinks e.platform f.method.cls x.catchType k) (hcell : u.heap[a]? = some cell) (hobj : cell.vm.isStatics = false) (hk : cell.cls = k) (hz : u.vm.classes[k]? = some z) (hfit : u.vm.assignable k k = true) :
    wp (findHandler f a) Q K e d acts u ↔ Q (.found x.handlerPc) d acts (u.setVm (u.vm.noted f.method.cls x.catchType (.cls k))) := by
  subst hk
  rw [Jvm.W.findHandler_eq hm hc, ht]
  simp only [covers] at hx
  obtain ⟨ha, hb⟩ := (resolveClass_links e.toSetting hl).op (op := VmOp.resolveClass f.method.cls x.catchType) rfl
  have hal : u.vm.Alike (u.vm.noted f.method.cls x.catchType (.cls cell.cls)) := (Vm.Alike.refl u.vm).noted _ _ _
  obtain ⟨z', hz', -⟩ := hal.2.2 _ _ hz
  have hfit' : (u.vm.noted f.method.cls x.catchType (.cls cell.cls)).assignable cell.cls cell.cls = true := by rw [hal.assignable]; exact hfit
  have hst : ∀ q, cell.vm ≠ .statics q := VmData.ne_statics_of hobj
  simp [findHandler.go, hx, h0, ha, hb, hcell, hst, hz', hfit', VmOp.dirties, VmOp.acts]
theorem vx_caught (X : Stand p l e R s m args below meth c T locs cells slots) {a : Addr} {g : JFrame} (hg : g.method = m) {own E : String} (hown : s.vm.findClass own = some m.cls) {x : ExceptionTableEntry} {r : List ExceptionTableEntry}
    (ht : c.exceptionTable.toList = x :: r) (hx : covers x g.pc = true) (h0 : x.catchType ≠ 0) (hlink : (Cond.classLink own x.catchType E).before args s = true) (hcast : (Cond.castable E E).before args s = true)
    {cell : Cell} (hcell : T.heap[a]? = some cell) (hobj : cell.vm.isStatics = false) (hE : s.vm.findClass E = some cell.cls) :
    ∃ vm', Stand p l e R s m args below meth c (T.setVm vm') locs cells slots ∧ ∀ target, Steps p.tables e below ((T.setVm vm').setTop { g with pc := x.handlerPc, stack := [.ref a] }) target → Steps p.tables e below ((T.setTop g).pushFrame (.throwing a)) target := by
  have hpl : e.platform.magicAccessors = ({} : Platform).magicAccessors := by rw [X.admits.platform]
  obtain ⟨k, hk, hcl⟩ := Cond.classLink_spec hown hlink e.platform hpl
  cases hE.symm.trans hk
  obtain ⟨dk, _, _, kt, hd, _, _, _, _, hkt, _, hopen⟩ := hcl.here
  have hcl2 := X.warmed.classLinks hcl
  have hW2 : s.WarmedH (T.vm.noted m.cls x.catchType (.cls cell.cls)) := X.warmed.noted hd hopen (State.rightAt_cls hcl)
  have hal := X.warmed.alike
  obtain ⟨kt', hkt', -⟩ := hal.2.2 _ _ hkt
  obtain ⟨c3, c4, hc3, hc4, hasg⟩ := Cond.castable_spec hcast
  cases hE.symm.trans hc3
  cases hE.symm.trans hc4
  have hfit : T.vm.assignable cell.cls cell.cls = true := by rw [hal.assignable]; exact hasg
  refine ⟨_, X.noted hW2, fun target hrest => ?_⟩
  subst hg
  have h := X.here
  obtain ⟨hgo, hw⟩ := h.throwing (g := g) a
  refine Steps.head hgo hw ?_
  have hf : ∀ (Q : Handler → Pre) (K : CtlPost) (d : Bool) (acts : List Action), wp (findHandler g a) Q K e d acts ((T.setTop g).pushFrame (.throwing a)) ↔ Q (.found x.handlerPc) d acts (((T.setTop g).pushFrame (.throwing a)).setVm (T.vm.noted g.method.cls x.catchType (.cls cell.cls))) :=
    fun Q K d acts => vx_find (u := (T.setTop g).pushFrame (.throwing a)) (mth := meth) (cd := c) X.method' X.code ht hx h0 hcl2 hcell hobj rfl hkt' hfit
  have hstep : (stepThrowing e ((T.setTop g).pushFrame (.throwing a)) a (.java g :: T.frames.tail)).Is ((((T.setTop g).pushFrame (.throwing a)).setVm (T.vm.noted g.method.cls x.catchType (.cls cell.cls))).setFrames (.java { g with pc := x.handlerPc, stack := [.ref a] } :: T.frames.tail)) [] := by
    simp only [stepThrowing, searchFrame, vmDo]
    generalize hr : Sem.go _ e false [] ((T.setTop g).pushFrame (.throwing a)) = res
    obtain ⟨as, rfl, ha⟩ := Sem.eq_ok_of hr (a := Handler.found x.handlerPc) (s' := ((T.setTop g).pushFrame (.throwing a)).setVm (T.vm.noted g.method.cls x.catchType (.cls cell.cls))) (acts' := [])
      (by simp [hf _ _ _ _])
    exact ⟨rfl, ha⟩
  obtain ⟨g₀, hg0⟩ := Option.isSome_iff_exists.mp h.top
  obtain ⟨fr, hr⟩ := State.topJava?_eq_some.mp hg0
  rw [stepThread_throwing (frames_entered h.top _), hstep.1]
  have hr2 : (T.setVm (T.vm.noted g.method.cls x.catchType (.cls cell.cls))).frames = .java g₀ :: fr := hr
  rw [State.setTop_of_frames _ hr2] at hrest
  have e1 : ∀ (u : State) (v : Vm) (F G : List Frame), ((u.setFrames F).setVm v).setFrames G = (u.setVm v).setFrames G := fun u v F G => by
    have h1 : (u.setFrames F).setVm v = (u.setVm v).setFrames F := rfl
    rw [h1, State.setFrames_setFrames]
  rw [hr, List.tail_cons, State.pushFrame, e1, State.setTop_of_frames _ hr, e1]
  exact hrest
theorem vx_old {st t : State} {mc ms : Nat} (h : st.sameButNew ({ t with vm := st.vm } : State) [] mc ms) : st.heap.size ≤ t.heap.size ∧ ∀ q : Nat, q < st.heap.size → t.heap[q]? = st.heap[q]? := by
  obtain ⟨-, h1, -, -, -, h2⟩ := h
  refine ⟨h1, fun q hq => ?_⟩
  have hc : st.heap[q]? = some st.heap[q] := Array.getElem?_eq_getElem hq
  obtain ⟨c', hc', he, hsz, hsl⟩ := h2 q _ hc
  have hc' : t.heap[q]? = some c' := hc'
  rw [hc', hc, he]
  have : c'.slots = st.heap[q].slots := by
    apply Array.ext_getElem?
    intro i
    exact hsl i (by simp)
  rw [this]
variable {H : Heap} {Q : State → Prop} {y : MethodName} {bytes cc : ByteArray} {maxL nL mc ms n index : Nat} {ret : Option FieldType} {rm : Room} {Pc : Array Value → State → Prop} {own C E : String} {b : Addr} {As rest st0 : List Value} {ls : Array Slot} {pc : Nat}
/-- invokevirtual of a method that throws an object of the class E; the first entry of the caller's own table takes it -/
theorem vx_catchV (S : CallFix p m c cc nL s args vT own) (hM : vx_MetT l y (Cond.code y bytes maxL ret :: vT) rm Pc E mc ms)
    (h1 : Cond.methodLink own index y ∈ vT) (h2 : Cond.instanceMethod y ∈ vT) (h3 : Cond.selects C y y ∈ vT) (h4 : Cond.initialized y.cls ∈ vT) (h5 : Cond.code y bytes maxL ret ∈ vT) (hrc : rm.cells = mc) (hrs : rm.slots = ms)
    (hd : y.cls ≠ "java/lang/invoke/MethodHandle" ∧ y.cls ≠ "java/lang/invoke/VarHandle" ∧ (parseMethodDescriptor y.desc).map (fun d => d.parameters.length) = some n) (hR : rm.frames + 1 ≤ R.frames ∧ 8 + (maxL + 11) + rm.locals ≤ R.locals) (hp : PreV s H C b Pc As)
    (hn : As.length = n) (hsize : ls.size = nL) (hstack : st0 = As.reverse ++ .ref b :: rest) (hW : (rest.map fun v => v.category).sum ≤ 8) (hdg : decode cc pc = .ok (.invokevirtual index, 3)) (hf : cells + mc ≤ R.cells ∧ slots + ms ≤ R.slots)
    {x : ExceptionTableEntry} {r : List ExceptionTableEntry} (ht : c.exceptionTable.toList = x :: r) (hx : covers x pc = true) (h0 : x.catchType ≠ 0) (hlink : (Cond.classLink own x.catchType E).before args s = true) (hcast : (Cond.castable E E).before args s = true)
    (kk : ∀ (a : Addr) (H1 : Heap), H.size ≤ H1.size → (∀ q : Nat, q < H.size → H1[q]? = H[q]?) → W p l e R s m args below meth c H1 locs (cells + mc) (slots + ms) Q (F0 m x.handlerPc ls [.ref a])) :
    W p l e R s m args below meth c H locs cells slots Q (F0 m pc ls st0) := by
  obtain ⟨hexec, hb, hml, hown, hts⟩ := S
  obtain ⟨hbl, ⟨cellB, hcB, hoB, hclB⟩, hPc⟩ := hp
  obtain ⟨mk, methM, hnamed, hmethM, hstM, habM⟩ := Cond.instanceMethod_spec (hts _ h2)
  obtain ⟨methM', cM, hmethM', hcM, -, hlM, -, -, -, hsigM⟩ := Cond.code_spec hnamed (hts _ h5)
  cases hmethM.symm.trans hmethM'
  obtain ⟨c2, r2, m2, q1, q2, q3, q4, kP, hkP, hkPi⟩ := Cond.selects_spec (hts _ h3)
  cases hclB.symm.trans q1
  cases (State.methodFound?_of_named hnamed ⟨hd.1, hd.2.1⟩).symm.trans q2
  cases hnamed.symm.trans q3
  have hlen : As.length = methM.sig.parameters.length := by
    have h9 := hd.2.2
    rw [hsigM] at h9
    exact hn.trans (Option.some.inj h9).symm
  intro T hT X
  have hselP : selectMethod e.platform s.vm cellB.cls mk = .method mk := by rw [Launch.admits_selectMethod X.admits]; exact q4
  obtain ⟨vm₁, X₁, hstep₁⟩ := X.invokevirtual hexec hown (hts _ h1) hnamed hmethM hstM hkP hkPi ⟨hd.1, hd.2.1⟩ (a := b) (cell := cellB) (by rw [hT]; exact hcB)
    (fun z h => by rw [h] at hoB; cases hoB) hselP hmethM habM hkP hkPi (g := F0 m pc ls st0) rfl (argsL := As) (rest := rest) hlen hstack (by rw [hb]; exact hdg)
  have hnU : (T.setVm vm₁).methodNamed? y = some mk := X₁.named hnamed
  obtain ⟨kY, hkY, -⟩ := className_of_methodNamed hnU
  have hpay := vx_pay hts h5
  have hinitY : kY.init = .initialized := Cond.initialized_spec (findClass_of_methodNamed hnU) hkY (word_at (args := args) (a' := (Value.ref b :: As).toArray) X₁.warmed (gw h4).2 (hts _ h4))
  obtain ⟨methY, cY, hmY, hcY, -, hlY, -, -, -, -⟩ := Cond.code_spec hnU (hpay _ List.mem_cons_self (Value.ref b :: As).toArray (T.setVm vm₁) X₁.warmed)
  have hat : At (T.setVm vm₁) (F0 m pc ls rest).method c below := X₁.here
  have h8 := lv_room (m := m) (pc := pc) (ls := ls) (rest := rest) (st := rest) hW
  have h9 : 2 * (F0 m pc ls rest).monitorRoom + ((F0 m pc ls rest).stack.map fun v => v.category).sum + (cY.maxLocals + 11) + rm.locals ≤ R.locals := by
    rw [hlY]
    have h10 := hR.2
    show 2 * (F0 m pc ls rest).monitorRoom + (rest.map fun v => v.category).sum + (maxL + 11) + rm.locals ≤ R.locals
    omega
  have happ : (headSpec (Cond.code y bytes maxL ret :: vT) rm).appliesLoose y e.platform ((T.setVm vm₁).calling (F0 m pc ls rest) mk (Value.ref b :: As).toArray) = true :=
    Spec.appliesLoose_calling (g := F0 m pc ls rest) hat (by rw [hb]; exact hdg) hnU hkY hinitY
      (X₁.room_calling (g := F0 m pc ls rest) (R' := rm) (by rw [hml]; exact hsize) hmY hcY hR.1 h9 (by rw [hrc]; exact hf.1) (by rw [hrs]; exact hf.2)) (atoms_intro fun w hw => hpay w hw _ _ X₁.warmed)
  obtain ⟨mid, hmid⟩ := hat.above
  have hfr : ((T.setVm vm₁).setTop (F0 m pc ls rest)).frames = (.java (F0 m pc ls rest) :: mid) ++ below := by rw [State.frames_setTop' _ hat.top, hmid]; rfl
  obtain ⟨o, s₂, hsteps, -, hend, xx, ce, rfl, hW2, hsame, hce, hst, hcls⟩ := Steps.callFree hM p X₁.admits X₁.cas X₁.clock (acts := []) hfr happ (hbl _ _ _ _ (hPc (T.setVm vm₁) hT X₁.warmed)) trivial
  rw [State.frames_setTop' _ hat.top, X₁.tail] at hend
  obtain ⟨T', X', hWT, hsT, hs2⟩ := X₁.outOfThrown (g := F0 m pc ls rest) rfl hend hW2 hsame
  have hheap : s₂.heap = T'.heap := by rw [hs2]; rfl
  obtain ⟨o1, o2⟩ := vx_old hsame
  have o1 : T.heap.size ≤ s₂.heap.size := o1
  have o2 : ∀ q : Nat, q < T.heap.size → s₂.heap[q]? = T.heap[q]? := o2
  rw [hT, hheap] at o1
  rw [hT, hheap] at o2
  have hE : s.vm.findClass E = some ce.cls := by
    have h9 : (T.setVm vm₁).vm.findClass E = some ce.cls := hcls
    rw [X₁.warmed.alike.findClass] at h9
    exact h9
  obtain ⟨vm', X2, hk2⟩ := vx_caught X' (a := xx) (g := F0 m pc ls rest) rfl hown ht hx h0 hlink hcast (cell := ce) (by rw [← hheap]; exact hce) hst hE
  rw [List.append_nil] at X2
  obtain ⟨t, a1, b1⟩ := kk xx T'.heap o1 o2 (T'.setVm vm') rfl X2
  refine ⟨t, hstep₁ _ fun acts => ?_, b1⟩
  rw [doInvoke_state]
  refine Steps.trans hsteps ?_
  rw [hs2]
  exact hk2 _ a1
end VXC
