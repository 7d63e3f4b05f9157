-- static calls; what is thrown and caught; the array of the answer
section VGS
variable {p : Program} {l : Launch} {e : Env} {R : Room} {s : State} {m : MethodId} {args : Array Value} {below : List Frame} {meth : Method} {c : Code} {H : Heap} {locs : List Loc} {cells slots : Nat} {A : Nat → Prop} {cc : ByteArray}
variable {y : MethodName} {bytes : ByteArray} {maxL nL n0 index : Nat} {ret : Option FieldType} {rm : Room} {Pc : Array Value → State → Prop} {Qc : Array Value → State → Outcome → State → Nat → Nat → Prop} {A1 : Nat → Prop} {own C : String} {b : Addr} {As rest st0 : List Value} {ls : Array Slot} {pc : Nat} {H0 : Heap}
/-- invokestatic of a method with a handler table and two ends -/
theorem vE_callGS {Qf : State → Prop} {hh : List (Nat × Nat × Nat × Nat)} (S : CallFix p m c cc nL s args vT own) (hM : vE l y (Cond.codeWith y bytes maxL ret hh :: vT) rm Pc Qc A1)
    (h1 : Cond.methodLink own index y ∈ vT) (h2 : Cond.static y ∈ vT) (h4 : Cond.initialized y.cls ∈ vT) (h5 : Cond.codeWith y bytes maxL ret hh ∈ vT)
    (hd : y.cls ≠ "java/lang/invoke/MethodHandle" ∧ y.cls ≠ "java/lang/invoke/VarHandle" ∧ (parseMethodDescriptor y.desc).map (fun d => d.parameters.length) = some n0) (hR : rm.frames + 1 ≤ R.frames ∧ 8 + (maxL + 11) + rm.locals ≤ R.locals) (hp : PreS s H Pc As)
    (hn : As.length = n0) (hsize : ls.size = nL) (hstack : st0 = As.reverse ++ rest) (hW : (rest.map fun v => v.category).sum ≤ 8) (hdg : decode cc pc = .ok (.invokestatic index, 3)) (hf : cells + rm.cells ≤ R.cells ∧ slots + rm.slots ≤ R.slots)
    (hS : va_S A H0 H locs) (hA : ∀ q, A1 q → A q)
    (kr : ∀ (v : Option Value) (st t : State) (H1 : Heap) (locs1 : List Loc) (k n : Nat), st.heap = H → t.heap = H1 → s.vm.Alike t.vm → Qc As.toArray st (.returned v) t k n → H.size ≤ H1.size → (∀ q : Nat, q < H.size → ¬ A1 q → H1[q]? = H[q]?) → va_S A H0 H1 locs1 → W p l e R s m args below meth c H1 locs1 (cells + k) (slots + n) Qf (F0 m (pc + 3) ls (v.toList ++ rest)))
    (kx : ∀ (x : Addr) (st t T' : State) (H1 : Heap) (locs1 : List Loc) (k n : Nat), st.heap = H → t.heap = H1 → T'.heap = H1 → s.vm.Alike t.vm → Stand p l e R s m args below meth c T' locs1 (cells + k) (slots + n) → Qc As.toArray st (.threw x) t k n → H.size ≤ H1.size → (∀ q : Nat, q < H.size → ¬ A1 q → H1[q]? = H[q]?) → va_S A H0 H1 locs1 → ∃ tt, Steps p.tables e below ((T'.setTop (F0 m pc ls rest)).pushFrame (.throwing x)) tt ∧ Qf tt) :
    W p l e R s m args below meth c H locs cells slots Qf (F0 m pc ls st0) := by
  obtain ⟨hexec, hb, hml, hown, hts⟩ := S
  obtain ⟨hbl, hPc⟩ := hp
  obtain ⟨mk, methM, cM, hnamed, hmethM, -, -, -, -, -, -, hsigM⟩ := Cond.codeWith_spec (hts _ h5)
  have hstatic : methM.isStatic = true := Cond.static_spec hnamed hmethM (hts _ h2)
  obtain ⟨kP, hkP, -⟩ := className_of_methodNamed hnamed
  have hinitP : kP.init = .initialized := Cond.initialized_spec (findClass_of_methodNamed hnamed) hkP (hts _ h4)
  have hlen : As.length = methM.sig.parameters.length := by
    have h9 := hd.2.2
    rw [hsigM] at h9
    exact hn.trans (Option.some.inj h9).symm
  intro T hT X
  obtain ⟨vm₁, X₁, hstep₁⟩ := X.invokestatic hexec hown (hts _ h1) hnamed hmethM hstatic hkP hinitP ⟨hd.1, hd.2.1⟩ (g := F0 m pc ls st0) rfl (argsL := As) (rest := rest) hlen hstack (by rw [hb]; exact hdg)
  have hnU : (T.setVm vm₁).methodNamed? y = some mk := X₁.named hnamed
  obtain ⟨kY, hkY, -⟩ := className_of_methodNamed hnU
  have hpay := vx_pay hts h5
  have hinitY : kY.init = .initialized := Cond.initialized_spec (findClass_of_methodNamed hnU) hkY (word_at (args := args) (a' := As.toArray) X₁.warmed (gw h4).2 (hts _ h4))
  obtain ⟨methY, cY, hmY, hcY, hlY, -⟩ := vg_spec (Or.inr ⟨hh, rfl⟩) hnU (hpay _ List.mem_cons_self As.toArray (T.setVm vm₁) X₁.warmed)
  have hat : At (T.setVm vm₁) (F0 m pc ls rest).method c below := X₁.here
  have h8 := lv_room (m := m) (pc := pc) (ls := ls) (rest := rest) (st := rest) hW
  have h9 : 2 * (F0 m pc ls rest).monitorRoom + ((F0 m pc ls rest).stack.map fun v => v.category).sum + (cY.maxLocals + 11) + rm.locals ≤ R.locals := by
    rw [hlY]
    have h10 := hR.2
    show 2 * (F0 m pc ls rest).monitorRoom + (rest.map fun v => v.category).sum + (maxL + 11) + rm.locals ≤ R.locals
    omega
  have happ : (headSpec (Cond.codeWith y bytes maxL ret hh :: vT) rm).appliesLoose y e.platform ((T.setVm vm₁).calling (F0 m pc ls rest) mk As.toArray) = true :=
    Spec.appliesLoose_calling (g := F0 m pc ls rest) hat (by rw [hb]; exact hdg) hnU hkY hinitY
      (X₁.room_calling (g := F0 m pc ls rest) (R' := rm) (by rw [hml]; exact hsize) hmY hcY hR.1 h9 hf.1 hf.2) (atoms_intro fun w hw => hpay w hw _ _ X₁.warmed)
  obtain ⟨mid, hmid⟩ := hat.above
  have hfr : ((T.setVm vm₁).setTop (F0 m pc ls rest)).frames = (.java (F0 m pc ls rest) :: mid) ++ below := by rw [State.frames_setTop' _ hat.top, hmid]; rfl
  obtain ⟨o, s₂, hsteps, -, hend, L, k, n, hW2, hsame, hL, hq⟩ := Steps.callFree hM p X₁.admits X₁.cas X₁.clock (acts := []) hfr happ (hbl _ _ _ _ (hPc (T.setVm vm₁) hT X₁.warmed)) trivial
  rw [State.frames_setTop' _ hat.top, X₁.tail] at hend
  obtain ⟨o1, o2⟩ := vE_off hsame hL
  have o1 : T.heap.size ≤ s₂.heap.size := o1
  have o2 : ∀ q : Nat, q < T.heap.size → ¬ A1 q → s₂.heap[q]? = T.heap[q]? := o2
  rw [hT] at o1
  rw [hT] at o2
  have hst : ((T.setVm vm₁).calling (F0 m pc ls rest) mk As.toArray).heap = H := hT
  have hal : s.vm.Alike s₂.vm := X₁.warmed.alike.trans (show (T.setVm vm₁).vm.Alike s₂.vm from hW2.alike)
  have hS1 : va_S A H0 s₂.heap (locs ++ L) := by
    refine ⟨Nat.le_trans hS.1 o1, fun q hq0 hqA => ?_, fun q hq0 => ?_⟩
    · rw [o2 q (Nat.lt_of_lt_of_le hq0 hS.1) (fun h => hqA (hA q h))]
      exact hS.2.1 q hq0 hqA
    · rcases List.mem_append.mp hq0 with h | h
      · exact hS.2.2 q h
      · exact hA _ (hL q h)
  cases o with
  | returned v =>
    obtain ⟨T', X', hWT, hsT, hs2⟩ := X₁.outOf (g := F0 m pc ls rest) rfl (by rw [hb]; exact hdg) hend hW2 hsame
    have hheap : s₂.heap = T'.heap := by rw [hs2]; rfl
    rw [hheap] at o1 o2 hS1
    obtain ⟨t, a1, b1⟩ := kr v _ s₂ T'.heap (locs ++ L) k n hst hheap hal hq o1 o2 hS1 T' rfl X'
    refine ⟨t, hstep₁ _ fun acts => ?_, b1⟩
    rw [doInvoke_state]
    refine Steps.trans hsteps ?_
    rw [hs2]
    exact a1
  | threw x =>
    obtain ⟨T', X', hWT, hsT, hs2⟩ := X₁.outOfThrown (g := F0 m pc ls rest) rfl hend hW2 hsame
    have hheap : s₂.heap = T'.heap := by rw [hs2]; rfl
    rw [hheap] at o1 o2 hS1
    obtain ⟨tt, a1, b1⟩ := kx x _ s₂ T' T'.heap (locs ++ L) k n hst hheap rfl hal X' hq o1 o2 hS1
    refine ⟨tt, hstep₁ _ fun acts => ?_, b1⟩
    rw [doInvoke_state]
    refine Steps.trans hsteps ?_
    rw [hs2]
    exact a1
end VGS
section VXD
variable {p : Program} {l : Launch} {e : Env} {R : Room} {s : State} {m : MethodId} {args : Array Value} {below : List Frame} {meth : Method} {c : Code} {T : State} {locs : List Loc} {cells slots : Nat}
theorem vx_find2 {Q : Handler → Pre} {K : CtlPost} {e : Env} {d : Bool} {acts : List Action} {u : State} {f : JFrame} {a : Addr} {mth : Method} {cd : Code} {x0 x : ExceptionTableEntry} {r : List ExceptionTableEntry} {k0 k : ClassId} {cell : Cell} {z0 z : Class}
    (hm : u.vm.method? f.method = some mth) (hc : mth.code = some cd) (ht : cd.exceptionTable.toList = x0 :: x :: r) (hx0 : covers x0 f.pc = true) (h00 : x0.catchType ≠ 0) (hl0 : u.vm.ClassLinks e.platform f.method.cls x0.catchType k0) (hz0 : u.vm.classes[k0]? = some z0) (hno : u.vm.assignable k k0 = false) (hx : covers x f.pc = true) (h0 : x.catchType ≠ 0)
    (hl : (u.vm.noted f.method.cls x0.catchType (.cls k0)).ClassLinks e.platform f.method.cls x.catchType k) (hcell : u.heap[a]? = some cell) (hobj : cell.vm.isStatics = false) (hk : cell.cls = k) (hz : u.vm.classes[k]? = some z) (hfit : u.vm.assignable k k = true) :
    wp (findHandler f a) Q K e d acts u ↔ Q (.found x.handlerPc) d acts (u.setVm ((u.vm.noted f.method.cls x0.catchType (.cls k0)).noted f.method.cls x.catchType (.cls k))) := by
  subst hk
  rw [Jvm.W.findHandler_eq hm hc, ht]
  simp only [covers] at hx hx0
  obtain ⟨ha0, hb0⟩ := (resolveClass_links e.toSetting hl0).op (op := VmOp.resolveClass f.method.cls x0.catchType) rfl
  obtain ⟨ha, hb⟩ := (resolveClass_links e.toSetting hl).op (op := VmOp.resolveClass f.method.cls x.catchType) rfl
  have hal0 : u.vm.Alike (u.vm.noted f.method.cls x0.catchType (.cls k0)) := (Vm.Alike.refl u.vm).noted _ _ _
  have hal : u.vm.Alike ((u.vm.noted f.method.cls x0.catchType (.cls k0)).noted f.method.cls x.catchType (.cls cell.cls)) := hal0.noted _ _ _
  obtain ⟨z0', hz0', -⟩ := hal0.2.2 _ _ hz0
  obtain ⟨z1', hz1', -⟩ := hal0.2.2 _ _ hz
  obtain ⟨z', hz', -⟩ := hal.2.2 _ _ hz
  have hno' : (u.vm.noted f.method.cls x0.catchType (.cls k0)).assignable cell.cls k0 = false := by rw [hal0.assignable]; exact hno
  have hfit' : ((u.vm.noted f.method.cls x0.catchType (.cls k0)).noted f.method.cls x.catchType (.cls cell.cls)).assignable cell.cls cell.cls = true := by rw [hal.assignable]; exact hfit
  have hst : ∀ q, cell.vm ≠ .statics q := VmData.ne_statics_of hobj
  simp [findHandler.go, hx0, h00, ha0, hb0, hx, h0, ha, hb, hcell, hst, hz0', hz1', hz', hno', hfit', VmOp.dirties, VmOp.acts]
  exact Iff.rfl
theorem vx_caught2 (X : Stand p l e R s m args below meth c T locs cells slots) {a : Addr} {g : JFrame} (hg : g.method = m) {own E : String} (hown : s.vm.findClass own = some m.cls) {x0 x : ExceptionTableEntry} {r : List ExceptionTableEntry} {E0 : String}
    (ht : c.exceptionTable.toList = x0 :: x :: r) (hx0 : covers x0 g.pc = true) (h00 : x0.catchType ≠ 0) (hlink0 : (Cond.classLink own x0.catchType E0).before args s = true) (hnc : lNC E E0 s) (hx : covers x g.pc = true) (h0 : x.catchType ≠ 0) (hlink : (Cond.classLink own x.catchType E).before args s = true) (hcast : (Cond.castable E E).before args s = true)
    {cell : Cell} (hcell : T.heap[a]? = some cell) (hobj : cell.vm.isStatics = false) (hE : s.vm.findClass E = some cell.cls) :
    ∃ vm', Stand p l e R s m args below meth c (T.setVm vm') locs cells slots ∧ ∀ target, Steps p.tables e below ((T.setVm vm').setTop { g with pc := x.handlerPc, stack := [.ref a] }) target → Steps p.tables e below ((T.setTop g).pushFrame (.throwing a)) target := by
  have hpl : e.platform.magicAccessors = ({} : Platform).magicAccessors := by rw [X.admits.platform]
  obtain ⟨k, hk, hcl⟩ := Cond.classLink_spec hown hlink e.platform hpl
  cases hE.symm.trans hk
  obtain ⟨k0, hk0, hcl0⟩ := Cond.classLink_spec hown hlink0 e.platform hpl
  obtain ⟨ca, cb, hca, hcb, hno⟩ := hnc
  cases hk.symm.trans hca
  cases hk0.symm.trans hcb
  obtain ⟨dk0, _, _, kt0, hd0, _, _, _, _, hkt0, _, hopen0⟩ := hcl0.here
  obtain ⟨dk, _, _, kt, hd, _, _, _, _, hkt, _, hopen⟩ := hcl.here
  have hcl02 := X.warmed.classLinks hcl0
  have hW1 : s.WarmedH (T.vm.noted m.cls x0.catchType (.cls k0)) := X.warmed.noted hd0 hopen0 (State.rightAt_cls hcl0)
  have hcl2 := hW1.classLinks hcl
  have hW2 : s.WarmedH ((T.vm.noted m.cls x0.catchType (.cls k0)).noted m.cls x.catchType (.cls cell.cls)) := hW1.noted hd hopen (State.rightAt_cls hcl)
  have hal := X.warmed.alike
  obtain ⟨kt', hkt', -⟩ := hal.2.2 _ _ hkt
  obtain ⟨kt0', hkt0', -⟩ := hal.2.2 _ _ hkt0
  have hno2 : T.vm.assignable cell.cls k0 = false := by rw [hal.assignable]; exact hno
  obtain ⟨c3, c4, hc3, hc4, hasg⟩ := Cond.castable_spec hcast
  cases hE.symm.trans hc3
  cases hE.symm.trans hc4
  have hfit : T.vm.assignable cell.cls cell.cls = true := by rw [hal.assignable]; exact hasg
  refine ⟨_, X.noted hW2, fun target hrest => ?_⟩
  subst hg
  have h := X.here
  obtain ⟨hgo, hw⟩ := h.throwing (g := g) a
  refine Steps.head hgo hw ?_
  have hf : ∀ (Q : Handler → Pre) (K : CtlPost) (d : Bool) (acts : List Action), wp (findHandler g a) Q K e d acts ((T.setTop g).pushFrame (.throwing a)) ↔ Q (.found x.handlerPc) d acts (((T.setTop g).pushFrame (.throwing a)).setVm ((T.vm.noted g.method.cls x0.catchType (.cls k0)).noted g.method.cls x.catchType (.cls cell.cls))) :=
    fun Q K d acts => vx_find2 (u := (T.setTop g).pushFrame (.throwing a)) (mth := meth) (cd := c) X.method' X.code ht hx0 h00 hcl02 hkt0' hno2 hx h0 hcl2 hcell hobj rfl hkt' hfit
  have hstep : (stepThrowing e ((T.setTop g).pushFrame (.throwing a)) a (.java g :: T.frames.tail)).Is ((((T.setTop g).pushFrame (.throwing a)).setVm ((T.vm.noted g.method.cls x0.catchType (.cls k0)).noted g.method.cls x.catchType (.cls cell.cls))).setFrames (.java { g with pc := x.handlerPc, stack := [.ref a] } :: T.frames.tail)) [] := by
    simp only [stepThrowing, searchFrame, vmDo]
    generalize hr : Sem.go _ e false [] ((T.setTop g).pushFrame (.throwing a)) = res
    obtain ⟨as, rfl, ha⟩ := Sem.eq_ok_of hr (a := Handler.found x.handlerPc) (s' := ((T.setTop g).pushFrame (.throwing a)).setVm ((T.vm.noted g.method.cls x0.catchType (.cls k0)).noted g.method.cls x.catchType (.cls cell.cls))) (acts' := [])
      (by simp [hf _ _ _ _])
    exact ⟨rfl, ha⟩
  obtain ⟨g₀, hg0⟩ := Option.isSome_iff_exists.mp h.top
  obtain ⟨fr, hr⟩ := State.topJava?_eq_some.mp hg0
  rw [stepThread_throwing (frames_entered h.top _), hstep.1]
  have hr2 : (T.setVm ((T.vm.noted g.method.cls x0.catchType (.cls k0)).noted g.method.cls x.catchType (.cls cell.cls))).frames = .java g₀ :: fr := hr
  rw [State.setTop_of_frames _ hr2] at hrest
  have e1 : ∀ (u : State) (v : Vm) (F G : List Frame), ((u.setFrames F).setVm v).setFrames G = (u.setVm v).setFrames G := fun u v F G => by
    have h1 : (u.setFrames F).setVm v = (u.setVm v).setFrames F := rfl
    rw [h1, State.setFrames_setFrames]
  rw [hr, List.tail_cons, State.pushFrame, e1, State.setTop_of_frames _ hr, e1]
  exact hrest
variable {H : Heap} {Q : State → Prop} {y : MethodName} {bytes cc : ByteArray} {maxL nL mc ms n index : Nat} {ret : Option FieldType} {rm : Room} {Pc : Array Value → State → Prop} {own C E : String} {b : Addr} {As rest st0 : List Value} {ls : Array Slot} {pc : Nat}
/-- the same; the second entry takes it -/
theorem vx_catchV2 (S : CallFix p m c cc nL s args vT own) (hM : vx_MetT l y (Cond.code y bytes maxL ret :: vT) rm Pc E mc ms)
    (h1 : Cond.methodLink own index y ∈ vT) (h2 : Cond.instanceMethod y ∈ vT) (h3 : Cond.selects C y y ∈ vT) (h4 : Cond.initialized y.cls ∈ vT) (h5 : Cond.code y bytes maxL ret ∈ vT) (hrc : rm.cells = mc) (hrs : rm.slots = ms)
    (hd : y.cls ≠ "java/lang/invoke/MethodHandle" ∧ y.cls ≠ "java/lang/invoke/VarHandle" ∧ (parseMethodDescriptor y.desc).map (fun d => d.parameters.length) = some n) (hR : rm.frames + 1 ≤ R.frames ∧ 8 + (maxL + 11) + rm.locals ≤ R.locals) (hp : PreV s H C b Pc As)
    (hn : As.length = n) (hsize : ls.size = nL) (hstack : st0 = As.reverse ++ .ref b :: rest) (hW : (rest.map fun v => v.category).sum ≤ 8) (hdg : decode cc pc = .ok (.invokevirtual index, 3)) (hf : cells + mc ≤ R.cells ∧ slots + ms ≤ R.slots)
    {x0 x : ExceptionTableEntry} {r : List ExceptionTableEntry} {E0 : String} (ht : c.exceptionTable.toList = x0 :: x :: r) (hx0 : covers x0 pc = true) (h00 : x0.catchType ≠ 0) (hlink0 : (Cond.classLink own x0.catchType E0).before args s = true) (hnc : lNC E E0 s) (hx : covers x pc = true) (h0 : x.catchType ≠ 0) (hlink : (Cond.classLink own x.catchType E).before args s = true) (hcast : (Cond.castable E E).before args s = true)
    (kk : ∀ (a : Addr) (H1 : Heap), H.size ≤ H1.size → (∀ q : Nat, q < H.size → H1[q]? = H[q]?) → W p l e R s m args below meth c H1 locs (cells + mc) (slots + ms) Q (F0 m x.handlerPc ls [.ref a])) :
    W p l e R s m args below meth c H locs cells slots Q (F0 m pc ls st0) := by
  obtain ⟨hexec, hb, hml, hown, hts⟩ := S
  obtain ⟨hbl, ⟨cellB, hcB, hoB, hclB⟩, hPc⟩ := hp
  obtain ⟨mk, methM, hnamed, hmethM, hstM, habM⟩ := Cond.instanceMethod_spec (hts _ h2)
  obtain ⟨methM', cM, hmethM', hcM, -, hlM, -, -, -, hsigM⟩ := Cond.code_spec hnamed (hts _ h5)
  cases hmethM.symm.trans hmethM'
  obtain ⟨c2, r2, m2, q1, q2, q3, q4, kP, hkP, hkPi⟩ := Cond.selects_spec (hts _ h3)
  cases hclB.symm.trans q1
  cases (State.methodFound?_of_named hnamed ⟨hd.1, hd.2.1⟩).symm.trans q2
  cases hnamed.symm.trans q3
  have hlen : As.length = methM.sig.parameters.length := by
    have h9 := hd.2.2
    rw [hsigM] at h9
    exact hn.trans (Option.some.inj h9).symm
  intro T hT X
  have hselP : selectMethod e.platform s.vm cellB.cls mk = .method mk := by rw [Launch.admits_selectMethod X.admits]; exact q4
  obtain ⟨vm₁, X₁, hstep₁⟩ := X.invokevirtual hexec hown (hts _ h1) hnamed hmethM hstM hkP hkPi ⟨hd.1, hd.2.1⟩ (a := b) (cell := cellB) (by rw [hT]; exact hcB)
    (fun z h => by rw [h] at hoB; cases hoB) hselP hmethM habM hkP hkPi (g := F0 m pc ls st0) rfl (argsL := As) (rest := rest) hlen hstack (by rw [hb]; exact hdg)
  have hnU : (T.setVm vm₁).methodNamed? y = some mk := X₁.named hnamed
  obtain ⟨kY, hkY, -⟩ := className_of_methodNamed hnU
  have hpay := vx_pay hts h5
  have hinitY : kY.init = .initialized := Cond.initialized_spec (findClass_of_methodNamed hnU) hkY (word_at (args := args) (a' := (Value.ref b :: As).toArray) X₁.warmed (gw h4).2 (hts _ h4))
  obtain ⟨methY, cY, hmY, hcY, -, hlY, -, -, -, -⟩ := Cond.code_spec hnU (hpay _ List.mem_cons_self (Value.ref b :: As).toArray (T.setVm vm₁) X₁.warmed)
  have hat : At (T.setVm vm₁) (F0 m pc ls rest).method c below := X₁.here
  have h8 := lv_room (m := m) (pc := pc) (ls := ls) (rest := rest) (st := rest) hW
  have h9 : 2 * (F0 m pc ls rest).monitorRoom + ((F0 m pc ls rest).stack.map fun v => v.category).sum + (cY.maxLocals + 11) + rm.locals ≤ R.locals := by
    rw [hlY]
    have h10 := hR.2
    show 2 * (F0 m pc ls rest).monitorRoom + (rest.map fun v => v.category).sum + (maxL + 11) + rm.locals ≤ R.locals
    omega
  have happ : (headSpec (Cond.code y bytes maxL ret :: vT) rm).appliesLoose y e.platform ((T.setVm vm₁).calling (F0 m pc ls rest) mk (Value.ref b :: As).toArray) = true :=
    Spec.appliesLoose_calling (g := F0 m pc ls rest) hat (by rw [hb]; exact hdg) hnU hkY hinitY
      (X₁.room_calling (g := F0 m pc ls rest) (R' := rm) (by rw [hml]; exact hsize) hmY hcY hR.1 h9 (by rw [hrc]; exact hf.1) (by rw [hrs]; exact hf.2)) (atoms_intro fun w hw => hpay w hw _ _ X₁.warmed)
  obtain ⟨mid, hmid⟩ := hat.above
  have hfr : ((T.setVm vm₁).setTop (F0 m pc ls rest)).frames = (.java (F0 m pc ls rest) :: mid) ++ below := by rw [State.frames_setTop' _ hat.top, hmid]; rfl
  obtain ⟨o, s₂, hsteps, -, hend, xx, ce, rfl, hW2, hsame, hce, hst, hcls⟩ := Steps.callFree hM p X₁.admits X₁.cas X₁.clock (acts := []) hfr happ (hbl _ _ _ _ (hPc (T.setVm vm₁) hT X₁.warmed)) trivial
  rw [State.frames_setTop' _ hat.top, X₁.tail] at hend
  obtain ⟨T', X', hWT, hsT, hs2⟩ := X₁.outOfThrown (g := F0 m pc ls rest) rfl hend hW2 hsame
  have hheap : s₂.heap = T'.heap := by rw [hs2]; rfl
  obtain ⟨o1, o2⟩ := vx_old hsame
  have o1 : T.heap.size ≤ s₂.heap.size := o1
  have o2 : ∀ q : Nat, q < T.heap.size → s₂.heap[q]? = T.heap[q]? := o2
  rw [hT, hheap] at o1
  rw [hT, hheap] at o2
  have hE : s.vm.findClass E = some ce.cls := by
    have h9 : (T.setVm vm₁).vm.findClass E = some ce.cls := hcls
    rw [X₁.warmed.alike.findClass] at h9
    exact h9
  obtain ⟨vm', X2, hk2⟩ := vx_caught2 X' (a := xx) (g := F0 m pc ls rest) rfl hown ht hx0 h00 hlink0 hnc hx h0 hlink hcast (cell := ce) (by rw [← hheap]; exact hce) hst hE
  rw [List.append_nil] at X2
  obtain ⟨t, a1, b1⟩ := kk xx T'.heap o1 o2 (T'.setVm vm') rfl X2
  refine ⟨t, hstep₁ _ fun acts => ?_, b1⟩
  rw [doInvoke_state]
  refine Steps.trans hsteps ?_
  rw [hs2]
  exact hk2 _ a1
end VXD
section LTHR
variable {p : Program} {l : Launch} {e : Env} {R : Room} {s : State} {m : MethodId} {args : Array Value} {below : List Frame} {meth : Method} {c : Code} {H : Heap} {locs : List Loc} {cells slots : Nat} {A : Nat → Prop} {cc : ByteArray} {Q : State → Prop}
variable {y : MethodName} {bytes : ByteArray} {maxL nL n0 index fr lo : Nat} {ret : Option FieldType} {own : String} {As rest st0 : List Value} {ls : Array Slot} {pc : Nat}
variable {g : mG} {o : Nat} {α : kS} {ad : Nat → Nat} {β : mS} {w : Nat → Int64}
theorem lJ.kept {H1 : Heap} (h : lJ g o A s α ad β w H locs) (h1 : H.size ≤ H1.size) (hq : ∀ q : Nat, q < H.size → H1[q]? = H[q]?) : lJ g o A s α ad β w H1 locs := by
  obtain ⟨⟨zf, hP, hD, hz⟩, hO, hS⟩ := h
  exact ⟨⟨zf, hP.kept (fun k q hk => hq _ (hP k q hk).lt), hD, hz⟩, hO, Nat.le_trans hS.1 h1, fun q h2 h3 => (hq q (Nat.lt_of_lt_of_le h2 hS.1)).trans (hS.2.1 q h2 h3), hS.2.2⟩
/-- a method of the class throws; the first entry takes it -/
theorem lk_catch {E' : String} (hM : ∀ (A : Nat → Prop) (ad : Nat → Nat), vx_MetT l y (Cond.code y bytes maxL ret :: vT) { frames := fr, cells := 1, slots := 6, locals := lo } (fun a U => va_Pc (.ref (kad g.1 0) :: As) (kB g.1 A α ad) a U ∧ vx_X E' U) E' 1 6) (S : CallFix p m c cc nL s args vT own) (E : lE g A s) (hX : vx_X E' s) (hJ : lJ g o A s α ad β w H locs) (hw : kWv own index R_Ker y bytes maxL ret n0) (hR : fr + 1 ≤ R.frames ∧ 8 + (maxL + 11) + lo ≤ R.locals) (hc : cells + 1 ≤ R.cells ∧ slots + 6 ≤ R.slots)
    (hn : As.length = n0) (hsize : ls.size = nL) (hstack : st0 = As.reverse ++ .ref (kad g.1 0) :: rest) (hW : (rest.map fun v => v.category).sum ≤ 8) (hdg : decode cc pc = .ok (.invokevirtual index, 3))
    {x : ExceptionTableEntry} {r : List ExceptionTableEntry} (ht : c.exceptionTable.toList = x :: r) (hx : covers x pc = true) (h0 : x.catchType ≠ 0) (hlink : Cond.classLink own x.catchType E' ∈ vT)
    (kk : ∀ (a : Addr) (H1 : Heap), lJ g o A s α ad β w H1 locs → W p l e R s m args below meth c H1 locs (cells + 1) (slots + 6) Q (F0 m x.handlerPc ls [.ref a])) :
    W p l e R s m args below meth c H locs cells slots Q (F0 m pc ls st0) := by
  obtain ⟨w1, w2, w3, w4, w5, w6⟩ := hw
  obtain ⟨zf, hF, hrecv, hto, hback⟩ := hJ.kz E
  exact vx_catchV (rm := { frames := fr, cells := 1, slots := 6, locals := lo }) S (hM _ ad) w1 w2 w3 w4 w5 rfl rfl w6 hR ⟨kBX_blind, hrecv, fun U hU hW => ⟨hto _ U hU hW, hX.by hW E.2.2.2.1 (fun q h1 h2 => by rw [hU]; exact hJ.2.2.2.1 q h1 h2)⟩⟩ hn hsize hstack hW hdg hc ht hx h0 (S.2.2.2.2 _ hlink) (hX.2.1.use rfl) (fun a H1 h1 h2 => kk a H1 (hJ.kept h1 h2))
/-- the second entry takes it -/
theorem lk_catch2 {E' E0 : String} (hM : ∀ (A : Nat → Prop) (ad : Nat → Nat), vx_MetT l y (Cond.code y bytes maxL ret :: vT) { frames := fr, cells := 1, slots := 6, locals := lo } (fun a U => va_Pc (.ref (kad g.1 0) :: As) (kB g.1 A α ad) a U ∧ vx_X E' U) E' 1 6) (S : CallFix p m c cc nL s args vT own) (E : lE g A s) (hX : vx_X E' s) (hnc : lNC E' E0 s) (hJ : lJ g o A s α ad β w H locs) (hw : kWv own index R_Ker y bytes maxL ret n0) (hR : fr + 1 ≤ R.frames ∧ 8 + (maxL + 11) + lo ≤ R.locals) (hc : cells + 1 ≤ R.cells ∧ slots + 6 ≤ R.slots)
    (hn : As.length = n0) (hsize : ls.size = nL) (hstack : st0 = As.reverse ++ .ref (kad g.1 0) :: rest) (hW : (rest.map fun v => v.category).sum ≤ 8) (hdg : decode cc pc = .ok (.invokevirtual index, 3))
    {x0 x : ExceptionTableEntry} {r : List ExceptionTableEntry} (ht : c.exceptionTable.toList = x0 :: x :: r) (hx0 : covers x0 pc = true) (h00 : x0.catchType ≠ 0) (hlink0 : Cond.classLink own x0.catchType E0 ∈ vT) (hx : covers x pc = true) (h0 : x.catchType ≠ 0) (hlink : Cond.classLink own x.catchType E' ∈ vT)
    (kk : ∀ (a : Addr) (H1 : Heap), lJ g o A s α ad β w H1 locs → W p l e R s m args below meth c H1 locs (cells + 1) (slots + 6) Q (F0 m x.handlerPc ls [.ref a])) :
    W p l e R s m args below meth c H locs cells slots Q (F0 m pc ls st0) := by
  obtain ⟨w1, w2, w3, w4, w5, w6⟩ := hw
  obtain ⟨zf, hF, hrecv, hto, hback⟩ := hJ.kz E
  exact vx_catchV2 (rm := { frames := fr, cells := 1, slots := 6, locals := lo }) S (hM _ ad) w1 w2 w3 w4 w5 rfl rfl w6 hR ⟨kBX_blind, hrecv, fun U hU hW => ⟨hto _ U hU hW, hX.by hW E.2.2.2.1 (fun q h1 h2 => by rw [hU]; exact hJ.2.2.2.1 q h1 h2)⟩⟩ hn hsize hstack hW hdg hc ht hx0 h00 (S.2.2.2.2 _ hlink0) hnc hx h0 (S.2.2.2.2 _ hlink) (hX.2.1.use rfl) (fun a H1 h1 h2 => kk a H1 (hJ.kept h1 h2))
/-- the array of the answer -/
theorem lj_last {x : Int64} (S : CallFix p m c cc nL s args vT own) (E : lE g A s) (hJ : lJ g o A s α ad β w H locs) (hdg : decode cc pc = .ok (.lastore, 1)) (kk : ∀ (H1 : Heap) (locs1 : List Loc), lJ g o A s α ad β (vp_updL w 0 x) H1 locs1 → W p l e R s m args below meth c H1 locs1 cells slots Q (F0 m (pc + 1) ls rest)) : W p l e R s m args below meth c H locs cells slots Q (F0 m pc ls (.long x :: .int 0 :: .ref o :: rest)) := by
  obtain ⟨⟨zf, hP, hD, hz⟩, hO, hS⟩ := hJ
  exact va_last S.1 S.2.1 E.1 hP hD hS 103 1 rfl rfl (vp0 (by decide) (by decide)) hdg (fun H1 locs1 hP1 hD1 hS1 => kk H1 locs1 ⟨⟨zf, hP1, hD1, hz⟩, hO, hS1⟩)
theorem lj_lald (S : CallFix p m c cc nL s args vT own) (E : lE g A s) (hJ : lJ g o A s α ad β w H locs) (hdg : decode cc pc = .ok (.laload, 1)) (kk : W p l e R s m args below meth c H locs cells slots Q (F0 m (pc + 1) ls (.long (w 0) :: rest))) : W p l e R s m args below meth c H locs cells slots Q (F0 m pc ls (.int 0 :: .ref o :: rest)) := by
  obtain ⟨⟨zf, hP, hD, hz⟩, hO, hS⟩ := hJ
  exact va_lald S.1 S.2.1 E.1 hP 103 1 rfl rfl (vp0 (by decide) (by decide)) hdg kk
/-- a method of the law itself: its room, its end -/
def lR (α : kS) : Room := { frames := 60, cells := (kM - kF α) / 32 + 2, slots := kM - kF α + 12, locals := 3000 }
def lQ (g : mG) (o : Nat) (A : Nat → Prop) (α : kS) (β : mS) (x : Int32 × kS × (Nat → Int64)) : Array Value → State → Outcome → State → Nat → Nat → Prop := fun _ _ oc t k n => ∃ ad' : Nat → Nat, oc = .returned (some (.int x.1)) ∧ lB g o A x.2.1 ad' β x.2.2 t ∧ n + kF α ≤ kF x.2.1 + 6 ∧ 32 * k + kF α ≤ kF x.2.1 + 32
theorem ls_call {hh : List (Nat × Nat × Nat × Nat)} {x : Int32 × kS × (Nat → Int64)} (hM : vE l y (Cond.codeWith y bytes maxL ret hh :: vT) (lR α) (va_Pc As (lB g o A α ad β w)) (lQ g o A α β x) A) (S : CallFix p m c cc nL s args vT own) (E : lE g A s) (hJ : lJ g o A s α ad β w H locs)
    (w1 : Cond.methodLink own index y ∈ vT) (w2 : Cond.static y ∈ vT) (w4 : Cond.initialized y.cls ∈ vT) (w5 : Cond.codeWith y bytes maxL ret hh ∈ vT) (w6 : y.cls ≠ "java/lang/invoke/MethodHandle" ∧ y.cls ≠ "java/lang/invoke/VarHandle" ∧ (parseMethodDescriptor y.desc).map (fun d => d.parameters.length) = some n0)
    (hR : 61 ≤ R.frames ∧ 8 + (maxL + 11) + 3000 ≤ R.locals) (hc : cells + ((kM - kF α) / 32 + 2) ≤ R.cells ∧ slots + (kM - kF α + 12) ≤ R.slots) (hn : As.length = n0) (hsize : ls.size = nL) (hstack : st0 = As.reverse ++ rest) (hW : (rest.map fun v => v.category).sum ≤ 8) (hdg : decode cc pc = .ok (.invokestatic index, 3))
    (kk : ∀ (ad' : Nat → Nat) (H1 : Heap) (locs1 : List Loc) (k n : Nat), n + kF α ≤ kF x.2.1 + 6 → 32 * k + kF α ≤ kF x.2.1 + 32 → lJ g o A s x.2.1 ad' β x.2.2 H1 locs1 → W p l e R s m args below meth c H1 locs1 (cells + k) (slots + n) Q (F0 m (pc + 3) ls (.int x.1 :: rest))) :
    W p l e R s m args below meth c H locs cells slots Q (F0 m pc ls st0) := by
  refine vE_callGS (H0 := s.heap) (A1 := A) (rm := lR α) S hM w1 w2 w4 w5 w6 hR ⟨lB_blind, hJ.to E⟩ hn hsize hstack hW hdg hc hJ.2.2 (fun _ h => h) ?_ ?_
  · intro v' st t H1 locs1 k n _ ht _ hq _ hk hS1
    obtain ⟨ad', hQ2, hB, hk1, hk2⟩ := hq
    cases hQ2
    exact kk ad' H1 locs1 k n hk1 hk2 ⟨by rw [← ht]; exact hB.1, hB.2.1, hS1⟩
  · intro x st t T' H1 locs1 k n _ _ _ _ _ hq
    obtain ⟨ad', hQ2, -⟩ := hq
    cases hQ2
/-- its entry -/
theorem lq_ofW {hh : List (Nat × Nat × Nat × Nat)} {av : List Value} {x : Int32 × kS × (Nat → Int64)} (hy : plainName y.cls = true)
    (body : ∀ (p : Program) (e : Env) (s : State) (m : MethodId) (args : Array Value) (below : List Frame) (meth : Method) (c : Code), CallFix p m c bytes maxL s args vT y.cls → meth.sig.returnType = ret → meth.locks = false → c.exceptionTable.toList.map (fun h => (h.startPc, h.endPc, h.handlerPc, h.catchType)) = hh → args = av.toArray → lE g A s → lJ g o A s α ad β w s.heap [] →
      W p l e (lR α) s m args below meth c s.heap [] 0 0 (vEQ below (lQ g o A α β x) args s A) (entryFrame m args maxL)) : vE l y (Cond.codeWith y bytes maxL ret hh :: vT) (lR α) (va_Pc av (lB g o A α ad β w)) (lQ g o A α β x) A :=
  vE_ofWW (cc := bytes) (maxL := maxL) (ret := ret) (hh := hh) hy rfl (fun p e s m args below meth c s₁ B hml ht hv => body p e s m args below meth c ⟨B.exec, B.bytes, hml, findClass_of_methodNamed B.named, fun w h => atoms_spec (ws := Cond.codeWith y bytes maxL ret hh :: vT) B.pre w (List.mem_cons_of_mem _ h)⟩ B.returns B.notSynchronized ht hv.1 hv.2.2.2 ⟨hv.2.1, hv.2.2.1, va_S.rf⟩)
theorem lq_iret {x : Int32 × kS × (Nat → Int64)} {ad' : Nat → Nat} (hx : p.tables.exec = Jvm.exec) (hb : c.code = cc) (hr : meth.sig.returnType = some .int) (hlocks : meth.locks = false) (E : lE g A s) (hJ : lJ g o A s x.2.1 ad' β x.2.2 H locs) (h1 : slots + kF α ≤ kF x.2.1 + 6) (h2 : 32 * cells + kF α ≤ kF x.2.1 + 32) (hdg : decode cc pc = .ok (.ireturn, 1)) :
    W p l e R s m args below meth c H locs cells slots (vEQ below (lQ g o A α β x) args s A) (F0 m pc ls [.int x.1]) :=
  vE_iret hx hb hr (fun t ht hW => ⟨ad', rfl, ⟨by rw [ht]; exact hJ.1, hJ.2.1, E.at hJ.2.2 ht hW⟩, h1, h2⟩) hJ.2.2.2.2 hdg hlocks
theorem vg_two {c : Code} {a b d e a' b' d' e' : Nat} (h : c.exceptionTable.toList.map (fun h => (h.startPc, h.endPc, h.handlerPc, h.catchType)) = [(a, b, d, e), (a', b', d', e')]) : ∃ x y, c.exceptionTable.toList = [x, y] ∧ (x.startPc = a ∧ x.endPc = b ∧ x.handlerPc = d ∧ x.catchType = e) ∧ y.startPc = a' ∧ y.endPc = b' ∧ y.handlerPc = d' ∧ y.catchType = e' := by
  match hl : c.exceptionTable.toList, h with
  | [x, y], h =>
    simp only [List.map_cons, List.map_nil, List.cons.injEq, and_true, Prod.mk.injEq] at h
    exact ⟨x, y, rfl, ⟨h.1.1, h.1.2.1, h.1.2.2.1, h.1.2.2.2⟩, h.2.1, h.2.2.1, h.2.2.2.1, h.2.2.2.2⟩
  | [], h => simp at h
  | [x], h => simp at h
  | x :: x' :: x'' :: r, h => simp at h
end LTHR
