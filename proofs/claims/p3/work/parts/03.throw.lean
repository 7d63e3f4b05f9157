-- throwing: a static that holds a reference or null, at a later state; a contract whose end is a throw; the throw's own row; the catch
def vx_S (C n d : String) (U : State) : Prop := (Cond.laysStatic C n d).before #[] U = true ∧ (Cond.isRef (.static C n d)).before #[] U = true
theorem vx_S.to {C n d : String} {s U : State} (hvm : s.vm.Alike U.vm) (hH : ∀ (a : Nat) (cell : Cell), s.heap[a]? = some cell → cell.vm.isStatics = true → U.heap[a]? = some cell) (h : vx_S C n d s) : vx_S C n d U := by
  obtain ⟨hl, hr⟩ := h
  obtain ⟨cc, k, i, f, a, cell, hc, hi, hst, ha, hcell, hs, hcls, hlt, hty⟩ := Cond.laysStatic_spec hl
  obtain ⟨k', hi', he⟩ := State.fieldFound?_setVm hvm hi
  have hU := hH a cell hcell hs
  have hc' : U.vm.findClass C = some cc := by rw [hvm.findClass]; exact hc
  have hi' : U.fieldFound? C n d = some (cc, k', i, f) := hi'
  have ha' : k'.statics = some a := by rw [he]; exact ha
  have hty' : k'.staticTypes[f.slot]? = some f.type := by rw [he]; exact hty
  refine ⟨?_, ?_⟩
  · simp [Cond.before, Cond.holds, Cond.value, hc', hi', hst, ha', hU, hs, hcls, hlt, hty']
  · cases hv : (Term.static C n d).eval #[] s none [] s with
    | none => simp [Cond.before, Cond.holds, Cond.value, hv] at hr
    | some w =>
      have hv' : (Term.static C n d).eval #[] U none [] U = some w := by
        simp [Term.eval, State.fieldNamed?, hi, hst, ha, hcell, hs] at hv
        simp [Term.eval, State.fieldNamed?, hi', hst, ha', hU, hs, hv]
      simp only [Cond.before, Cond.holds, Cond.value, hv] at hr
      simp only [Cond.before, Cond.holds, Cond.value, hv']
      exact hr
abbrev vx_U (U : State) : Prop := vx_S "java/lang/Throwable" "UNASSIGNED_STACK" "[Ljava/lang/StackTraceElement;" U ∧ vx_S "java/lang/Throwable" "SUPPRESSED_SENTINEL" "Ljava/util/List;" U
/-- what a throw of the class E asks of the state -/
abbrev vx_d1 : Cond := .declares ⟨"java/lang/RuntimeException", "<init>", "()V"⟩
abbrev vx_d2 : Cond := .declares ⟨"java/lang/Exception", "<init>", "()V"⟩
abbrev vx_d3 : Cond := .declares ⟨"java/lang/Throwable", "<init>", "()V"⟩
abbrev vx_X (E : String) (U : State) : Prop := vx_U U ∧ va_Nw (.castable E E) U ∧ va_Nw vx_d1 U ∧ va_Nw vx_d2 U ∧ va_Nw vx_d3 U
theorem vx_X.to {E : String} {s U : State} (hW : s.WarmedH U.vm) (hH : ∀ (a : Nat) (cell : Cell), s.heap[a]? = some cell → cell.vm.isStatics = true → U.heap[a]? = some cell) (h : vx_X E s) : vx_X E U :=
  ⟨⟨vx_S.to hW.alike hH h.1.1, vx_S.to hW.alike hH h.1.2⟩, va_Nw.warmC hW h.2.1, va_Nw.warmD hW h.2.2.1, va_Nw.warmD hW h.2.2.2.1, va_Nw.warmD hW h.2.2.2.2⟩
theorem vx_X.calling {E : String} {U : State} {g : JFrame} {mk : MethodId} {a : Array Value} (h : vx_X E U) : vx_X E (U.calling g mk a) :=
  ⟨⟨vx_S.to (s := U) (Vm.Alike.refl U.vm) (fun _ _ h _ => h) h.1.1, vx_S.to (s := U) (Vm.Alike.refl U.vm) (fun _ _ h _ => h) h.1.2⟩, va_Nw.same (u := U) (U := U.calling g mk a) rfl rfl h.2.1, va_Nw.same (u := U) (U := U.calling g mk a) rfl rfl h.2.2.1, va_Nw.same (u := U) (U := U.calling g mk a) rfl rfl h.2.2.2.1, va_Nw.same (u := U) (U := U.calling g mk a) rfl rfl h.2.2.2.2⟩
/-- the end of a method that throws an object of the class E: old cells stay -/
def vx_TQ (E : String) (mc ms : Nat) (st : State) (o : Outcome) (t : State) : Prop :=
  ∃ (x : Addr) (ce : Cell), o = .threw x ∧ st.WarmedH t.vm ∧ st.sameButNew ({ t with vm := st.vm } : State) [] mc ms ∧ t.heap[x]? = some ce ∧ ce.vm.isStatics = false ∧ st.vm.findClass E = some ce.cls
def vx_MetT (l : Launch) (y : MethodName) (ws : List Cond) (rm : Room) (Pc : Array Value → State → Prop) (E : String) (mc ms : Nat) : Prop :=
  MetFree l y (headSpec ws rm) Pc (fun _ _ _ _ _ => True) (fun _ st o t => vx_TQ E mc ms st o t)
def vx_MQ (below : List Frame) (E : String) (mc ms : Nat) (s : State) : State → Prop := fun t => ∃ o, t.status = .running ∧ Ended t below o ∧ vx_TQ E mc ms s o t
theorem vx_ofW {l : Launch} {y : MethodName} {ws ws' : List Cond} {rm : Room} {Pc : Array Value → State → Prop} {E : String} {mc ms : Nat} {cc : ByteArray} {maxL : Nat} {ret : Option FieldType}
    (hy : plainName y.cls = true) (hw : ws = Cond.code y cc maxL ret :: ws')
    (body : ∀ p e s m args below meth c s₁, BodyLoose p l y (headSpec ws rm) cc maxL ret e s m args below meth c s₁ → c.maxLocals = maxL → Pc args s →
      W p l e (headSpec ws rm).room s m args below meth c s.heap [] 0 0 (vx_MQ below E mc ms s) (entryFrame m args maxL)) : vx_MetT l y ws rm Pc E mc ms := by
  refine MetFree.of_bodyS (code := cc) (maxLocals := maxL) (ret := ret) hy ?_ ?_
  · intro args s m h hn
    obtain ⟨meth, c, h1, h2, h3, h4, h5, h6, -, -⟩ := Cond.code_spec hn (atoms_spec (ws := ws) h _ (by rw [hw]; exact List.mem_cons_self))
    exact ⟨meth, c, h1, h2, h3, h4, h5, h6⟩
  · intro p e s m args below meth c s₁ B hml hP _
    have hh0 : s₁.heap = s.heap := by rw [B.state]; rfl
    obtain ⟨t, a1, o, b1, b2, b3⟩ := body p e s m args below meth c s₁ B hml hP s₁ hh0 (Stand.of_body B)
    exact ⟨t, o, a1, b1, b2, b3⟩
def vx_names : List String := ["java/lang/RuntimeException", "java/lang/Exception"]
def vx_r1 : Cond := .isRef (.static "java/lang/Throwable" "UNASSIGNED_STACK" "[Ljava/lang/StackTraceElement;")
def vx_r2 : Cond := .isRef (.static "java/lang/Throwable" "SUPPRESSED_SENTINEL" "Ljava/util/List;")
def vx_l1 : Cond := .laysStatic "java/lang/Throwable" "UNASSIGNED_STACK" "[Ljava/lang/StackTraceElement;"
def vx_l2 : Cond := .laysStatic "java/lang/Throwable" "SUPPRESSED_SENTINEL" "Ljava/util/List;"
section VXT
variable {p : Program} {l : Launch} {e : Env} {R : Room} {s : State} {m : MethodId} {args : Array Value} {below : List Frame} {meth : Method} {c : Code} {cells slots : Nat}
/-- new E; dup; invokespecial E.<init>(); athrow: from the state of the method's own entry -/
theorem vx_throw {cc : ByteArray} {nL : Nat} (hx : p.tables.exec = Jvm.exec) (hb : c.code = cc) (hml : c.maxLocals = nL) (htr : e.platform.stackTraces = false) {own E : String} {ix ic : Nat} (hown : s.vm.findClass own = some m.cls) (hE : Bundle.fit E = true)
    (hcl : (Cond.classLink own ix E).before args s = true) (hini : (Cond.initialized E).before args s = true) (hat : ∀ a ∈ Bundle.ownAtoms0 own ic E vx_names, a.before args s = true)
    (hno : c.exceptionTable.isEmpty = true) {pc : Nat} {ls : Array Slot} (hls : ls.size = nL) (d0 : decode cc pc = .ok (.new ix, 3)) (d3 : decode cc (pc + 3) = .ok (.dup, 1)) (d4 : decode cc (pc + 4) = .ok (.invokespecial ic, 3)) (d7 : decode cc (pc + 7) = .ok (.athrow, 1))
    (hf : 5 < R.frames) (hlo : 81 ≤ R.locals) (hc : 1 ≤ R.cells) (hs : 6 ≤ R.slots) (hlocks : meth.locks = false) :
    W p l e R s m args below meth c s.heap [] 0 0 (vx_MQ below E 1 6 s) (F0 m pc ls []) := by
  refine W.newc hx hb hown hcl (n := 6) (hat (.instantiable E 6) (by simp [Bundle.ownAtoms0])) hini rfl d0 (by omega) (by omega) (fun cC kC hfound hk hord hsz => ?_)
  refine W.eq (g2 := F0 m (pc + 3) ls [.ref s.heap.size]) rfl ?_
  refine lv_dup hx hb d3 rfl ?_
  intro T hT X
  have hcell : T.heap[s.heap.size]? = some (freshCell cC kC) := by rw [hT]; simp [freshCell]
  obtain ⟨U, st, hrun, hend, hW, hsame, ce, hce, hown2⟩ := X.ctorThrow0 hx htr (own := own) (cls := E) (names := vx_names) (ic := ic) hown hE (by decide) hat (fun x h => by simp at h) hfound hk hcell (Nat.le_refl _)
    (g := F0 m (pc + 4) ls [.ref s.heap.size, .ref s.heap.size]) rfl (by rw [hml]; exact hls) rfl rfl (rest := []) rfl (by rw [hb]; exact d4) (by rw [hb]; exact d7)
    (fun x h => by have h0 : c.exceptionTable.toList = [] := by simpa using hno
                   rw [h0] at h; cases h) (by simp [vx_names]; omega) (by simp [vx_names, JFrame.monitorRoom, Value.category]; omega) hlocks
  refine ⟨U, st, .threw s.heap.size, hrun, hend, s.heap.size, ce, rfl, hW, ?_, hce, ?_, hown2.cls⟩
  · have := hsame; simpa using this
  · rw [hown2.vm]; rfl
end VXT
theorem vx_atoms {own E : String} {ic : Nat} (hall : (Bundle.ownAtoms0 own ic E vx_names).all (fun a => decide (a ∈ vT) || decide (a ∈ [Cond.castable E E, vx_l1, vx_l2, vx_r1, vx_r2, vx_d1, vx_d2, vx_d3])) = true) {args : Array Value} {s : State} (hT : ∀ w ∈ vT, w.before args s = true) (hX : vx_X E s) :
    ∀ a ∈ Bundle.ownAtoms0 own ic E vx_names, a.before args s = true := by
  intro a ha
  have h1 := List.all_eq_true.mp hall a ha
  simp only [Bool.or_eq_true, decide_eq_true_eq] at h1
  rcases h1 with h | h
  · exact hT a h
  · simp only [List.mem_cons, List.not_mem_nil, or_false] at h
    rcases h with rfl | rfl | rfl | rfl | rfl | rfl | rfl | rfl
    · exact hX.2.1.use rfl
    · exact hX.1.1.1
    · exact hX.1.2.1
    · exact hX.1.1.2
    · exact hX.1.2.2
    · exact hX.2.2.1.use rfl
    · exact hX.2.2.2.1.use rfl
    · exact hX.2.2.2.2.use rfl
