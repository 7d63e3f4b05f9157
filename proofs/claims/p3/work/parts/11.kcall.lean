-- the consequence rule; contracts on the kernel's world, their opening, their calls, their ends
theorem vE_room {ws : List Cond} {rm rm' : Room} {y : MethodName} {pl : Platform} {s : State} (hr : rm.frames ≤ rm'.frames ∧ rm.cells ≤ rm'.cells ∧ rm.slots ≤ rm'.slots ∧ rm.locals ≤ rm'.locals) (h : (headSpec ws rm').appliesLoose y pl s = true) : (headSpec ws rm).appliesLoose y pl s = true := by
  obtain ⟨h1, h2, h3, h4⟩ := hr
  unfold Spec.appliesLoose at h ⊢
  split at h
  · rename_i m args below hf
    simp only [Bool.and_eq_true] at h ⊢
    refine ⟨⟨h.1.1, ?_⟩, h.2⟩
    have q := h.1.2
    have e1 : (headSpec ws rm').room = rm' := rfl
    have e2 : (headSpec ws rm).room = rm := rfl
    rw [e1] at q
    rw [e2]
    simp only [State.hasRoom, Bool.and_eq_true, decide_eq_true_eq] at q ⊢
    obtain ⟨⟨⟨⟨q1, q2, q3, q4, q5, q6⟩, q7⟩, q8⟩, q9⟩ := q
    exact ⟨⟨⟨⟨by omega, by omega, by omega, by omega, by omega, q6⟩, by omega⟩, by omega⟩, q9⟩
  · cases h
theorem vE_use {l : Launch} {y : MethodName} {ws : List Cond} {rm' : Room} {Pc' : Array Value → State → Prop} {Q' : Array Value → State → Outcome → State → Nat → Nat → Prop} {A : Nat → Prop}
    (hP : ∀ a st, Pc' a st → ∃ (rm : Room) (Pc : Array Value → State → Prop) (Q : Array Value → State → Outcome → State → Nat → Nat → Prop) (A1 : Nat → Prop), vE l y ws rm Pc Q A1 ∧ Pc a st ∧ (rm.frames ≤ rm'.frames ∧ rm.cells ≤ rm'.cells ∧ rm.slots ≤ rm'.slots ∧ rm.locals ≤ rm'.locals) ∧ (∀ q, A1 q → A q) ∧
      ∀ o t k n, st.WarmedH t.vm → st.heap.size ≤ t.heap.size → (∀ q : Nat, q < st.heap.size → ¬ A1 q → t.heap[q]? = st.heap[q]?) → Q a st o t k n → Q' a st o t k n) : vE l y ws rm' Pc' Q' A := by
  intro p e ha hc hk s m args below hf happ hP' hK
  obtain ⟨rm, Pc, Q, A1, hv, hPz, hr, hA, hQ⟩ := hP args s hP'
  obtain ⟨n, o, h1, h2, h3, L, k, nn, hW, hs, hL, hq⟩ := hv p e ha hc hk s m args below hf (vE_room hr happ) hPz hK
  obtain ⟨o1, o2⟩ := vE_off hs hL
  exact ⟨n, o, h1, h2, h3, L, k, nn, hW, hs, fun q hq => hA _ (hL q hq), hQ o _ k nn hW o1 o2 hq⟩
theorem vx_S.by {C n d : String} {s U : State} (hvm : s.vm.Alike U.vm) (hH : ∀ (cc : ClassId) (k : Class) (i : Nat) (f : Field) (a : Addr), s.fieldFound? C n d = some (cc, k, i, f) → k.statics = some a → U.heap[a]? = s.heap[a]?) (h : vx_S C n d s) : vx_S C n d U := by
  obtain ⟨hl, hr⟩ := h
  obtain ⟨cc, k, i, f, a, cell, hc, hi, hst, ha, hcell, hs, hcls, hlt, hty⟩ := Cond.laysStatic_spec hl
  obtain ⟨k', hi', he⟩ := State.fieldFound?_setVm hvm hi
  have hU : U.heap[a]? = some cell := (hH cc k i f a hi ha).trans hcell
  have hc' : U.vm.findClass C = some cc := by rw [hvm.findClass]; exact hc
  have hi' : U.fieldFound? C n d = some (cc, k', i, f) := hi'
  have ha' : k'.statics = some a := by rw [he]; exact ha
  have hty' : k'.staticTypes[f.slot]? = some f.type := by rw [he]; exact hty
  refine ⟨?_, ?_⟩
  · simp [Cond.before, Cond.holds, Cond.value, hc', hi', hst, ha', hU, hs, hcls, hlt, hty']
  · cases hv : (Term.static C n d).eval #[] s none [] s with
    | none => simp [Cond.before, Cond.holds, Cond.value, hv] at hr
    | some w =>
      have hv' : (Term.static C n d).eval #[] U none [] U = some w := by
        simp [Term.eval, State.fieldNamed?, hi, hst, ha, hcell, hs] at hv
        simp [Term.eval, State.fieldNamed?, hi', hst, ha', hU, hs, hv]
      simp only [Cond.before, Cond.holds, Cond.value, hv] at hr
      simp only [Cond.before, Cond.holds, Cond.value, hv']
      exact hr
theorem kNo.by {A : Nat → Prop} {s U : State} (hvm : s.vm.Alike U.vm) (hsz : s.heap.size ≤ U.heap.size) (h : kNo A s) : kNo A U := fun n d hnd cc k i f a hi ha => by
  obtain ⟨k', hi', he⟩ := State.fieldFound?_setVm hvm.symm hi
  have hi' : s.fieldFound? "java/lang/Throwable" n d = some (cc, k', i, f) := hi'
  have := h n d hnd cc k' i f a hi' (by rw [he]; exact ha)
  exact ⟨this.1, Nat.lt_of_lt_of_le this.2 hsz⟩
theorem vx_X.by {E : String} {A : Nat → Prop} {s U : State} (hW : s.WarmedH U.vm) (hN : kNo A s) (hF : ∀ q : Nat, q < s.heap.size → ¬ A q → U.heap[q]? = s.heap[q]?) (h : vx_X E s) : vx_X E U :=
  ⟨⟨vx_S.by hW.alike (fun cc k i f a hi ha => hF a (hN _ _ (Or.inl ⟨rfl, rfl⟩) cc k i f a hi ha).2 (hN _ _ (Or.inl ⟨rfl, rfl⟩) cc k i f a hi ha).1) h.1.1, vx_S.by hW.alike (fun cc k i f a hi ha => hF a (hN _ _ (Or.inr ⟨rfl, rfl⟩) cc k i f a hi ha).2 (hN _ _ (Or.inr ⟨rfl, rfl⟩) cc k i f a hi ha).1) h.1.2⟩, va_Nw.warmC hW h.2.1, va_Nw.warmD hW h.2.2.1, va_Nw.warmD hW h.2.2.2.1, va_Nw.warmD hW h.2.2.2.2⟩
theorem kSt.by {g : kG} {A : Nat → Prop} {s U : State} (h : kSt g A s) (hW : s.WarmedH U.vm) (hF : ∀ q : Nat, q < s.heap.size → ¬ A q → U.heap[q]? = s.heap[q]?) : kSt g A U := by
  obtain ⟨h1, h2, h3, h4⟩ := h
  exact ⟨fun i hi => ⟨(va_O.moved hW.alike (h1 i hi).1).kept hF, (va_OF.moved hW.alike (h1 i hi).2.1).kept hF, (va_OF.moved hW.alike (h1 i hi).2.2.1).kept hF, (va_T.moved hW.alike (h1 i hi).2.2.2).kept hF⟩, fun i hi => (h2 i hi).warm hW, (va_Z.moved hW.alike h3).kept hF, (va_Zq.moved hW.alike h4).kept hF⟩
theorem kE.by {g : kG} {A : Nat → Prop} {s U : State} (h : kE g A s) (hW : s.WarmedH U.vm) (hsz : s.heap.size ≤ U.heap.size) (hF : ∀ q : Nat, q < s.heap.size → ¬ A q → U.heap[q]? = s.heap[q]?) : kE g A U :=
  ⟨va_K.moved hW.alike h.1, fun q hq => h.2.1 q (Nat.le_trans hsz hq), h.2.2.1.by hW h.2.2.2.1 hF, h.2.2.2.1.by hW.alike hsz, h.2.2.2.2.by hW hF⟩
theorem kE.at {g : kG} {A : Nat → Prop} {s U : State} {H : Heap} {locs : List Loc} (h : kE g A s) (hS : va_S A s.heap H locs) (hU : U.heap = H) (hW : s.WarmedH U.vm) : kE g A U :=
  h.by hW (by rw [hU]; exact hS.1) (fun q h1 h2 => by rw [hU]; exact hS.2.1 q h1 h2)
/-- what is thrown is an IllegalStateException -/
def kX (o : Outcome) (t : State) : Prop := ∀ x, o = .threw x → ∃ ce : Cell, t.heap[x]? = some ce ∧ ce.vm.isStatics = false ∧ t.vm.findClass kISE = some ce.cls
def kx (o : Outcome) : Nat := match o with
  | .threw _ => 1
  | .returned _ => 0
theorem kX.ret {v : Option Value} {t : State} : kX (.returned v) t := fun x h => by cases h
/-- rooms grow; what has not grown lies where it lay -/
def kRm (α : kS) (ad : Nat → Nat) (α' : kS) (ad' : Nat → Nat) : Prop := ∀ r, r < 26 → α.2.2.1 r ≤ α'.2.2.1 r ∧ (α'.2.2.1 r = α.2.2.1 r → ad' r = ad r)
theorem kRm.rf {α : kS} {ad : Nat → Nat} : kRm α ad α ad := fun _ _ => ⟨Nat.le_refl _, fun _ => rfl⟩
theorem kRm.tr {α β γ : kS} {a b d : Nat → Nat} (h1 : kRm α a β b) (h2 : kRm β b γ d) : kRm α a γ d := fun r hr => by
  obtain ⟨p1, p2⟩ := h1 r hr
  obtain ⟨q1, q2⟩ := h2 r hr
  exact ⟨Nat.le_trans p1 q1, fun e => (q2 (by omega)).trans (p2 (by omega))⟩
/-- a contract's end -/
def kQ (g : kG) (A : Nat → Prop) (α : kS) (ad : Nat → Nat) (Q : Outcome → kS → Prop) : Array Value → State → Outcome → State → Nat → Nat → Prop := fun _ _ o t k n => ∃ (α' : kS) (ad' : Nat → Nat), Q o α' ∧ kB g A α' ad' t ∧ kRm α ad α' ad' ∧ kX o t ∧ n + kF α ≤ kF α' + 6 * kx o ∧ 32 * k + kF α ≤ kF α' + 32 * kx o
/-- its room -/
def kR (fr lo : Nat) (α : kS) : Room := { frames := fr, cells := (kM - kF α) / 32 + 1, slots := kM - kF α + 6, locals := lo }
/-- a contract on the kernel's world: from α the method returns or throws, with Q -/
def kC (l : Launch) (g : kG) (y : MethodName) (cd : ByteArray) (maxL : Nat) (ret : Option FieldType) (fr lo : Nat) (av : List Value) (α : kS) (Q : Outcome → kS → Prop) : Prop :=
  ∀ (A : Nat → Prop) (ad : Nat → Nat), vE l y (Cond.code y cd maxL ret :: vT) (kR fr lo α) (va_Pc av (kB g A α ad)) (kQ g A α ad Q) A
/-- a contract of a method that only reads: the answer is v -/
def kV (l : Launch) (g : kG) (y : MethodName) (cd : ByteArray) (maxL : Nat) (ret : Option FieldType) (fr lo : Nat) (av : List Value) (α : kS) (v : Int32) : Prop :=
  ∀ (A : Nat → Prop) (ad : Nat → Nat), Met l y (Cond.code y cd maxL ret :: vT) { frames := fr, cells := 0, slots := 0, locals := lo } (va_Pc av (kB g A α ad)) (QcRead v) 0 0 (fun _ => False)
/-- where a walk stands: the kernel in the heap -/
def kJ (g : kG) (A : Nat → Prop) (s : State) (α : kS) (ad : Nat → Nat) (H : Heap) (locs : List Loc) : Prop := kHp g A α ad H ∧ kOk α ∧ va_S A s.heap H locs
/-- the same, and what was paid -/
def kI (g : kG) (A : Nat → Prop) (s : State) (α0 : kS) (ad0 : Nat → Nat) (α : kS) (ad : Nat → Nat) (H : Heap) (locs : List Loc) (cells slots : Nat) : Prop := kJ g A s α ad H locs ∧ kRm α0 ad0 α ad ∧ slots + kF α0 ≤ kF α ∧ 32 * cells + kF α0 ≤ kF α
theorem kB_blind {g : kG} {A : Nat → Prop} {α : kS} {ad : Nat → Nat} {av : List Value} : FrameBlind (va_Pc av (kB g A α ad)) :=
  fun a U g mk h => ⟨h.1, h.2.1, h.2.2.1, h.2.2.2.by (U := U.calling g mk a) (State.WarmedH.refl U) (Nat.le_refl _) (fun _ _ _ => rfl)⟩
theorem kJ.to {g : kG} {A : Nat → Prop} {s : State} {α : kS} {ad : Nat → Nat} {H : Heap} {locs : List Loc} {av : List Value} (h : kJ g A s α ad H locs) (E : kE g A s) : ∀ U : State, U.heap = H → s.WarmedH U.vm → va_Pc av (kB g A α ad) av.toArray U :=
  fun U hU hW => ⟨rfl, by rw [hU]; exact h.1, h.2.1, E.at h.2.2 hU hW⟩
/-- what a method's function says of its end -/
abbrev kO : Type := Option (Option Int32)
def kQr (x : kO × kS) (o : Outcome) (α : kS) : Prop := α = x.2 ∧ match x.1 with
  | none => ∃ a, o = .threw a
  | some none => o = .returned none
  | some (some v) => o = .returned (some (.int v))
/-- calls in such functions: of a method with an int answer, of one without -/
def kBi (x : Option (kO × kS)) (k : Int32 → kS → Option (kO × kS)) : Option (kO × kS) := match x with
  | some (some (some v), α) => k v α
  | some (none, α) => some (none, α)
  | _ => none
def kBv (x : Option (kO × kS)) (k : kS → Option (kO × kS)) : Option (kO × kS) := match x with
  | some (some none, α) => k α
  | some (none, α) => some (none, α)
  | _ => none
theorem kc_ofW {l : Launch} {g : kG} {y : MethodName} {cd : ByteArray} {maxL : Nat} {ret : Option FieldType} {fr lo : Nat} {av : List Value} {α : kS} {Q : Outcome → kS → Prop} (hy : plainName y.cls = true)
    (body : ∀ (A : Nat → Prop) (ad : Nat → Nat) p e s m args below meth c, CallFix p m c cd maxL s args vT y.cls → meth.sig.returnType = ret → meth.locks = false → c.exceptionTable.isEmpty = true → l.admits e → args = av.toArray → kE g A s → kI g A s α ad α ad s.heap [] 0 0 →
      W p l e (kR fr lo α) s m args below meth c s.heap [] 0 0 (vEQ below (kQ g A α ad Q) args s A) (entryFrame m args maxL)) : kC l g y cd maxL ret fr lo av α Q := fun A ad =>
  vE_ofW hy rfl (fun p e s m args below meth c s₁ B hml hv => body A ad p e s m args below meth c ⟨B.exec, B.bytes, hml, findClass_of_methodNamed B.named, fun w h => atoms_spec (ws := Cond.code y cd maxL ret :: vT) B.pre w (List.mem_cons_of_mem _ h)⟩ B.returns B.notSynchronized
    (B.noHandlers (atoms_spec (ws := Cond.code y cd maxL ret :: vT) B.pre _ List.mem_cons_self)) (Stand.of_body B).admits hv.1 hv.2.2.2 ⟨⟨hv.2.1, hv.2.2.1, va_S.rf⟩, kRm.rf, by omega, by omega⟩)
theorem kv_ofW {l : Launch} {g : kG} {y : MethodName} {cd : ByteArray} {maxL : Nat} {ret : Option FieldType} {fr lo : Nat} {av : List Value} {α : kS} {v : Int32} (hy : plainName y.cls = true)
    (body : ∀ (A : Nat → Prop) (ad : Nat → Nat) p e s m args below meth c, CallFix p m c cd maxL s args vT y.cls → meth.sig.returnType = ret → meth.locks = false → args = av.toArray → kE g A s → kJ g A s α ad s.heap [] →
      W p l e { frames := fr, cells := 0, slots := 0, locals := lo } s m args below meth c s.heap [] 0 0 (MQ below (QcRead v) args s 0 0 (fun _ => False)) (entryFrame m args maxL)) : kV l g y cd maxL ret fr lo av α v := fun A ad =>
  Met.ofW (cc := cd) (maxL := maxL) (ret := ret) hy rfl (fun p e s m args below meth c s₁ B hml hv => body A ad p e s m args below meth c ⟨B.exec, B.bytes, hml, findClass_of_methodNamed B.named, fun w h => atoms_spec (ws := Cond.code y cd maxL ret :: vT) B.pre w (List.mem_cons_of_mem _ h)⟩ B.returns B.notSynchronized hv.1 hv.2.2.2 ⟨hv.2.1, hv.2.2.1, va_S.rf⟩)
section VEZ
variable {p : Program} {l : Launch} {e : Env} {R : Room} {s : State} {m : MethodId} {args : Array Value} {below : List Frame} {meth : Method} {c : Code} {H : Heap} {locs : List Loc} {cells slots : Nat} {Q : Array Value → State → Outcome → State → Nat → Nat → Prop} {A : Nat → Prop} {cc : ByteArray} {ty : FieldType}
theorem vE_zret {v w : Int32} (hexec : p.tables.exec = Jvm.exec) (hb : c.code = cc) (hr : meth.sig.returnType = some ty) (hn : narrow ty (.int v) = .int w) (hq : ∀ t : State, t.heap = H → s.WarmedH t.vm → Q args s (.returned (some (.int w))) t cells slots) (hf : ∀ q ∈ locs, A q.base)
    {pc : Nat} {ls : Array Slot} (hdg : decode cc pc = .ok (.ireturn, 1)) (hlocks : meth.locks = false) : W p l e R s m args below meth c H locs cells slots (vEQ below Q args s A) (F0 m pc ls [.int v]) := by
  intro T hT X
  obtain ⟨fs, hret, hrun, hended, hW, hframe⟩ := X.leave (v := some (.int w)) (hlocks := hlocks) (fun h => by rw [hr] at h; cases h)
  have hmeth' : T.vm.method? m = some meth := X.method'
  refine ⟨T.setFrames fs, ?_, .returned (some (.int w)), locs, cells, slots, hrun, hended, hW, hframe, hf, hq _ hT hW⟩
  jvm_step X.here [X.here.top, hexec, hb, hdg, hmeth', hr, hn]
  (try refine ⟨rfl, ?_⟩); (try refine ⟨rfl, ?_⟩)
  first | (intro acts; rw [hret _ acts rfl rfl rfl]) | rw [hret _ _ rfl rfl rfl]
  exact Steps.refl _
theorem mq_zret {Qc : Array Value → State → Outcome → State → Prop} {free : Addr → Prop} {v w : Int32} (hexec : p.tables.exec = Jvm.exec) (hb : c.code = cc) (hr : meth.sig.returnType = some ty) (hn : narrow ty (.int v) = .int w)
    (hq : ∀ t : State, t.heap = H → s.WarmedH t.vm → Qc args s (.returned (some (.int w))) t) (hf : ∀ q ∈ locs, free q.base)
    {pc : Nat} {ls : Array Slot} (hdg : decode cc pc = .ok (.ireturn, 1)) (hlocks : meth.locks = false) : W p l e R s m args below meth c H locs cells slots (MQ below Qc args s cells slots free) (F0 m pc ls [.int v]) := by
  intro T hT X
  obtain ⟨fs, hret, hrun, hended, hW, hframe⟩ := X.leave (v := some (.int w)) (hlocks := hlocks) (fun h => by rw [hr] at h; cases h)
  have hmeth' : T.vm.method? m = some meth := X.method'
  refine ⟨T.setFrames fs, ?_, .returned (some (.int w)), hrun, hended, hq _ hT hW, locs, ⟨⟨_, rfl⟩, hW, hframe⟩, hf⟩
  jvm_step X.here [X.here.top, hexec, hb, hdg, hmeth', hr, hn]
  (try refine ⟨rfl, ?_⟩); (try refine ⟨rfl, ?_⟩)
  first | (intro acts; rw [hret _ acts rfl rfl rfl]) | rw [hret _ _ rfl rfl rfl]
  exact Steps.refl _
end VEZ
section KCN
variable {p : Program} {l : Launch} {e : Env} {R : Room} {fr0 lo0 : Nat} {s : State} {m : MethodId} {args : Array Value} {below : List Frame} {meth : Method} {c : Code} {H : Heap} {locs : List Loc} {cells slots : Nat} {g : kG} {A : Nat → Prop} {α0 α : kS} {ad0 ad : Nat → Nat} {x : kO × kS} {cc : ByteArray}
theorem kc_iret {v w : Int32} {ty : FieldType} (hx : p.tables.exec = Jvm.exec) (hb : c.code = cc) (hr : meth.sig.returnType = some ty) (hn : narrow ty (.int v) = .int w) (hlocks : meth.locks = false) (E : kE g A s) (hI : kI g A s α0 ad0 α ad H locs cells slots) (h : some ((some (some w), α) : kO × kS) = some x) {pc : Nat} {ls : Array Slot} (hdg : decode cc pc = .ok (.ireturn, 1)) :
    W p l e R s m args below meth c H locs cells slots (vEQ below (kQ g A α0 ad0 (kQr x)) args s A) (F0 m pc ls [.int v]) := by
  cases h
  exact vE_zret hx hb hr hn (fun t ht hW => ⟨α, ad, ⟨rfl, rfl⟩, ⟨by rw [ht]; exact hI.1.1, hI.1.2.1, E.at hI.1.2.2 ht hW⟩, hI.2.1, kX.ret, hI.2.2.1, hI.2.2.2⟩) hI.1.2.2.2.2 hdg hlocks
theorem kc_vret (hx : p.tables.exec = Jvm.exec) (hb : c.code = cc) (hr : meth.sig.returnType = none) (hlocks : meth.locks = false) (E : kE g A s) (hI : kI g A s α0 ad0 α ad H locs cells slots) (h : some ((some none, α) : kO × kS) = some x) {pc : Nat} {ls : Array Slot} (hdg : decode cc pc = .ok (.return_, 1)) :
    W p l e R s m args below meth c H locs cells slots (vEQ below (kQ g A α0 ad0 (kQr x)) args s A) (F0 m pc ls []) := by
  cases h
  exact vE_vret hx hb hr (fun t ht hW => ⟨α, ad, ⟨rfl, rfl⟩, ⟨by rw [ht]; exact hI.1.1, hI.1.2.1, E.at hI.1.2.2 ht hW⟩, hI.2.1, kX.ret, hI.2.2.1, hI.2.2.2⟩) hI.1.2.2.2.2 hdg hlocks
theorem kv_iret {v w w' : Int32} {ty : FieldType} (hx : p.tables.exec = Jvm.exec) (hb : c.code = cc) (hr : meth.sig.returnType = some ty) (hn : narrow ty (.int v) = .int w) (hlocks : meth.locks = false) (h : w = w') {pc : Nat} {ls : Array Slot} (hdg : decode cc pc = .ok (.ireturn, 1)) :
    W p l e R s m args below meth c s.heap [] 0 0 (MQ below (QcRead w') args s 0 0 (fun _ => False)) (F0 m pc ls [.int v]) := by
  subst h
  exact mq_zret hx hb hr hn (fun t ht hW => ⟨rfl, ht⟩) (fun _ h => nomatch h) hdg hlocks
variable {y : MethodName} {bytes : ByteArray} {maxL nL n0 index fr lo : Nat} {ret : Option FieldType} {own C : String} {b : Addr} {As rest st0 : List Value} {ls : Array Slot} {pc : Nat}
/-- invokevirtual of a method of the kernel, by any contract of it -/
theorem kc_callV {Qc : Outcome → kS → Prop} {Q : Outcome → kS → Prop} (S : CallFix p m c cc nL s args vT own) (hlocks : meth.locks = false) (hno : c.exceptionTable.isEmpty = true) (E : kE g A s) (hI : kI g A s α0 ad0 α ad H locs cells slots) (hM : kC l g y bytes maxL ret fr lo (.ref b :: As) α Qc)
    (h1 : Cond.methodLink own index y ∈ vT) (h2 : Cond.instanceMethod y ∈ vT) (h3 : Cond.selects C y y ∈ vT) (h4 : Cond.initialized y.cls ∈ vT) (h5 : Cond.code y bytes maxL ret ∈ vT)
    (hd : y.cls ≠ "java/lang/invoke/MethodHandle" ∧ y.cls ≠ "java/lang/invoke/VarHandle" ∧ (parseMethodDescriptor y.desc).map (fun d => d.parameters.length) = some n0) (hR : fr + 1 ≤ fr0 ∧ 8 + (maxL + 11) + lo ≤ lo0)
    (hrecv : ∃ cellB : Cell, H[b]? = some cellB ∧ cellB.vm.isStatics = false ∧ s.vm.findClass C = some cellB.cls)
    (hn : As.length = n0) (hsize : ls.size = nL) (hstack : st0 = As.reverse ++ .ref b :: rest) (hW : (rest.map fun v => v.category).sum ≤ 8) (hdg : decode cc pc = .ok (.invokevirtual index, 3))
    (kr : ∀ (v : Option Value) (α' : kS) (ad' : Nat → Nat) (H1 : Heap) (locs1 : List Loc) (cells1 slots1 : Nat), Qc (.returned v) α' → kRm α ad α' ad' → kI g A s α0 ad0 α' ad' H1 locs1 cells1 slots1 → W p l e (kR fr0 lo0 α0) s m args below meth c H1 locs1 cells1 slots1 (vEQ below (kQ g A α0 ad0 Q) args s A) (F0 m (pc + 3) ls (v.toList ++ rest)))
    (kt : ∀ (x : Addr) (α' : kS), Qc (.threw x) α' → Q (.threw x) α') :
    W p l e (kR fr0 lo0 α0) s m args below meth c H locs cells slots (vEQ below (kQ g A α0 ad0 Q) args s A) (F0 m pc ls st0) := by
  have hF := hI.1.2.1.F
  have b1 := hI.2.2.1
  have b2 := hI.2.2.2
  refine vE_callV (A1 := A) (H0 := s.heap) S (hM A ad) h1 h2 h3 h4 h5 hd hR ⟨kB_blind, hrecv, hI.1.to E⟩ hn hsize hstack hW hdg ⟨?_, ?_⟩ hno hlocks hI.1.2.2 (fun _ h => h) ?_ ?_
  · show cells + ((kM - kF α) / 32 + 1) ≤ (kM - kF α0) / 32 + 1
    omega
  · show slots + (kM - kF α + 6) ≤ kM - kF α0 + 6
    omega
  · intro v st t H1 locs1 k n _ ht _ hq _ _ hS1
    obtain ⟨α', ad', hQ, hB, hRm, -, hk1, hk2⟩ := hq
    refine kr v α' ad' H1 locs1 (cells + k) (slots + n) hQ hRm ⟨⟨by rw [← ht]; exact hB.1, hB.2.1, hS1⟩, hI.2.1.tr hRm, ?_, ?_⟩
    · have : kx (.returned v) = 0 := rfl
      rw [this] at hk1
      omega
    · have : kx (.returned v) = 0 := rfl
      rw [this] at hk2
      omega
  · intro x st t t' H1 k n _ ht ht' hWt' hal hq hz hk
    obtain ⟨α', ad', hQ, hB, hRm, hx', hk1, hk2⟩ := hq
    have hS1 : va_S A s.heap H1 locs := ⟨Nat.le_trans hI.1.2.2.1 hz, fun q h1 h2 => (hk q (Nat.lt_of_lt_of_le h1 hI.1.2.2.1) h2).trans (hI.1.2.2.2.1 q h1 h2), hI.1.2.2.2.2⟩
    refine ⟨α', ad', kt x α' hQ, ⟨by rw [ht', ← ht]; exact hB.1, hB.2.1, E.at hS1 ht' hWt'⟩, hI.2.1.tr hRm, ?_, ?_, ?_⟩
    · intro x1 e1
      obtain ⟨ce, c1, c2, c3⟩ := hx' x1 e1
      exact ⟨ce, by rw [ht', ← ht]; exact c1, c2, by rw [hWt'.alike.findClass, ← hal.findClass]; exact c3⟩
    · have : kx (.threw x) = 1 := rfl
      rw [this] at hk1 ⊢
      omega
    · have : kx (.threw x) = 1 := rfl
      rw [this] at hk2 ⊢
      omega
/-- the words of a virtual call -/
def kWv (own : String) (index : Nat) (C : String) (y : MethodName) (bytes : ByteArray) (maxL : Nat) (ret : Option FieldType) (n0 : Nat) : Prop :=
  Cond.methodLink own index y ∈ vT ∧ Cond.instanceMethod y ∈ vT ∧ Cond.selects C y y ∈ vT ∧ Cond.initialized y.cls ∈ vT ∧ Cond.code y bytes maxL ret ∈ vT ∧ y.cls ≠ "java/lang/invoke/MethodHandle" ∧ y.cls ≠ "java/lang/invoke/VarHandle" ∧ (parseMethodDescriptor y.desc).map (fun d => d.parameters.length) = some n0
/-- a call of a method with an int answer, by its function -/
theorem kg_cI {f : Option (kO × kS)} {k : Int32 → kS → Option (kO × kS)} (h : kBi f k = some x) (hM : ∀ y1, f = some y1 → kC l g y bytes maxL ret fr lo (.ref b :: As) α (kQr y1)) (S : CallFix p m c cc nL s args vT own) (hlocks : meth.locks = false) (hno : c.exceptionTable.isEmpty = true) (E : kE g A s) (hI : kI g A s α0 ad0 α ad H locs cells slots)
    (hw : kWv own index C y bytes maxL ret n0) (hR : fr + 1 ≤ fr0 ∧ 8 + (maxL + 11) + lo ≤ lo0) (hrecv : ∃ cellB : Cell, H[b]? = some cellB ∧ cellB.vm.isStatics = false ∧ s.vm.findClass C = some cellB.cls)
    (hn : As.length = n0) (hsize : ls.size = nL) (hstack : st0 = As.reverse ++ .ref b :: rest) (hW : (rest.map fun v => v.category).sum ≤ 8) (hdg : decode cc pc = .ok (.invokevirtual index, 3))
    (kr : ∀ (v : Int32) (α' : kS) (ad' : Nat → Nat) (H1 : Heap) (locs1 : List Loc) (cells1 slots1 : Nat), f = some (some (some v), α') → k v α' = some x → kRm α ad α' ad' → kI g A s α0 ad0 α' ad' H1 locs1 cells1 slots1 → W p l e (kR fr0 lo0 α0) s m args below meth c H1 locs1 cells1 slots1 (vEQ below (kQ g A α0 ad0 (kQr x)) args s A) (F0 m (pc + 3) ls (.int v :: rest))) :
    W p l e (kR fr0 lo0 α0) s m args below meth c H locs cells slots (vEQ below (kQ g A α0 ad0 (kQr x)) args s A) (F0 m pc ls st0) := by
  obtain ⟨w1, w2, w3, w4, w5, w6⟩ := hw
  match f, hM, h, kr with
  | some (some (some v), α1), hM, h, kr =>
    refine kc_callV S hlocks hno E hI (hM _ rfl) w1 w2 w3 w4 w5 w6 hR hrecv hn hsize hstack hW hdg ?_ ?_
    · intro v1 α' ad' H1 locs1 cells1 slots1 hq hRm hI1
      obtain ⟨rfl, hq2⟩ := hq
      cases hq2
      exact kr v α' ad' H1 locs1 cells1 slots1 rfl h hRm hI1
    · intro a α' hq
      cases hq.2
  | some (none, α1), hM, h, kr =>
    cases h
    refine kc_callV S hlocks hno E hI (hM _ rfl) w1 w2 w3 w4 w5 w6 hR hrecv hn hsize hstack hW hdg ?_ ?_
    · intro v1 α' ad' H1 locs1 cells1 slots1 hq hRm hI1
      obtain ⟨a, ha⟩ := hq.2
      cases ha
    · intro a α' hq
      exact ⟨hq.1, a, rfl⟩
  | some (some none, α1), hM, h, kr => cases h
  | none, hM, h, kr => cases h
theorem kg_cV {f : Option (kO × kS)} {k : kS → Option (kO × kS)} (h : kBv f k = some x) (hM : ∀ y1, f = some y1 → kC l g y bytes maxL ret fr lo (.ref b :: As) α (kQr y1)) (S : CallFix p m c cc nL s args vT own) (hlocks : meth.locks = false) (hno : c.exceptionTable.isEmpty = true) (E : kE g A s) (hI : kI g A s α0 ad0 α ad H locs cells slots)
    (hw : kWv own index C y bytes maxL ret n0) (hR : fr + 1 ≤ fr0 ∧ 8 + (maxL + 11) + lo ≤ lo0) (hrecv : ∃ cellB : Cell, H[b]? = some cellB ∧ cellB.vm.isStatics = false ∧ s.vm.findClass C = some cellB.cls)
    (hn : As.length = n0) (hsize : ls.size = nL) (hstack : st0 = As.reverse ++ .ref b :: rest) (hW : (rest.map fun v => v.category).sum ≤ 8) (hdg : decode cc pc = .ok (.invokevirtual index, 3))
    (kr : ∀ (α' : kS) (ad' : Nat → Nat) (H1 : Heap) (locs1 : List Loc) (cells1 slots1 : Nat), f = some (some none, α') → k α' = some x → kRm α ad α' ad' → kI g A s α0 ad0 α' ad' H1 locs1 cells1 slots1 → W p l e (kR fr0 lo0 α0) s m args below meth c H1 locs1 cells1 slots1 (vEQ below (kQ g A α0 ad0 (kQr x)) args s A) (F0 m (pc + 3) ls rest)) :
    W p l e (kR fr0 lo0 α0) s m args below meth c H locs cells slots (vEQ below (kQ g A α0 ad0 (kQr x)) args s A) (F0 m pc ls st0) := by
  obtain ⟨w1, w2, w3, w4, w5, w6⟩ := hw
  match f, hM, h, kr with
  | some (some none, α1), hM, h, kr =>
    refine kc_callV S hlocks hno E hI (hM _ rfl) w1 w2 w3 w4 w5 w6 hR hrecv hn hsize hstack hW hdg ?_ ?_
    · intro v1 α' ad' H1 locs1 cells1 slots1 hq hRm hI1
      obtain ⟨rfl, hq2⟩ := hq
      cases hq2
      exact kr α' ad' H1 locs1 cells1 slots1 rfl h hRm hI1
    · intro a α' hq
      cases hq.2
  | some (none, α1), hM, h, kr =>
    cases h
    refine kc_callV S hlocks hno E hI (hM _ rfl) w1 w2 w3 w4 w5 w6 hR hrecv hn hsize hstack hW hdg ?_ ?_
    · intro v1 α' ad' H1 locs1 cells1 slots1 hq hRm hI1
      obtain ⟨a, ha⟩ := hq.2
      cases ha
    · intro a α' hq
      exact ⟨hq.1, a, rfl⟩
  | some (some (some v), α1), hM, h, kr => cases h
  | none, hM, h, kr => cases h
/-- a call of a method that only reads -/
theorem kg_p {Q : State → Prop} {v : Int32} (hM : kV l g y bytes maxL ret fr lo (.ref b :: As) α v) (S : CallFix p m c cc nL s args vT own) (E : kE g A s) (hJ : kJ g A s α ad H locs)
    (hw : kWv own index C y bytes maxL ret n0) (hR : fr + 1 ≤ R.frames ∧ 8 + (maxL + 11) + lo ≤ R.locals) (hc : cells ≤ R.cells ∧ slots ≤ R.slots) (hrecv : ∃ cellB : Cell, H[b]? = some cellB ∧ cellB.vm.isStatics = false ∧ s.vm.findClass C = some cellB.cls)
    (hn : As.length = n0) (hsize : ls.size = nL) (hstack : st0 = As.reverse ++ .ref b :: rest) (hW : (rest.map fun v => v.category).sum ≤ 8) (hdg : decode cc pc = .ok (.invokevirtual index, 3)) (hC : C = y.cls)
    (kr : W p l e R s m args below meth c H locs cells slots Q (F0 m (pc + 3) ls (.int v :: rest))) :
    W p l e R s m args below meth c H locs cells slots Q (F0 m pc ls st0) := by
  subst hC
  obtain ⟨w1, w2, w3, w4, w5, w6, w7, w8⟩ := hw
  obtain ⟨hexec, hb, hml, hown, hts⟩ := S
  subst hstack
  refine W.callR (W.runV (As := As) (rest := rest) ⟨hexec, hb, hml, hown, hts⟩ (hM A ad) (cwV n0 hts (gV w1 w2 w3 w4 w5) rfl rfl rfl ⟨rfl, w6, w7, w8⟩ hR) ⟨kB_blind, hrecv, hJ.to E⟩ rfl hn hsize rfl (lv_room hW) hdg hc) ?_
  exact kr
end KCN
