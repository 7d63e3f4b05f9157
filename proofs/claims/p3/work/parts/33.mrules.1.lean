def mSz (r : Nat) : Nat := if r = 0 then 65536 else 9400
def mWc (g : mG) (q : Nat) (k pl : Int32) : Nat × va_E := (q, .inr (13, [.null, .null, .null, .null, .null, .int k, .int pl, .int 0]))
def mBw (x : Option (kO × mS)) (k : Int32 → mS → Option mS) : Option mS := match x with
  | some (some (some v), α) => k v α
  | _ => none
/-- a method that makes a Wrong -/
def mWQ (g : mG) (A : Nat → Prop) (β : mS) : Array Value → State → Outcome → State → Nat → Nat → Prop := fun _ _ o t k n => ∃ q : Nat, o = .returned (some (.ref q)) ∧ va_P (kD g.1) classes (mWc g q (β.1 100) (β.1 101) :: mW g β) t.heap ∧ va_D A (mWc g q (β.1 100) (β.1 101) :: mW g β) ∧ mE g A t ∧ k = 1 ∧ n = 8
def mCW (l : Launch) (g : mG) (y : MethodName) (cd : ByteArray) (maxL : Nat) (ret : Option FieldType) (fr lo : Nat) (av : List Value) (α β : mS) : Prop :=
  ∀ A : Nat → Prop, vE l y (Cond.code y cd maxL ret :: vT) (mR fr lo) (va_Pc av (mB g A α)) (mWQ g A β) A
theorem mw_ofW {l : Launch} {g : mG} {y : MethodName} {cd : ByteArray} {maxL : Nat} {ret : Option FieldType} {fr lo : Nat} {av : List Value} {α β : mS} (hy : plainName y.cls = true)
    (body : ∀ (A : Nat → Prop) p e s m args below meth c, CallFix p m c cd maxL s args vT y.cls → meth.sig.returnType = ret → meth.locks = false → c.exceptionTable.isEmpty = true → args = av.toArray → mE g A s → mI g A s α s.heap [] →
      W p l e (mR fr lo) s m args below meth c s.heap [] 0 0 (vEQ below (mWQ g A β) args s A) (entryFrame m args maxL)) : mCW l g y cd maxL ret fr lo av α β := fun A =>
  vE_ofW hy rfl (fun p e s m args below meth c s₁ B hml hv => body A p e s m args below meth c ⟨B.exec, B.bytes, hml, findClass_of_methodNamed B.named, fun w h => atoms_spec (ws := Cond.code y cd maxL ret :: vT) B.pre w (List.mem_cons_of_mem _ h)⟩ B.returns B.notSynchronized
    (B.noHandlers (atoms_spec (ws := Cond.code y cd maxL ret :: vT) B.pre _ List.mem_cons_self)) hv.1 hv.2.2 ⟨hv.2.1, va_S.rf⟩)
section MRU
variable {p : Program} {l : Launch} {e : Env} {R : Room} {fr0 lo0 : Nat} {s : State} {m : MethodId} {args : Array Value} {below : List Frame} {meth : Method} {c : Code} {H : Heap} {locs : List Loc} {g : mG} {A : Nat → Prop} {α : mS} {cc : ByteArray}
variable {y : MethodName} {bytes : ByteArray} {maxL nL n0 index fr lo q cells slots : Nat} {ret : Option FieldType} {own C : String} {b : Addr} {As rest st0 : List Value} {ls : Array Slot} {pc : Nat} {k pl : Int32}
theorem mg_aret {β : mS} {ty : FieldType} (hx : p.tables.exec = Jvm.exec) (hb : c.code = cc) (hr : meth.sig.returnType = some ty) (hty : ty.isReference = true) (hlocks : meth.locks = false) (E : mE g A s) (hN : mN g A s α H locs q [.null, .null, .null, .null, .null, .int k, .int pl, .int 0]) (h : some (mTh α k pl) = some β) (hdg : decode cc pc = .ok (.areturn, 1)) :
    W p l e R s m args below meth c H locs 1 8 (vEQ below (mWQ g A β) args s A) (F0 m pc ls [.ref q]) := by
  cases h
  intro T hT X
  obtain ⟨fs, hret, hrun, hended, hW, hframe⟩ := X.leave (v := some (.ref q)) (hlocks := hlocks) (fun h => by rw [hr] at h; cases h)
  have hmeth' : T.vm.method? m = some meth := X.method'
  have hheap : (T.setFrames fs).heap = H := hT
  refine ⟨T.setFrames fs, ?_, .returned (some (.ref q)), locs, 1, 8, hrun, hended, hW, hframe, hN.2.2.2.2, q, rfl, by rw [hheap]; exact hN.1, hN.2.1, E.at hN.2.2 hheap hW, rfl, rfl⟩
  jvm_step X.here [X.here.top, hx, hb, hdg, hmeth', hr]
  refine ⟨rfl, hty, fun acts => ?_⟩
  rw [hret _ acts rfl rfl rfl]
  exact Steps.refl _
theorem mg_cant {Q : Outcome → mS → Prop} {β : mS} (hM : mCW l g y bytes maxL ret fr lo (.ref b :: As) α β) (S : CallFix p m c cc nL s args vT own) (hlocks : meth.locks = false) (hno : c.exceptionTable.isEmpty = true) (E : mE g A s) (hI : mI g A s α H locs)
    (hw : kWv own index C y bytes maxL ret n0) (hR : fr + 1 ≤ fr0 ∧ 8 + (maxL + 11) + lo ≤ lo0) (hrecv : ∃ cellB : Cell, H[b]? = some cellB ∧ cellB.vm.isStatics = false ∧ s.vm.findClass C = some cellB.cls)
    (hn : As.length = n0) (hsize : ls.size = nL) (hstack : st0 = As.reverse ++ .ref b :: rest) (hW : (rest.map fun v => v.category).sum ≤ 8) (hdg : decode cc pc = .ok (.invokevirtual index, 3))
    (kr : ∀ (q : Nat) (H1 : Heap) (locs1 : List Loc), mN g A s β H1 locs1 q [.null, .null, .null, .null, .null, .int (β.1 100), .int (β.1 101), .int 0] → W p l e (mR fr0 lo0) s m args below meth c H1 locs1 1 8 (vEQ below (mQ g A Q) args s A) (F0 m (pc + 3) ls (.ref q :: rest))) :
    W p l e (mR fr0 lo0) s m args below meth c H locs 0 0 (vEQ below (mQ g A Q) args s A) (F0 m pc ls st0) := by
  obtain ⟨w1, w2, w3, w4, w5, w6⟩ := hw
  refine vE_callV (A1 := A) (H0 := s.heap) S (hM A) w1 w2 w3 w4 w5 w6 hR ⟨mB_blind, hrecv, hI.to E⟩ hn hsize hstack hW hdg ⟨Nat.le_refl _, Nat.le_refl _⟩ hno hlocks hI.2 (fun _ h => h) ?_ ?_
  · intro v st t H1 locs1 k n _ ht _ hq _ _ hS1
    obtain ⟨q, ho, hP, hD, -, rfl, rfl⟩ := hq
    cases ho
    exact kr q H1 locs1 ⟨by rw [← ht]; exact hP, hD, hS1⟩
  · intro x st t t' H1 k n _ ht ht' hWt' hal hq hz hk
    obtain ⟨q, ho, -⟩ := hq
    cases ho
theorem mg_cIw {f : Option (kO × mS)} {k : Int32 → mS → Option mS} {x : mS} (h : mBw f k = some x) (hM : ∀ y1, f = some y1 → mC l g y bytes maxL ret fr lo (.ref b :: As) α (mQr y1)) (S : CallFix p m c cc nL s args vT own) (hlocks : meth.locks = false) (hno : c.exceptionTable.isEmpty = true) (E : mE g A s) (hI : mI g A s α H locs)
    (hw : kWv own index C y bytes maxL ret n0) (hR : fr + 1 ≤ fr0 ∧ 8 + (maxL + 11) + lo ≤ lo0) (hrecv : ∃ cellB : Cell, H[b]? = some cellB ∧ cellB.vm.isStatics = false ∧ s.vm.findClass C = some cellB.cls)
    (hn : As.length = n0) (hsize : ls.size = nL) (hstack : st0 = As.reverse ++ .ref b :: rest) (hW : (rest.map fun v => v.category).sum ≤ 8) (hdg : decode cc pc = .ok (.invokevirtual index, 3))
    (kr : ∀ (v : Int32) (α' : mS) (H1 : Heap) (locs1 : List Loc), f = some (some (some v), α') → k v α' = some x → mI g A s α' H1 locs1 → W p l e (mR fr0 lo0) s m args below meth c H1 locs1 0 0 (vEQ below (mWQ g A x) args s A) (F0 m (pc + 3) ls (.int v :: rest))) :
    W p l e (mR fr0 lo0) s m args below meth c H locs 0 0 (vEQ below (mWQ g A x) args s A) (F0 m pc ls st0) := by
  obtain ⟨w1, w2, w3, w4, w5, w6⟩ := hw
  match f, hM, h, kr with
  | some (some (some v), α1), hM, h, kr =>
    refine vE_callV (A1 := A) (H0 := s.heap) S (hM _ rfl A) w1 w2 w3 w4 w5 w6 hR ⟨mB_blind, hrecv, hI.to E⟩ hn hsize hstack hW hdg ⟨Nat.le_refl _, Nat.le_refl _⟩ hno hlocks hI.2 (fun _ h => h) ?_ ?_
    · intro v1 st t H1 locs1 k n _ ht _ hq _ _ hS1
      obtain ⟨α', ⟨rfl, hq2⟩, hB, -, hk1, hk2⟩ := hq
      cases hq2
      subst hk1; subst hk2
      exact kr v α' H1 locs1 rfl h ⟨by rw [← ht]; exact hB.1, hS1⟩
    · intro x st t t' H1 k n _ ht ht' hWt' hal hq hz hk
      obtain ⟨α', hq2, -⟩ := hq
      cases hq2.2
  | some (none, α1), hM, h, kr => cases h
  | some (some none, α1), hM, h, kr => cases h
  | none, hM, h, kr => cases h
theorem mg_ldcw (hexec : p.tables.exec = Jvm.exec) (hb : c.code = cc) {tx : String} {Q : State → Prop} (hown : s.vm.findClass own = some m.cls) (hZ : vk_R own index tx q s) (hdg : decode cc pc = .ok (.ldc_w index, 3))
    (kk : W p l e R s m args below meth c H locs cells slots Q (F0 m (pc + 3) ls (.ref q :: rest))) : W p l e R s m args below meth c H locs cells slots Q (F0 m pc ls rest) := by
  intro T hT X
  obtain ⟨t, a1, b1⟩ := kk T hT X
  exact ⟨t, X.ldcStringW hexec hown (text := tx) (a := q) hZ.1 hZ.2 (g := F0 m pc ls rest) rfl (by rw [hb]; exact hdg) t a1, b1⟩
theorem ml_ar {r : Nat} {i : Int32} {Q : State → Prop} (hr : r = 0 ∨ r = 9) (S : CallFix p m c cc nL s args vT own) (E : mE g A s) (hI : mI g A s α H locs) (hin : vp_in i (mSz r)) (hdg : decode cc pc = .ok (.baload, 1)) (kk : W p l e R s m args below meth c H locs cells slots Q (F0 m (pc + 1) ls (.int (α.2 r i.toNatClampNeg) :: rest))) : W p l e R s m args below meth c H locs cells slots Q (F0 m pc ls (.int i :: .ref (mad g (1 + r)) :: rest)) := by
  rcases hr with rfl | rfl
  · exact ml_tape S E hI hin hdg kk
  · exact ml_words S E hI hin hdg kk
end MRU
