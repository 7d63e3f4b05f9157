-- a walk begun anew at a later state of the same method; throwing from any state; the consequence rule; calls of static methods with two ends
section VRB
variable {p : Program} {l : Launch} {e : Env} {R : Room} {s : State} {m : MethodId} {args : Array Value} {below : List Frame} {meth : Method} {c : Code} {T : State} {locs : List Loc} {cells slots : Nat}
/-- the room that is left -/
def vr_room (R : Room) (cells slots : Nat) : Room := { R with cells := R.cells - cells, slots := R.slots - slots }
theorem vr_base (X : Stand p l e R s m args below meth c T locs cells slots) (hc : cells ≤ R.cells) (hs : slots ≤ R.slots) :
    Stand p l e (vr_room R cells slots) (T.setFrames (.invoking m args :: below)) m args below meth c T [] 0 0 := by
  obtain ⟨g₀, hfr⟩ := X.frames_eq
  obtain ⟨th, hth, -⟩ := State.frames_cons hfr
  have hcur : T.cur < T.threads.size := (Array.getElem?_eq_some_iff.mp hth).1
  have hF : (T.setFrames (.invoking m args :: below)).frames = .invoking m args :: below := State.frames_setFrames _ hcur
  have hU : (T.setFrames (.invoking m args :: below)).localsInUse = stackWeight below + vmFrameWords + (c.maxLocals + 11) := State.localsInUse_invoking hF (meth := meth) (c := c) X.method' X.code
  have hv : ∀ z, (T.setFrames (.invoking m args :: below)).vm.method? z = s.vm.method? z := fun z => X.warmed.alike.method? z
  have hcd : ∀ z, (T.setFrames (.invoking m args :: below)).code? z = s.code? z := fun z => by rw [State.code?_eq, State.code?_eq, hv]
  refine ⟨X.admits, X.cas, X.clock, hF, ?_, ?_, X.method', X.code, X.here, X.tail, State.WarmedH.refl _, (State.stackLimits_setFrames ..).symm, (State.stackBytes_setFrames ..).symm, ?_⟩
  · obtain ⟨r1, r2, r3, r4⟩ := State.hasRoom_stack X.room
    have r5 := State.hasRoom_real X.room
    have h := X.room
    simp only [State.hasRoom, Bool.and_eq_true, decide_eq_true_eq] at h
    rw [State.localsInUse_invoking X.frames X.method X.code] at r3 r4 r5
    rw [X.frames, List.length_cons] at r1 r2
    simp only [State.hasRoom, Bool.and_eq_true, decide_eq_true_eq, hF, hU, List.length_cons, State.stackLimits_setFrames, State.stackBytes_setFrames, X.limits, X.bytes]
    have q1 := X.heapSize
    have q2 := X.used
    have q3 := h.1.1.2
    have q4 := h.1.2
    have e1 : (vr_room R cells slots).locals = R.locals := rfl
    have e2 : (vr_room R cells slots).frames = R.frames := rfl
    have e3 : (vr_room R cells slots).cells = R.cells - cells := rfl
    have e4 : (vr_room R cells slots).slots = R.slots - slots := rfl
    rw [e1, e2, e3, e4]
    refine ⟨⟨⟨⟨by omega, by omega, by omega, by omega, by omega, h.1.1.1.2.2.2.2.2⟩, ?_⟩, ?_⟩, X.book⟩
    · show T.heap.size + (R.cells - cells) ≤ _
      omega
    · show T.slotsUsed + (R.slots - slots) ≤ _
      omega
  · have h := X.hears
    cases below with
    | nil => simp only [State.hears, hv] at h ⊢; exact h
    | cons f r => cases f <;> simp only [State.hears, hv, hcd] at h ⊢ <;> exact h
  · have hcur' : (T.setFrames (.invoking m args :: below)).cur < (T.setFrames (.invoking m args :: below)).threads.size := State.cur_lt_of_frames hF
    obtain ⟨th', hth', -⟩ := State.frames_cons hF
    have h := (State.sameButNew.refl (T.setFrames (.invoking m args :: below)) hth').setFrames T.frames hcur'
    rw [State.setFrames_setFrames, State.setFrames_self hth] at h
    exact h
/-- what was done since the walk was begun anew, seen from the method's entry -/
theorem vr_same (X : Stand p l e R s m args below meth c T locs cells slots) {t : State} {L : List Loc} {k n : Nat} (hW : (T.setFrames (.invoking m args :: below)).WarmedH t.vm) (h : (T.setFrames (.invoking m args :: below)).sameButNew ({ t with vm := (T.setFrames (.invoking m args :: below)).vm } : State) L k n) :
    s.WarmedH t.vm ∧ s.sameButNew ({ t with vm := s.vm } : State) (locs ++ L) (cells + k) (slots + n) := by
  obtain ⟨g₀, hfr⟩ := X.frames_eq
  obtain ⟨th, hth, -⟩ := State.frames_cons hfr
  have hcur : T.cur < T.threads.size := (Array.getElem?_eq_some_iff.mp hth).1
  refine ⟨State.WarmedH.trans X.warmed hW, ?_⟩
  have h1 : s.sameButNew ((T.setVm s.vm).setFrames (.invoking m args :: below)) locs cells slots := X.same.setFrames _ X.cur
  have h2 := h1.trans (h.setVm s.vm)
  exact h2
end VRB
