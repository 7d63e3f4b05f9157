/-! THE CLAIM OUT OF ONE WALK OF THE LAW'S BODY. Your part is whole_start (and what it stands on); all else here is the same for every law, but numbers. -/
def R_law : String := "FamilyKernelLaw"
def lw_P (b : Addr) (xs : List Int32) (args : Array Value) (s : State) : Prop := args = #[.ref b] ∧ s.IntsAt b xs ∧ xs.length ≤ 3072 ∧ (Jvm.Cond.and given_1 narrow_1).before args s = true
def lw_Q (_ : Array Value) (s : State) (o : Outcome) (t : State) : Prop := o = .returned (some (.int 1)) ∧ Framed s o t [] 234476 8392676
def lw_Z (below : List Frame) (a : Array Value) (s : State) : State → Prop := fun t => ∃ o, t.status = .running ∧ Ended t below o ∧ lw_Q a s o t
/-- the law's own end, with 1 on the stack, nothing written that was there before, its room as the claim has it -/
theorem lw_ret {p : Program} {l : Launch} {e : Env} {s : State} {m : MethodId} {below : List Frame} {meth : Method} {c : Code} {b : Nat} (hx : p.tables.exec = Jvm.exec) (hb : c.code = code) (hr : meth.sig.returnType = ret) (hlocks : meth.locks = false) {pc : Nat} {H : Heap} {ls : Array Slot} (hdg : decode code pc = .ok (.ireturn, 1)) : W p l e room_1 s m #[Value.ref b] below meth c H [] 234476 8392676 (lw_Z below #[Value.ref b] s) (F0 m pc ls [.int 1]) := by
  intro T hT X
  obtain ⟨fs, hret, hrun, hended, hW, hframe⟩ := X.leave (v := some (.int 1)) (hlocks := hlocks) (fun h => by rw [hr] at h; cases h)
  have hmeth' : T.vm.method? m = some meth := X.method'
  refine ⟨T.setFrames fs, ?_, .returned (some (.int 1)), hrun, hended, rfl, ⟨_, rfl⟩, hW, hframe⟩
  jvm_step X.here [X.here.top, hx, hb, hdg, hmeth', hr, ret, narrow_b1]
  (try refine ⟨rfl, ?_⟩); (try refine ⟨rfl, ?_⟩)
  first | (intro acts; rw [hret _ acts rfl rfl rfl]) | rw [hret _ _ rfl rfl rfl]
  exact Steps.refl _
/-- what holds at the law's entry: the machine, the code, the tables' words (any of lw_tbl by 'hts w (by decide +kernel)'), the script of L ints xs at the cell b, what the Statement gives of the start (any of its parts by flat_of_before) -/
def lw_At (p : Program) (s : State) (m : MethodId) (meth : Method) (c : Code) (b L : Nat) (xs : Nat → Int32) : Prop :=
  p.tables.exec = Jvm.exec ∧ c.code = code ∧ meth.sig.returnType = ret ∧ c.maxLocals = 7 ∧ s.vm.findClass R_law = some m.cls ∧ (∀ w ∈ lw_tbl, w.before #[Value.ref b] s = true) ∧ va_X b L xs s s.heap ∧ b < s.heap.size ∧ meth.locks = false ∧ (Jvm.Cond.and given_1 narrow_1).before #[Value.ref b] s = true
abbrev b_Law_law : ByteArray := code
/-- what was paid before the k-th call; in the midst of it -/
def lPC (k : Nat) (α : kS) (cells slots : Nat) : Prop := 32 * cells + 5504 ≤ 32 * 104 + kF α + 64 * k ∧ slots + 5504 ≤ 2672977 + kF α + 14 * k
def lPD (k : Nat) (α : kS) (cells slots : Nat) : Prop := 32 * cells + 5504 ≤ 32 * 104 + kF α + 64 * k + 32 ∧ slots + 5504 ≤ 2672977 + kF α + 14 * k + 6
theorem lPC.room {k cells slots : Nat} {α : kS} (h : lPC k α cells slots) (hF : kF α ≤ kM) (hk : k < 512) : (cells + ((kM - kF α) / 32 + 2) ≤ 234476 ∧ slots + (kM - kF α + 12) ≤ 8392676) ∧ cells ≤ 234476 ∧ slots ≤ 8392676 := by
  have := kM_is
  obtain ⟨h1, h2⟩ := h
  refine ⟨⟨?_, ?_⟩, ?_, ?_⟩ <;> omega
theorem lPD.room {k cells slots : Nat} {α : kS} (h : lPD k α cells slots) (hF : kF α ≤ kM) (hk : k < 512) : (cells + 1 ≤ 234476 ∧ slots + 8 ≤ 8392676) ∧ cells ≤ 234476 ∧ slots ≤ 8392676 := by
  have := kM_is
  obtain ⟨h1, h2⟩ := h
  refine ⟨⟨?_, ?_⟩, ?_, ?_⟩ <;> omega
theorem lPC.d {k cells slots k1 n1 : Nat} {α α' : kS} (h : lPC k α cells slots) (h1 : n1 + kF α ≤ kF α' + 6) (h2 : 32 * k1 + kF α ≤ kF α' + 32) : lPD k α' (cells + k1) (slots + n1) := by
  obtain ⟨a, b⟩ := h
  exact ⟨by omega, by omega⟩
theorem lPC.d0 {k cells slots : Nat} {α : kS} (h : lPC k α cells slots) : lPD k α cells slots := by
  obtain ⟨a, b⟩ := h
  exact ⟨by omega, by omega⟩
theorem lPD.n {k cells slots k1 n1 : Nat} {α : kS} (h : lPD k α cells slots) (h1 : k1 ≤ 1) (h2 : n1 ≤ 8) : lPC (k + 1) α (cells + k1) (slots + n1) := by
  obtain ⟨a, b⟩ := h
  exact ⟨by omega, by omega⟩
theorem lPD.n0 {k cells slots : Nat} {α : kS} (h : lPD k α cells slots) : lPC (k + 1) α cells slots := h.n (k1 := 0) (n1 := 0) (by decide) (by decide)
theorem lPC.end {k cells slots : Nat} {α : kS} (h : lPC k α cells slots) (hF : kF α ≤ kM) (hk : k ≤ 512) : cells ≤ 234476 ∧ slots ≤ 8392676 := by
  have := kM_is
  obtain ⟨h1, h2⟩ := h
  exact ⟨by omega, by omega⟩
theorem lg_self (x : Int64) : lg_cmp x x = 0 := by
  unfold lg_cmp
  rw [if_neg (by exact Int64.lt_irrefl), if_pos rfl]
