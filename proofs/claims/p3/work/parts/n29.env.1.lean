theorem lNC.of {a b : String} {args : Array Value} {s : State} (h : (Cond.not (.castable a b)).before args s = true) : lNC a b s := by
  simp only [Cond.before, Cond.holds, Cond.value] at h
  cases h1 : s.vm.findClass a with
  | none => simp [h1] at h
  | some c1 =>
    cases h2 : s.vm.findClass b with
    | none => simp [h1, h2] at h
    | some c2 =>
      refine ⟨c1, c2, h1, h2, ?_⟩
      cases h3 : s.vm.assignable c1 c2 with
      | false => rfl
      | true => simp [h1, h2, h3] at h
/-- a text of the program -/
theorem str_of {own tx : String} {k n : Nat} {bs : List Int32} {A : Nat → Prop} {args : Array Value} {s : State} (hn : n < 2 ^ 31) (h0 : (Cond.stringRef own k tx).before args s = true) (h1 : (Cond.exactly (.string own k) "java/lang/String").before args s = true) (h2 : (Cond.eq (.field (.string own k) "java/lang/String" "coder" "B") (.int 0)).before args s = true) (h3 : (Cond.arrayOf (.field (.string own k) "java/lang/String" "value" "[B") .byte).before args s = true) (h4 : (Cond.eq (.length (.field (.string own k) "java/lang/String" "value" "[B")) (.int (Int32.ofNat n))).before args s = true)
    (h5 : ∀ j : Nat, j < n → (Cond.eq (.elem (.field (.string own k) "java/lang/String" "value" "[B") (.int (Int32.ofNat j))) (.int (bs.getD j 0))).before args s = true) (hA : ∀ a : Nat, a < s.heap.size → ¬ A a) :
    ∃ a v : Nat, (va_O "java/lang/String" a A s s.heap ∧ va_OF "java/lang/String" "coder" "B" (.int 0) a A s s.heap ∧ va_OF "java/lang/String" "value" "[B" (.ref v) a A s s.heap ∧ va_T .byte v n (fun j => .int (bs.getD j 0)) A s s.heap) ∧ vk_R own k tx a s := by
  obtain ⟨a, c, cell, kk, q1, -⟩ := Cond.exactly_spec h1
  obtain ⟨v, hv, hT⟩ := va_Tof hn h3 (va_eqt h4) (fun j hj => va_eqt (h5 j hj)) hA
  have of : ∀ {n d : String} {v : Value}, (Term.field (.string own k) "java/lang/String" n d).eval args s none [] s = some v → va_OF "java/lang/String" n d v a A s s.heap := fun {n d v} hv => by
    cases hfo : s.fieldFound? "java/lang/String" n d with
    | none =>
      rw [va_fe q1] at hv
      simp [State.fieldOf?, State.fieldNamed?, hfo] at hv
    | some x =>
      obtain ⟨cf, k, fi, f⟩ := x
      obtain ⟨g1, cell, g2, g3, -, -, g6⟩ := Term.field_spec hfo q1 hv
      exact ⟨cf, k, fi, f, cell, hfo, g1, g2, g3, g6, hA _ (Array.getElem?_eq_some_iff.mp g2).1⟩
  exact ⟨a, v, ⟨va_Oof h1 q1 hA, of (va_eqt h2), of hv, hT⟩, vk_R.of h0 q1⟩
set_option maxRecDepth 100000 in
theorem sx_0 {A : Nat → Prop} {b : Nat} {s : State} (hs : ∀ c ∈ flatC (Jvm.Cond.and given_1 narrow_1), c.before #[Value.ref b] s = true) (hts : ∀ w ∈ lw_tbl, w.before #[Value.ref b] s = true) (hA : ∀ a : Nat, a < s.heap.size → ¬ A a) :
    ∃ a v : Nat, (va_O "java/lang/String" a A s s.heap ∧ va_OF "java/lang/String" "coder" "B" (.int 0) a A s s.heap ∧ va_OF "java/lang/String" "value" "[B" (.ref v) a A s s.heap ∧ va_T .byte v 5 (fun j => .int (([97, 120, 105, 111, 109] : List Int32).getD j 0)) A s s.heap) ∧ vk_R "FamilyKernel$Lexer" 99 "axiom" a s :=
  str_of (by decide) (hts _ (List.mem_append_right _ (List.mem_of_getElem? (i := 478) rfl))) (hs _ (List.mem_of_getElem? (i := 96) rfl)) (hs _ (List.mem_of_getElem? (i := 97) rfl)) (hs _ (List.mem_of_getElem? (i := 98) rfl)) (hs _ (List.mem_of_getElem? (i := 99) rfl)) (fun j hj => match j, hj with
    | 0, _ => (hs _ (List.mem_of_getElem? (i := 100) rfl))
    | 1, _ => (hs _ (List.mem_of_getElem? (i := 101) rfl))
    | 2, _ => (hs _ (List.mem_of_getElem? (i := 102) rfl))
    | 3, _ => (hs _ (List.mem_of_getElem? (i := 103) rfl))
    | 4, _ => (hs _ (List.mem_of_getElem? (i := 104) rfl))
    | j + 5, h => absurd h (by omega)) hA
set_option maxRecDepth 100000 in
theorem sx_1 {A : Nat → Prop} {b : Nat} {s : State} (hs : ∀ c ∈ flatC (Jvm.Cond.and given_1 narrow_1), c.before #[Value.ref b] s = true) (hts : ∀ w ∈ lw_tbl, w.before #[Value.ref b] s = true) (hA : ∀ a : Nat, a < s.heap.size → ¬ A a) :
    ∃ a v : Nat, (va_O "java/lang/String" a A s s.heap ∧ va_OF "java/lang/String" "coder" "B" (.int 0) a A s s.heap ∧ va_OF "java/lang/String" "value" "[B" (.ref v) a A s s.heap ∧ va_T .byte v 3 (fun j => .int (([100, 101, 102] : List Int32).getD j 0)) A s s.heap) ∧ vk_R "FamilyKernel$Lexer" 105 "def" a s :=
  str_of (by decide) (hts _ (List.mem_append_right _ (List.mem_of_getElem? (i := 531) rfl))) (hs _ (List.mem_of_getElem? (i := 105) rfl)) (hs _ (List.mem_of_getElem? (i := 106) rfl)) (hs _ (List.mem_of_getElem? (i := 107) rfl)) (hs _ (List.mem_of_getElem? (i := 108) rfl)) (fun j hj => match j, hj with
    | 0, _ => (hs _ (List.mem_of_getElem? (i := 109) rfl))
    | 1, _ => (hs _ (List.mem_of_getElem? (i := 110) rfl))
    | 2, _ => (hs _ (List.mem_of_getElem? (i := 111) rfl))
    | j + 3, h => absurd h (by omega)) hA
set_option maxRecDepth 100000 in
theorem sx_2 {A : Nat → Prop} {b : Nat} {s : State} (hs : ∀ c ∈ flatC (Jvm.Cond.and given_1 narrow_1), c.before #[Value.ref b] s = true) (hts : ∀ w ∈ lw_tbl, w.before #[Value.ref b] s = true) (hA : ∀ a : Nat, a < s.heap.size → ¬ A a) :
    ∃ a v : Nat, (va_O "java/lang/String" a A s s.heap ∧ va_OF "java/lang/String" "coder" "B" (.int 0) a A s s.heap ∧ va_OF "java/lang/String" "value" "[B" (.ref v) a A s s.heap ∧ va_T .byte v 7 (fun j => .int (([116, 104, 101, 111, 114, 101, 109] : List Int32).getD j 0)) A s s.heap) ∧ vk_R "FamilyKernel$Lexer" 107 "theorem" a s :=
  str_of (by decide) (hts _ (List.mem_append_right _ (List.mem_of_getElem? (i := 532) rfl))) (hs _ (List.mem_of_getElem? (i := 112) rfl)) (hs _ (List.mem_of_getElem? (i := 113) rfl)) (hs _ (List.mem_of_getElem? (i := 114) rfl)) (hs _ (List.mem_of_getElem? (i := 115) rfl)) (fun j hj => match j, hj with
    | 0, _ => (hs _ (List.mem_of_getElem? (i := 116) rfl))
    | 1, _ => (hs _ (List.mem_of_getElem? (i := 117) rfl))
    | 2, _ => (hs _ (List.mem_of_getElem? (i := 118) rfl))
    | 3, _ => (hs _ (List.mem_of_getElem? (i := 119) rfl))
    | 4, _ => (hs _ (List.mem_of_getElem? (i := 120) rfl))
    | 5, _ => (hs _ (List.mem_of_getElem? (i := 121) rfl))
    | 6, _ => (hs _ (List.mem_of_getElem? (i := 122) rfl))
    | j + 7, h => absurd h (by omega)) hA
set_option maxRecDepth 100000 in
theorem sx_3 {A : Nat → Prop} {b : Nat} {s : State} (hs : ∀ c ∈ flatC (Jvm.Cond.and given_1 narrow_1), c.before #[Value.ref b] s = true) (hts : ∀ w ∈ lw_tbl, w.before #[Value.ref b] s = true) (hA : ∀ a : Nat, a < s.heap.size → ¬ A a) :
    ∃ a v : Nat, (va_O "java/lang/String" a A s s.heap ∧ va_OF "java/lang/String" "coder" "B" (.int 0) a A s s.heap ∧ va_OF "java/lang/String" "value" "[B" (.ref v) a A s s.heap ∧ va_T .byte v 5 (fun j => .int (([99, 104, 101, 99, 107] : List Int32).getD j 0)) A s s.heap) ∧ vk_R "FamilyKernel$Lexer" 109 "check" a s :=
  str_of (by decide) (hts _ (List.mem_append_right _ (List.mem_of_getElem? (i := 533) rfl))) (hs _ (List.mem_of_getElem? (i := 123) rfl)) (hs _ (List.mem_of_getElem? (i := 124) rfl)) (hs _ (List.mem_of_getElem? (i := 125) rfl)) (hs _ (List.mem_of_getElem? (i := 126) rfl)) (fun j hj => match j, hj with
    | 0, _ => (hs _ (List.mem_of_getElem? (i := 127) rfl))
    | 1, _ => (hs _ (List.mem_of_getElem? (i := 128) rfl))
    | 2, _ => (hs _ (List.mem_of_getElem? (i := 129) rfl))
    | 3, _ => (hs _ (List.mem_of_getElem? (i := 130) rfl))
    | 4, _ => (hs _ (List.mem_of_getElem? (i := 131) rfl))
    | j + 5, h => absurd h (by omega)) hA
set_option maxRecDepth 100000 in
theorem sx_4 {A : Nat → Prop} {b : Nat} {s : State} (hs : ∀ c ∈ flatC (Jvm.Cond.and given_1 narrow_1), c.before #[Value.ref b] s = true) (hts : ∀ w ∈ lw_tbl, w.before #[Value.ref b] s = true) (hA : ∀ a : Nat, a < s.heap.size → ¬ A a) :
    ∃ a v : Nat, (va_O "java/lang/String" a A s s.heap ∧ va_OF "java/lang/String" "coder" "B" (.int 0) a A s s.heap ∧ va_OF "java/lang/String" "value" "[B" (.ref v) a A s s.heap ∧ va_T .byte v 4 (fun j => .int (([101, 118, 97, 108] : List Int32).getD j 0)) A s s.heap) ∧ vk_R "FamilyKernel$Lexer" 111 "eval" a s :=
  str_of (by decide) (hts _ (List.mem_append_right _ (List.mem_of_getElem? (i := 534) rfl))) (hs _ (List.mem_of_getElem? (i := 132) rfl)) (hs _ (List.mem_of_getElem? (i := 133) rfl)) (hs _ (List.mem_of_getElem? (i := 134) rfl)) (hs _ (List.mem_of_getElem? (i := 135) rfl)) (fun j hj => match j, hj with
    | 0, _ => (hs _ (List.mem_of_getElem? (i := 136) rfl))
    | 1, _ => (hs _ (List.mem_of_getElem? (i := 137) rfl))
    | 2, _ => (hs _ (List.mem_of_getElem? (i := 138) rfl))
    | 3, _ => (hs _ (List.mem_of_getElem? (i := 139) rfl))
    | j + 4, h => absurd h (by omega)) hA
set_option maxRecDepth 100000 in
theorem sx_5 {A : Nat → Prop} {b : Nat} {s : State} (hs : ∀ c ∈ flatC (Jvm.Cond.and given_1 narrow_1), c.before #[Value.ref b] s = true) (hts : ∀ w ∈ lw_tbl, w.before #[Value.ref b] s = true) (hA : ∀ a : Nat, a < s.heap.size → ¬ A a) :
    ∃ a v : Nat, (va_O "java/lang/String" a A s s.heap ∧ va_OF "java/lang/String" "coder" "B" (.int 0) a A s s.heap ∧ va_OF "java/lang/String" "value" "[B" (.ref v) a A s s.heap ∧ va_T .byte v 3 (fun j => .int (([108, 101, 116] : List Int32).getD j 0)) A s s.heap) ∧ vk_R "FamilyKernel$Lexer" 113 "let" a s :=
  str_of (by decide) (hts _ (List.mem_append_right _ (List.mem_of_getElem? (i := 535) rfl))) (hs _ (List.mem_of_getElem? (i := 140) rfl)) (hs _ (List.mem_of_getElem? (i := 141) rfl)) (hs _ (List.mem_of_getElem? (i := 142) rfl)) (hs _ (List.mem_of_getElem? (i := 143) rfl)) (fun j hj => match j, hj with
    | 0, _ => (hs _ (List.mem_of_getElem? (i := 144) rfl))
    | 1, _ => (hs _ (List.mem_of_getElem? (i := 145) rfl))
    | 2, _ => (hs _ (List.mem_of_getElem? (i := 146) rfl))
    | j + 3, h => absurd h (by omega)) hA
set_option maxRecDepth 100000 in
theorem sx_6 {A : Nat → Prop} {b : Nat} {s : State} (hs : ∀ c ∈ flatC (Jvm.Cond.and given_1 narrow_1), c.before #[Value.ref b] s = true) (hts : ∀ w ∈ lw_tbl, w.before #[Value.ref b] s = true) (hA : ∀ a : Nat, a < s.heap.size → ¬ A a) :
    ∃ a v : Nat, (va_O "java/lang/String" a A s s.heap ∧ va_OF "java/lang/String" "coder" "B" (.int 0) a A s s.heap ∧ va_OF "java/lang/String" "value" "[B" (.ref v) a A s s.heap ∧ va_T .byte v 3 (fun j => .int (([114, 101, 99] : List Int32).getD j 0)) A s s.heap) ∧ vk_R "FamilyKernel$Lexer" 115 "rec" a s :=
  str_of (by decide) (hts _ (List.mem_append_right _ (List.mem_of_getElem? (i := 536) rfl))) (hs _ (List.mem_of_getElem? (i := 147) rfl)) (hs _ (List.mem_of_getElem? (i := 148) rfl)) (hs _ (List.mem_of_getElem? (i := 149) rfl)) (hs _ (List.mem_of_getElem? (i := 150) rfl)) (fun j hj => match j, hj with
    | 0, _ => (hs _ (List.mem_of_getElem? (i := 151) rfl))
    | 1, _ => (hs _ (List.mem_of_getElem? (i := 152) rfl))
    | 2, _ => (hs _ (List.mem_of_getElem? (i := 153) rfl))
    | j + 3, h => absurd h (by omega)) hA
set_option maxRecDepth 100000 in
theorem sx_7 {A : Nat → Prop} {b : Nat} {s : State} (hs : ∀ c ∈ flatC (Jvm.Cond.and given_1 narrow_1), c.before #[Value.ref b] s = true) (hts : ∀ w ∈ lw_tbl, w.before #[Value.ref b] s = true) (hA : ∀ a : Nat, a < s.heap.size → ¬ A a) :
    ∃ a v : Nat, (va_O "java/lang/String" a A s s.heap ∧ va_OF "java/lang/String" "coder" "B" (.int 0) a A s s.heap ∧ va_OF "java/lang/String" "value" "[B" (.ref v) a A s s.heap ∧ va_T .byte v 4 (fun j => .int (([80, 114, 111, 112] : List Int32).getD j 0)) A s s.heap) ∧ vk_R "FamilyKernel$Lexer" 117 "Prop" a s :=
  str_of (by decide) (hts _ (List.mem_append_right _ (List.mem_of_getElem? (i := 537) rfl))) (hs _ (List.mem_of_getElem? (i := 154) rfl)) (hs _ (List.mem_of_getElem? (i := 155) rfl)) (hs _ (List.mem_of_getElem? (i := 156) rfl)) (hs _ (List.mem_of_getElem? (i := 157) rfl)) (fun j hj => match j, hj with
    | 0, _ => (hs _ (List.mem_of_getElem? (i := 158) rfl))
    | 1, _ => (hs _ (List.mem_of_getElem? (i := 159) rfl))
    | 2, _ => (hs _ (List.mem_of_getElem? (i := 160) rfl))
    | 3, _ => (hs _ (List.mem_of_getElem? (i := 161) rfl))
    | j + 4, h => absurd h (by omega)) hA
set_option maxRecDepth 100000 in
theorem sx_8 {A : Nat → Prop} {b : Nat} {s : State} (hs : ∀ c ∈ flatC (Jvm.Cond.and given_1 narrow_1), c.before #[Value.ref b] s = true) (hts : ∀ w ∈ lw_tbl, w.before #[Value.ref b] s = true) (hA : ∀ a : Nat, a < s.heap.size → ¬ A a) :
    ∃ a v : Nat, (va_O "java/lang/String" a A s s.heap ∧ va_OF "java/lang/String" "coder" "B" (.int 0) a A s s.heap ∧ va_OF "java/lang/String" "value" "[B" (.ref v) a A s s.heap ∧ va_T .byte v 4 (fun j => .int (([84, 121, 112, 101] : List Int32).getD j 0)) A s s.heap) ∧ vk_R "FamilyKernel$Lexer" 119 "Type" a s :=
  str_of (by decide) (hts _ (List.mem_append_right _ (List.mem_of_getElem? (i := 538) rfl))) (hs _ (List.mem_of_getElem? (i := 162) rfl)) (hs _ (List.mem_of_getElem? (i := 163) rfl)) (hs _ (List.mem_of_getElem? (i := 164) rfl)) (hs _ (List.mem_of_getElem? (i := 165) rfl)) (fun j hj => match j, hj with
    | 0, _ => (hs _ (List.mem_of_getElem? (i := 166) rfl))
    | 1, _ => (hs _ (List.mem_of_getElem? (i := 167) rfl))
    | 2, _ => (hs _ (List.mem_of_getElem? (i := 168) rfl))
    | 3, _ => (hs _ (List.mem_of_getElem? (i := 169) rfl))
    | j + 4, h => absurd h (by omega)) hA
set_option maxRecDepth 100000 in
theorem sx_9 {A : Nat → Prop} {b : Nat} {s : State} (hs : ∀ c ∈ flatC (Jvm.Cond.and given_1 narrow_1), c.before #[Value.ref b] s = true) (hts : ∀ w ∈ lw_tbl, w.before #[Value.ref b] s = true) (hA : ∀ a : Nat, a < s.heap.size → ¬ A a) :
    ∃ a v : Nat, (va_O "java/lang/String" a A s s.heap ∧ va_OF "java/lang/String" "coder" "B" (.int 0) a A s s.heap ∧ va_OF "java/lang/String" "value" "[B" (.ref v) a A s s.heap ∧ va_T .byte v 2 (fun j => .int (([105, 110] : List Int32).getD j 0)) A s s.heap) ∧ vk_R "FamilyKernel$Lexer" 121 "in" a s :=
  str_of (by decide) (hts _ (List.mem_append_right _ (List.mem_of_getElem? (i := 539) rfl))) (hs _ (List.mem_of_getElem? (i := 170) rfl)) (hs _ (List.mem_of_getElem? (i := 171) rfl)) (hs _ (List.mem_of_getElem? (i := 172) rfl)) (hs _ (List.mem_of_getElem? (i := 173) rfl)) (fun j hj => match j, hj with
    | 0, _ => (hs _ (List.mem_of_getElem? (i := 174) rfl))
    | 1, _ => (hs _ (List.mem_of_getElem? (i := 175) rfl))
    | j + 2, h => absurd h (by omega)) hA
set_option maxRecDepth 100000 in
theorem sx_10 {A : Nat → Prop} {b : Nat} {s : State} (hs : ∀ c ∈ flatC (Jvm.Cond.and given_1 narrow_1), c.before #[Value.ref b] s = true) (hts : ∀ w ∈ lw_tbl, w.before #[Value.ref b] s = true) (hA : ∀ a : Nat, a < s.heap.size → ¬ A a) :
    ∃ a v : Nat, (va_O "java/lang/String" a A s s.heap ∧ va_OF "java/lang/String" "coder" "B" (.int 0) a A s s.heap ∧ va_OF "java/lang/String" "value" "[B" (.ref v) a A s s.heap ∧ va_T .byte v 9 (fun j => .int (([105, 110, 100, 117, 99, 116, 105, 118, 101] : List Int32).getD j 0)) A s s.heap) ∧ vk_R "FamilyKernel$Lexer" 123 "inductive" a s :=
  str_of (by decide) (hts _ (List.mem_append_right _ (List.mem_of_getElem? (i := 540) rfl))) (hs _ (List.mem_of_getElem? (i := 176) rfl)) (hs _ (List.mem_of_getElem? (i := 177) rfl)) (hs _ (List.mem_of_getElem? (i := 178) rfl)) (hs _ (List.mem_of_getElem? (i := 179) rfl)) (fun j hj => match j, hj with
    | 0, _ => (hs _ (List.mem_of_getElem? (i := 180) rfl))
    | 1, _ => (hs _ (List.mem_of_getElem? (i := 181) rfl))
    | 2, _ => (hs _ (List.mem_of_getElem? (i := 182) rfl))
    | 3, _ => (hs _ (List.mem_of_getElem? (i := 183) rfl))
    | 4, _ => (hs _ (List.mem_of_getElem? (i := 184) rfl))
    | 5, _ => (hs _ (List.mem_of_getElem? (i := 185) rfl))
    | 6, _ => (hs _ (List.mem_of_getElem? (i := 186) rfl))
    | 7, _ => (hs _ (List.mem_of_getElem? (i := 187) rfl))
    | 8, _ => (hs _ (List.mem_of_getElem? (i := 188) rfl))
    | j + 9, h => absurd h (by omega)) hA
set_option maxRecDepth 100000 in
theorem sx_11 {A : Nat → Prop} {b : Nat} {s : State} (hs : ∀ c ∈ flatC (Jvm.Cond.and given_1 narrow_1), c.before #[Value.ref b] s = true) (hts : ∀ w ∈ lw_tbl, w.before #[Value.ref b] s = true) (hA : ∀ a : Nat, a < s.heap.size → ¬ A a) :
    ∃ a v : Nat, (va_O "java/lang/String" a A s s.heap ∧ va_OF "java/lang/String" "coder" "B" (.int 0) a A s s.heap ∧ va_OF "java/lang/String" "value" "[B" (.ref v) a A s s.heap ∧ va_T .byte v 3 (fun j => .int (([102, 117, 110] : List Int32).getD j 0)) A s s.heap) ∧ vk_R "FamilyKernel$Lexer" 125 "fun" a s :=
  str_of (by decide) (hts _ (List.mem_append_right _ (List.mem_of_getElem? (i := 541) rfl))) (hs _ (List.mem_of_getElem? (i := 189) rfl)) (hs _ (List.mem_of_getElem? (i := 190) rfl)) (hs _ (List.mem_of_getElem? (i := 191) rfl)) (hs _ (List.mem_of_getElem? (i := 192) rfl)) (fun j hj => match j, hj with
    | 0, _ => (hs _ (List.mem_of_getElem? (i := 193) rfl))
    | 1, _ => (hs _ (List.mem_of_getElem? (i := 194) rfl))
    | 2, _ => (hs _ (List.mem_of_getElem? (i := 195) rfl))
    | j + 3, h => absurd h (by omega)) hA
set_option maxRecDepth 100000 in
theorem sx_12 {A : Nat → Prop} {b : Nat} {s : State} (hs : ∀ c ∈ flatC (Jvm.Cond.and given_1 narrow_1), c.before #[Value.ref b] s = true) (hts : ∀ w ∈ lw_tbl, w.before #[Value.ref b] s = true) (hA : ∀ a : Nat, a < s.heap.size → ¬ A a) :
    ∃ a v : Nat, (va_O "java/lang/String" a A s s.heap ∧ va_OF "java/lang/String" "coder" "B" (.int 0) a A s s.heap ∧ va_OF "java/lang/String" "value" "[B" (.ref v) a A s s.heap ∧ va_T .byte v 6 (fun j => .int (([102, 111, 114, 97, 108, 108] : List Int32).getD j 0)) A s s.heap) ∧ vk_R "FamilyKernel$Lexer" 127 "forall" a s :=
  str_of (by decide) (hts _ (List.mem_append_right _ (List.mem_of_getElem? (i := 542) rfl))) (hs _ (List.mem_of_getElem? (i := 196) rfl)) (hs _ (List.mem_of_getElem? (i := 197) rfl)) (hs _ (List.mem_of_getElem? (i := 198) rfl)) (hs _ (List.mem_of_getElem? (i := 199) rfl)) (fun j hj => match j, hj with
    | 0, _ => (hs _ (List.mem_of_getElem? (i := 200) rfl))
    | 1, _ => (hs _ (List.mem_of_getElem? (i := 201) rfl))
    | 2, _ => (hs _ (List.mem_of_getElem? (i := 202) rfl))
    | 3, _ => (hs _ (List.mem_of_getElem? (i := 203) rfl))
    | 4, _ => (hs _ (List.mem_of_getElem? (i := 204) rfl))
    | 5, _ => (hs _ (List.mem_of_getElem? (i := 205) rfl))
    | j + 6, h => absurd h (by omega)) hA
set_option maxRecDepth 100000 in
theorem sx_13 {A : Nat → Prop} {b : Nat} {s : State} (hs : ∀ c ∈ flatC (Jvm.Cond.and given_1 narrow_1), c.before #[Value.ref b] s = true) (hts : ∀ w ∈ lw_tbl, w.before #[Value.ref b] s = true) (hA : ∀ a : Nat, a < s.heap.size → ¬ A a) :
    ∃ a v : Nat, (va_O "java/lang/String" a A s s.heap ∧ va_OF "java/lang/String" "coder" "B" (.int 0) a A s s.heap ∧ va_OF "java/lang/String" "value" "[B" (.ref v) a A s s.heap ∧ va_T .byte v 1 (fun j => .int (([41] : List Int32).getD j 0)) A s s.heap) ∧ vk_R "FamilyKernel$Printer" 98 ")" a s :=
  str_of (by decide) (hts _ (List.mem_append_right _ (List.mem_of_getElem? (i := 1465) rfl))) (hs _ (List.mem_of_getElem? (i := 206) rfl)) (hs _ (List.mem_of_getElem? (i := 207) rfl)) (hs _ (List.mem_of_getElem? (i := 208) rfl)) (hs _ (List.mem_of_getElem? (i := 209) rfl)) (fun j hj => match j, hj with
    | 0, _ => (hs _ (List.mem_of_getElem? (i := 210) rfl))
    | j + 1, h => absurd h (by omega)) hA
set_option maxRecDepth 100000 in
theorem sx_14 {A : Nat → Prop} {b : Nat} {s : State} (hs : ∀ c ∈ flatC (Jvm.Cond.and given_1 narrow_1), c.before #[Value.ref b] s = true) (hts : ∀ w ∈ lw_tbl, w.before #[Value.ref b] s = true) (hA : ∀ a : Nat, a < s.heap.size → ¬ A a) :
    ∃ a v : Nat, (va_O "java/lang/String" a A s s.heap ∧ va_OF "java/lang/String" "coder" "B" (.int 0) a A s s.heap ∧ va_OF "java/lang/String" "value" "[B" (.ref v) a A s s.heap ∧ va_T .byte v 1 (fun j => .int (([32] : List Int32).getD j 0)) A s s.heap) ∧ vk_R "FamilyKernel$Printer" 100 " " a s :=
  str_of (by decide) (hts _ (List.mem_append_right _ (List.mem_of_getElem? (i := 1472) rfl))) (hs _ (List.mem_of_getElem? (i := 211) rfl)) (hs _ (List.mem_of_getElem? (i := 212) rfl)) (hs _ (List.mem_of_getElem? (i := 213) rfl)) (hs _ (List.mem_of_getElem? (i := 214) rfl)) (fun j hj => match j, hj with
    | 0, _ => (hs _ (List.mem_of_getElem? (i := 215) rfl))
    | j + 1, h => absurd h (by omega)) hA
set_option maxRecDepth 100000 in
theorem sx_15 {A : Nat → Prop} {b : Nat} {s : State} (hs : ∀ c ∈ flatC (Jvm.Cond.and given_1 narrow_1), c.before #[Value.ref b] s = true) (hts : ∀ w ∈ lw_tbl, w.before #[Value.ref b] s = true) (hA : ∀ a : Nat, a < s.heap.size → ¬ A a) :
    ∃ a v : Nat, (va_O "java/lang/String" a A s s.heap ∧ va_OF "java/lang/String" "coder" "B" (.int 0) a A s s.heap ∧ va_OF "java/lang/String" "value" "[B" (.ref v) a A s s.heap ∧ va_T .byte v 4 (fun j => .int (([32, 45, 62, 32] : List Int32).getD j 0)) A s s.heap) ∧ vk_R "FamilyKernel$Printer" 102 " -> " a s :=
  str_of (by decide) (hts _ (List.mem_append_right _ (List.mem_of_getElem? (i := 1473) rfl))) (hs _ (List.mem_of_getElem? (i := 216) rfl)) (hs _ (List.mem_of_getElem? (i := 217) rfl)) (hs _ (List.mem_of_getElem? (i := 218) rfl)) (hs _ (List.mem_of_getElem? (i := 219) rfl)) (fun j hj => match j, hj with
    | 0, _ => (hs _ (List.mem_of_getElem? (i := 220) rfl))
    | 1, _ => (hs _ (List.mem_of_getElem? (i := 221) rfl))
    | 2, _ => (hs _ (List.mem_of_getElem? (i := 222) rfl))
    | 3, _ => (hs _ (List.mem_of_getElem? (i := 223) rfl))
    | j + 4, h => absurd h (by omega)) hA
set_option maxRecDepth 100000 in
theorem sx_16 {A : Nat → Prop} {b : Nat} {s : State} (hs : ∀ c ∈ flatC (Jvm.Cond.and given_1 narrow_1), c.before #[Value.ref b] s = true) (hts : ∀ w ∈ lw_tbl, w.before #[Value.ref b] s = true) (hA : ∀ a : Nat, a < s.heap.size → ¬ A a) :
    ∃ a v : Nat, (va_O "java/lang/String" a A s s.heap ∧ va_OF "java/lang/String" "coder" "B" (.int 0) a A s s.heap ∧ va_OF "java/lang/String" "value" "[B" (.ref v) a A s s.heap ∧ va_T .byte v 3 (fun j => .int (([41, 44, 32] : List Int32).getD j 0)) A s s.heap) ∧ vk_R "FamilyKernel$Printer" 104 "), " a s :=
  str_of (by decide) (hts _ (List.mem_append_right _ (List.mem_of_getElem? (i := 1474) rfl))) (hs _ (List.mem_of_getElem? (i := 224) rfl)) (hs _ (List.mem_of_getElem? (i := 225) rfl)) (hs _ (List.mem_of_getElem? (i := 226) rfl)) (hs _ (List.mem_of_getElem? (i := 227) rfl)) (fun j hj => match j, hj with
    | 0, _ => (hs _ (List.mem_of_getElem? (i := 228) rfl))
    | 1, _ => (hs _ (List.mem_of_getElem? (i := 229) rfl))
    | 2, _ => (hs _ (List.mem_of_getElem? (i := 230) rfl))
    | j + 3, h => absurd h (by omega)) hA
set_option maxRecDepth 100000 in
theorem sx_17 {A : Nat → Prop} {b : Nat} {s : State} (hs : ∀ c ∈ flatC (Jvm.Cond.and given_1 narrow_1), c.before #[Value.ref b] s = true) (hts : ∀ w ∈ lw_tbl, w.before #[Value.ref b] s = true) (hA : ∀ a : Nat, a < s.heap.size → ¬ A a) :
    ∃ a v : Nat, (va_O "java/lang/String" a A s s.heap ∧ va_OF "java/lang/String" "coder" "B" (.int 0) a A s s.heap ∧ va_OF "java/lang/String" "value" "[B" (.ref v) a A s s.heap ∧ va_T .byte v 5 (fun j => .int (([41, 32, 61, 62, 32] : List Int32).getD j 0)) A s s.heap) ∧ vk_R "FamilyKernel$Printer" 106 ") => " a s :=
  str_of (by decide) (hts _ (List.mem_append_right _ (List.mem_of_getElem? (i := 1475) rfl))) (hs _ (List.mem_of_getElem? (i := 231) rfl)) (hs _ (List.mem_of_getElem? (i := 232) rfl)) (hs _ (List.mem_of_getElem? (i := 233) rfl)) (hs _ (List.mem_of_getElem? (i := 234) rfl)) (fun j hj => match j, hj with
    | 0, _ => (hs _ (List.mem_of_getElem? (i := 235) rfl))
    | 1, _ => (hs _ (List.mem_of_getElem? (i := 236) rfl))
    | 2, _ => (hs _ (List.mem_of_getElem? (i := 237) rfl))
    | 3, _ => (hs _ (List.mem_of_getElem? (i := 238) rfl))
    | 4, _ => (hs _ (List.mem_of_getElem? (i := 239) rfl))
    | j + 5, h => absurd h (by omega)) hA
set_option maxRecDepth 100000 in
theorem sx_18 {A : Nat → Prop} {b : Nat} {s : State} (hs : ∀ c ∈ flatC (Jvm.Cond.and given_1 narrow_1), c.before #[Value.ref b] s = true) (hts : ∀ w ∈ lw_tbl, w.before #[Value.ref b] s = true) (hA : ∀ a : Nat, a < s.heap.size → ¬ A a) :
    ∃ a v : Nat, (va_O "java/lang/String" a A s s.heap ∧ va_OF "java/lang/String" "coder" "B" (.int 0) a A s s.heap ∧ va_OF "java/lang/String" "value" "[B" (.ref v) a A s s.heap ∧ va_T .byte v 4 (fun j => .int (([32, 58, 61, 32] : List Int32).getD j 0)) A s s.heap) ∧ vk_R "FamilyKernel$Printer" 108 " := " a s :=
  str_of (by decide) (hts _ (List.mem_append_right _ (List.mem_of_getElem? (i := 1476) rfl))) (hs _ (List.mem_of_getElem? (i := 240) rfl)) (hs _ (List.mem_of_getElem? (i := 241) rfl)) (hs _ (List.mem_of_getElem? (i := 242) rfl)) (hs _ (List.mem_of_getElem? (i := 243) rfl)) (fun j hj => match j, hj with
    | 0, _ => (hs _ (List.mem_of_getElem? (i := 244) rfl))
    | 1, _ => (hs _ (List.mem_of_getElem? (i := 245) rfl))
    | 2, _ => (hs _ (List.mem_of_getElem? (i := 246) rfl))
    | 3, _ => (hs _ (List.mem_of_getElem? (i := 247) rfl))
    | j + 4, h => absurd h (by omega)) hA
set_option maxRecDepth 100000 in
theorem sx_19 {A : Nat → Prop} {b : Nat} {s : State} (hs : ∀ c ∈ flatC (Jvm.Cond.and given_1 narrow_1), c.before #[Value.ref b] s = true) (hts : ∀ w ∈ lw_tbl, w.before #[Value.ref b] s = true) (hA : ∀ a : Nat, a < s.heap.size → ¬ A a) :
    ∃ a v : Nat, (va_O "java/lang/String" a A s s.heap ∧ va_OF "java/lang/String" "coder" "B" (.int 0) a A s s.heap ∧ va_OF "java/lang/String" "value" "[B" (.ref v) a A s s.heap ∧ va_T .byte v 4 (fun j => .int (([32, 105, 110, 32] : List Int32).getD j 0)) A s s.heap) ∧ vk_R "FamilyKernel$Printer" 110 " in " a s :=
  str_of (by decide) (hts _ (List.mem_append_right _ (List.mem_of_getElem? (i := 1477) rfl))) (hs _ (List.mem_of_getElem? (i := 248) rfl)) (hs _ (List.mem_of_getElem? (i := 249) rfl)) (hs _ (List.mem_of_getElem? (i := 250) rfl)) (hs _ (List.mem_of_getElem? (i := 251) rfl)) (fun j hj => match j, hj with
    | 0, _ => (hs _ (List.mem_of_getElem? (i := 252) rfl))
    | 1, _ => (hs _ (List.mem_of_getElem? (i := 253) rfl))
    | 2, _ => (hs _ (List.mem_of_getElem? (i := 254) rfl))
    | 3, _ => (hs _ (List.mem_of_getElem? (i := 255) rfl))
    | j + 4, h => absurd h (by omega)) hA
set_option maxRecDepth 100000 in
theorem sx_20 {A : Nat → Prop} {b : Nat} {s : State} (hs : ∀ c ∈ flatC (Jvm.Cond.and given_1 narrow_1), c.before #[Value.ref b] s = true) (hts : ∀ w ∈ lw_tbl, w.before #[Value.ref b] s = true) (hA : ∀ a : Nat, a < s.heap.size → ¬ A a) :
    ∃ a v : Nat, (va_O "java/lang/String" a A s s.heap ∧ va_OF "java/lang/String" "coder" "B" (.int 0) a A s s.heap ∧ va_OF "java/lang/String" "value" "[B" (.ref v) a A s s.heap ∧ va_T .byte v 4 (fun j => .int (([80, 114, 111, 112] : List Int32).getD j 0)) A s s.heap) ∧ vk_R "FamilyKernel$Printer" 87 "Prop" a s :=
  str_of (by decide) (hts _ (List.mem_append_right _ (List.mem_of_getElem? (i := 1495) rfl))) (hs _ (List.mem_of_getElem? (i := 256) rfl)) (hs _ (List.mem_of_getElem? (i := 257) rfl)) (hs _ (List.mem_of_getElem? (i := 258) rfl)) (hs _ (List.mem_of_getElem? (i := 259) rfl)) (fun j hj => match j, hj with
    | 0, _ => (hs _ (List.mem_of_getElem? (i := 260) rfl))
    | 1, _ => (hs _ (List.mem_of_getElem? (i := 261) rfl))
    | 2, _ => (hs _ (List.mem_of_getElem? (i := 262) rfl))
    | 3, _ => (hs _ (List.mem_of_getElem? (i := 263) rfl))
    | j + 4, h => absurd h (by omega)) hA
set_option maxRecDepth 100000 in
theorem sx_21 {A : Nat → Prop} {b : Nat} {s : State} (hs : ∀ c ∈ flatC (Jvm.Cond.and given_1 narrow_1), c.before #[Value.ref b] s = true) (hts : ∀ w ∈ lw_tbl, w.before #[Value.ref b] s = true) (hA : ∀ a : Nat, a < s.heap.size → ¬ A a) :
    ∃ a v : Nat, (va_O "java/lang/String" a A s s.heap ∧ va_OF "java/lang/String" "coder" "B" (.int 0) a A s s.heap ∧ va_OF "java/lang/String" "value" "[B" (.ref v) a A s s.heap ∧ va_T .byte v 5 (fun j => .int (([84, 121, 112, 101, 32] : List Int32).getD j 0)) A s s.heap) ∧ vk_R "FamilyKernel$Printer" 93 "Type " a s :=
  str_of (by decide) (hts _ (List.mem_append_right _ (List.mem_of_getElem? (i := 1496) rfl))) (hs _ (List.mem_of_getElem? (i := 265) rfl)) (hs _ (List.mem_of_getElem? (i := 266) rfl)) (hs _ (List.mem_of_getElem? (i := 267) rfl)) (hs _ (List.mem_of_getElem? (i := 268) rfl)) (fun j hj => match j, hj with
    | 0, _ => (hs _ (List.mem_of_getElem? (i := 269) rfl))
    | 1, _ => (hs _ (List.mem_of_getElem? (i := 270) rfl))
    | 2, _ => (hs _ (List.mem_of_getElem? (i := 271) rfl))
    | 3, _ => (hs _ (List.mem_of_getElem? (i := 272) rfl))
    | 4, _ => (hs _ (List.mem_of_getElem? (i := 273) rfl))
    | j + 5, h => absurd h (by omega)) hA
set_option maxRecDepth 100000 in
theorem sx_22 {A : Nat → Prop} {b : Nat} {s : State} (hs : ∀ c ∈ flatC (Jvm.Cond.and given_1 narrow_1), c.before #[Value.ref b] s = true) (hts : ∀ w ∈ lw_tbl, w.before #[Value.ref b] s = true) (hA : ∀ a : Nat, a < s.heap.size → ¬ A a) :
    ∃ a v : Nat, (va_O "java/lang/String" a A s s.heap ∧ va_OF "java/lang/String" "coder" "B" (.int 0) a A s s.heap ∧ va_OF "java/lang/String" "value" "[B" (.ref v) a A s s.heap ∧ va_T .byte v 4 (fun j => .int (([114, 101, 99, 32] : List Int32).getD j 0)) A s s.heap) ∧ vk_R "FamilyKernel$Printer" 118 "rec " a s :=
  str_of (by decide) (hts _ (List.mem_append_right _ (List.mem_of_getElem? (i := 1511) rfl))) (hs _ (List.mem_of_getElem? (i := 274) rfl)) (hs _ (List.mem_of_getElem? (i := 275) rfl)) (hs _ (List.mem_of_getElem? (i := 276) rfl)) (hs _ (List.mem_of_getElem? (i := 277) rfl)) (fun j hj => match j, hj with
    | 0, _ => (hs _ (List.mem_of_getElem? (i := 278) rfl))
    | 1, _ => (hs _ (List.mem_of_getElem? (i := 279) rfl))
    | 2, _ => (hs _ (List.mem_of_getElem? (i := 280) rfl))
    | 3, _ => (hs _ (List.mem_of_getElem? (i := 281) rfl))
    | j + 4, h => absurd h (by omega)) hA
set_option maxRecDepth 100000 in
theorem sx_23 {A : Nat → Prop} {b : Nat} {s : State} (hs : ∀ c ∈ flatC (Jvm.Cond.and given_1 narrow_1), c.before #[Value.ref b] s = true) (hts : ∀ w ∈ lw_tbl, w.before #[Value.ref b] s = true) (hA : ∀ a : Nat, a < s.heap.size → ¬ A a) :
    ∃ a v : Nat, (va_O "java/lang/String" a A s s.heap ∧ va_OF "java/lang/String" "coder" "B" (.int 0) a A s s.heap ∧ va_OF "java/lang/String" "value" "[B" (.ref v) a A s s.heap ∧ va_T .byte v 5 (fun j => .int (([108, 101, 116, 32, 120] : List Int32).getD j 0)) A s s.heap) ∧ vk_R "FamilyKernel$Printer" 139 "let x" a s :=
  str_of (by decide) (hts _ (List.mem_append_right _ (List.mem_of_getElem? (i := 1517) rfl))) (hs _ (List.mem_of_getElem? (i := 282) rfl)) (hs _ (List.mem_of_getElem? (i := 283) rfl)) (hs _ (List.mem_of_getElem? (i := 284) rfl)) (hs _ (List.mem_of_getElem? (i := 285) rfl)) (fun j hj => match j, hj with
    | 0, _ => (hs _ (List.mem_of_getElem? (i := 286) rfl))
    | 1, _ => (hs _ (List.mem_of_getElem? (i := 287) rfl))
    | 2, _ => (hs _ (List.mem_of_getElem? (i := 288) rfl))
    | 3, _ => (hs _ (List.mem_of_getElem? (i := 289) rfl))
    | 4, _ => (hs _ (List.mem_of_getElem? (i := 290) rfl))
    | j + 5, h => absurd h (by omega)) hA
set_option maxRecDepth 100000 in
theorem sx_24 {A : Nat → Prop} {b : Nat} {s : State} (hs : ∀ c ∈ flatC (Jvm.Cond.and given_1 narrow_1), c.before #[Value.ref b] s = true) (hts : ∀ w ∈ lw_tbl, w.before #[Value.ref b] s = true) (hA : ∀ a : Nat, a < s.heap.size → ¬ A a) :
    ∃ a v : Nat, (va_O "java/lang/String" a A s s.heap ∧ va_OF "java/lang/String" "coder" "B" (.int 0) a A s s.heap ∧ va_OF "java/lang/String" "value" "[B" (.ref v) a A s s.heap ∧ va_T .byte v 3 (fun j => .int (([32, 58, 32] : List Int32).getD j 0)) A s s.heap) ∧ vk_R "FamilyKernel$Printer" 137 " : " a s :=
  str_of (by decide) (hts _ (List.mem_append_right _ (List.mem_of_getElem? (i := 1518) rfl))) (hs _ (List.mem_of_getElem? (i := 291) rfl)) (hs _ (List.mem_of_getElem? (i := 292) rfl)) (hs _ (List.mem_of_getElem? (i := 293) rfl)) (hs _ (List.mem_of_getElem? (i := 294) rfl)) (fun j hj => match j, hj with
    | 0, _ => (hs _ (List.mem_of_getElem? (i := 295) rfl))
    | 1, _ => (hs _ (List.mem_of_getElem? (i := 296) rfl))
    | 2, _ => (hs _ (List.mem_of_getElem? (i := 297) rfl))
    | j + 3, h => absurd h (by omega)) hA
set_option maxRecDepth 100000 in
theorem sx_25 {A : Nat → Prop} {b : Nat} {s : State} (hs : ∀ c ∈ flatC (Jvm.Cond.and given_1 narrow_1), c.before #[Value.ref b] s = true) (hts : ∀ w ∈ lw_tbl, w.before #[Value.ref b] s = true) (hA : ∀ a : Nat, a < s.heap.size → ¬ A a) :
    ∃ a v : Nat, (va_O "java/lang/String" a A s s.heap ∧ va_OF "java/lang/String" "coder" "B" (.int 0) a A s s.heap ∧ va_OF "java/lang/String" "value" "[B" (.ref v) a A s s.heap ∧ va_T .byte v 9 (fun j => .int (([102, 111, 114, 97, 108, 108, 32, 40, 120] : List Int32).getD j 0)) A s s.heap) ∧ vk_R "FamilyKernel$Printer" 133 "forall (x" a s :=
  str_of (by decide) (hts _ (List.mem_append_right _ (List.mem_of_getElem? (i := 1524) rfl))) (hs _ (List.mem_of_getElem? (i := 298) rfl)) (hs _ (List.mem_of_getElem? (i := 299) rfl)) (hs _ (List.mem_of_getElem? (i := 300) rfl)) (hs _ (List.mem_of_getElem? (i := 301) rfl)) (fun j hj => match j, hj with
    | 0, _ => (hs _ (List.mem_of_getElem? (i := 302) rfl))
    | 1, _ => (hs _ (List.mem_of_getElem? (i := 303) rfl))
    | 2, _ => (hs _ (List.mem_of_getElem? (i := 304) rfl))
    | 3, _ => (hs _ (List.mem_of_getElem? (i := 305) rfl))
    | 4, _ => (hs _ (List.mem_of_getElem? (i := 306) rfl))
    | 5, _ => (hs _ (List.mem_of_getElem? (i := 307) rfl))
    | 6, _ => (hs _ (List.mem_of_getElem? (i := 308) rfl))
    | 7, _ => (hs _ (List.mem_of_getElem? (i := 309) rfl))
    | 8, _ => (hs _ (List.mem_of_getElem? (i := 310) rfl))
    | j + 9, h => absurd h (by omega)) hA
set_option maxRecDepth 100000 in
theorem sx_26 {A : Nat → Prop} {b : Nat} {s : State} (hs : ∀ c ∈ flatC (Jvm.Cond.and given_1 narrow_1), c.before #[Value.ref b] s = true) (hts : ∀ w ∈ lw_tbl, w.before #[Value.ref b] s = true) (hA : ∀ a : Nat, a < s.heap.size → ¬ A a) :
    ∃ a v : Nat, (va_O "java/lang/String" a A s s.heap ∧ va_OF "java/lang/String" "coder" "B" (.int 0) a A s s.heap ∧ va_OF "java/lang/String" "value" "[B" (.ref v) a A s s.heap ∧ va_T .byte v 6 (fun j => .int (([102, 117, 110, 32, 40, 120] : List Int32).getD j 0)) A s s.heap) ∧ vk_R "FamilyKernel$Printer" 135 "fun (x" a s :=
  str_of (by decide) (hts _ (List.mem_append_right _ (List.mem_of_getElem? (i := 1525) rfl))) (hs _ (List.mem_of_getElem? (i := 311) rfl)) (hs _ (List.mem_of_getElem? (i := 312) rfl)) (hs _ (List.mem_of_getElem? (i := 313) rfl)) (hs _ (List.mem_of_getElem? (i := 314) rfl)) (fun j hj => match j, hj with
    | 0, _ => (hs _ (List.mem_of_getElem? (i := 315) rfl))
    | 1, _ => (hs _ (List.mem_of_getElem? (i := 316) rfl))
    | 2, _ => (hs _ (List.mem_of_getElem? (i := 317) rfl))
    | 3, _ => (hs _ (List.mem_of_getElem? (i := 318) rfl))
    | 4, _ => (hs _ (List.mem_of_getElem? (i := 319) rfl))
    | 5, _ => (hs _ (List.mem_of_getElem? (i := 320) rfl))
    | j + 6, h => absurd h (by omega)) hA
set_option maxRecDepth 100000 in
theorem sx_27 {A : Nat → Prop} {b : Nat} {s : State} (hs : ∀ c ∈ flatC (Jvm.Cond.and given_1 narrow_1), c.before #[Value.ref b] s = true) (hts : ∀ w ∈ lw_tbl, w.before #[Value.ref b] s = true) (hA : ∀ a : Nat, a < s.heap.size → ¬ A a) :
    ∃ a v : Nat, (va_O "java/lang/String" a A s s.heap ∧ va_OF "java/lang/String" "coder" "B" (.int 0) a A s s.heap ∧ va_OF "java/lang/String" "value" "[B" (.ref v) a A s s.heap ∧ va_T .byte v 5 (fun j => .int (([97, 120, 105, 111, 109] : List Int32).getD j 0)) A s s.heap) ∧ vk_R "FamilyKernelModel" 297 "axiom" a s :=
  str_of (by decide) (hts _ (List.mem_append_right _ (List.mem_of_getElem? (i := 1963) rfl))) (hs _ (List.mem_of_getElem? (i := 321) rfl)) (hs _ (List.mem_of_getElem? (i := 322) rfl)) (hs _ (List.mem_of_getElem? (i := 323) rfl)) (hs _ (List.mem_of_getElem? (i := 324) rfl)) (fun j hj => match j, hj with
    | 0, _ => (hs _ (List.mem_of_getElem? (i := 325) rfl))
    | 1, _ => (hs _ (List.mem_of_getElem? (i := 326) rfl))
    | 2, _ => (hs _ (List.mem_of_getElem? (i := 327) rfl))
    | 3, _ => (hs _ (List.mem_of_getElem? (i := 328) rfl))
    | 4, _ => (hs _ (List.mem_of_getElem? (i := 329) rfl))
    | j + 5, h => absurd h (by omega)) hA
set_option maxRecDepth 100000 in
theorem sx_28 {A : Nat → Prop} {b : Nat} {s : State} (hs : ∀ c ∈ flatC (Jvm.Cond.and given_1 narrow_1), c.before #[Value.ref b] s = true) (hts : ∀ w ∈ lw_tbl, w.before #[Value.ref b] s = true) (hA : ∀ a : Nat, a < s.heap.size → ¬ A a) :
    ∃ a v : Nat, (va_O "java/lang/String" a A s s.heap ∧ va_OF "java/lang/String" "coder" "B" (.int 0) a A s s.heap ∧ va_OF "java/lang/String" "value" "[B" (.ref v) a A s s.heap ∧ va_T .byte v 3 (fun j => .int (([100, 101, 102] : List Int32).getD j 0)) A s s.heap) ∧ vk_R "FamilyKernelModel" 299 "def" a s :=
  str_of (by decide) (hts _ (List.mem_append_right _ (List.mem_of_getElem? (i := 1986) rfl))) (hs _ (List.mem_of_getElem? (i := 331) rfl)) (hs _ (List.mem_of_getElem? (i := 332) rfl)) (hs _ (List.mem_of_getElem? (i := 333) rfl)) (hs _ (List.mem_of_getElem? (i := 334) rfl)) (fun j hj => match j, hj with
    | 0, _ => (hs _ (List.mem_of_getElem? (i := 335) rfl))
    | 1, _ => (hs _ (List.mem_of_getElem? (i := 336) rfl))
    | 2, _ => (hs _ (List.mem_of_getElem? (i := 337) rfl))
    | j + 3, h => absurd h (by omega)) hA
set_option maxRecDepth 100000 in
theorem sx_29 {A : Nat → Prop} {b : Nat} {s : State} (hs : ∀ c ∈ flatC (Jvm.Cond.and given_1 narrow_1), c.before #[Value.ref b] s = true) (hts : ∀ w ∈ lw_tbl, w.before #[Value.ref b] s = true) (hA : ∀ a : Nat, a < s.heap.size → ¬ A a) :
    ∃ a v : Nat, (va_O "java/lang/String" a A s s.heap ∧ va_OF "java/lang/String" "coder" "B" (.int 0) a A s s.heap ∧ va_OF "java/lang/String" "value" "[B" (.ref v) a A s s.heap ∧ va_T .byte v 7 (fun j => .int (([116, 104, 101, 111, 114, 101, 109] : List Int32).getD j 0)) A s s.heap) ∧ vk_R "FamilyKernelModel" 301 "theorem" a s :=
  str_of (by decide) (hts _ (List.mem_append_right _ (List.mem_of_getElem? (i := 1987) rfl))) (hs _ (List.mem_of_getElem? (i := 339) rfl)) (hs _ (List.mem_of_getElem? (i := 340) rfl)) (hs _ (List.mem_of_getElem? (i := 341) rfl)) (hs _ (List.mem_of_getElem? (i := 342) rfl)) (fun j hj => match j, hj with
    | 0, _ => (hs _ (List.mem_of_getElem? (i := 343) rfl))
    | 1, _ => (hs _ (List.mem_of_getElem? (i := 344) rfl))
    | 2, _ => (hs _ (List.mem_of_getElem? (i := 345) rfl))
    | 3, _ => (hs _ (List.mem_of_getElem? (i := 346) rfl))
    | 4, _ => (hs _ (List.mem_of_getElem? (i := 347) rfl))
    | 5, _ => (hs _ (List.mem_of_getElem? (i := 348) rfl))
    | 6, _ => (hs _ (List.mem_of_getElem? (i := 349) rfl))
    | j + 7, h => absurd h (by omega)) hA
set_option maxRecDepth 100000 in
theorem sx_30 {A : Nat → Prop} {b : Nat} {s : State} (hs : ∀ c ∈ flatC (Jvm.Cond.and given_1 narrow_1), c.before #[Value.ref b] s = true) (hts : ∀ w ∈ lw_tbl, w.before #[Value.ref b] s = true) (hA : ∀ a : Nat, a < s.heap.size → ¬ A a) :
    ∃ a v : Nat, (va_O "java/lang/String" a A s s.heap ∧ va_OF "java/lang/String" "coder" "B" (.int 0) a A s s.heap ∧ va_OF "java/lang/String" "value" "[B" (.ref v) a A s s.heap ∧ va_T .byte v 9 (fun j => .int (([105, 110, 100, 117, 99, 116, 105, 118, 101] : List Int32).getD j 0)) A s s.heap) ∧ vk_R "FamilyKernelModel" 303 "inductive" a s :=
  str_of (by decide) (hts _ (List.mem_append_right _ (List.mem_of_getElem? (i := 1988) rfl))) (hs _ (List.mem_of_getElem? (i := 351) rfl)) (hs _ (List.mem_of_getElem? (i := 352) rfl)) (hs _ (List.mem_of_getElem? (i := 353) rfl)) (hs _ (List.mem_of_getElem? (i := 354) rfl)) (fun j hj => match j, hj with
    | 0, _ => (hs _ (List.mem_of_getElem? (i := 355) rfl))
    | 1, _ => (hs _ (List.mem_of_getElem? (i := 356) rfl))
    | 2, _ => (hs _ (List.mem_of_getElem? (i := 357) rfl))
    | 3, _ => (hs _ (List.mem_of_getElem? (i := 358) rfl))
    | 4, _ => (hs _ (List.mem_of_getElem? (i := 359) rfl))
    | 5, _ => (hs _ (List.mem_of_getElem? (i := 360) rfl))
    | 6, _ => (hs _ (List.mem_of_getElem? (i := 361) rfl))
    | 7, _ => (hs _ (List.mem_of_getElem? (i := 362) rfl))
    | 8, _ => (hs _ (List.mem_of_getElem? (i := 363) rfl))
    | j + 9, h => absurd h (by omega)) hA
set_option maxRecDepth 100000 in
theorem sx_31 {A : Nat → Prop} {b : Nat} {s : State} (hs : ∀ c ∈ flatC (Jvm.Cond.and given_1 narrow_1), c.before #[Value.ref b] s = true) (hts : ∀ w ∈ lw_tbl, w.before #[Value.ref b] s = true) (hA : ∀ a : Nat, a < s.heap.size → ¬ A a) :
    ∃ a v : Nat, (va_O "java/lang/String" a A s s.heap ∧ va_OF "java/lang/String" "coder" "B" (.int 0) a A s s.heap ∧ va_OF "java/lang/String" "value" "[B" (.ref v) a A s s.heap ∧ va_T .byte v 5 (fun j => .int (([99, 104, 101, 99, 107] : List Int32).getD j 0)) A s s.heap) ∧ vk_R "FamilyKernelModel" 305 "check" a s :=
  str_of (by decide) (hts _ (List.mem_append_right _ (List.mem_of_getElem? (i := 1989) rfl))) (hs _ (List.mem_of_getElem? (i := 365) rfl)) (hs _ (List.mem_of_getElem? (i := 366) rfl)) (hs _ (List.mem_of_getElem? (i := 367) rfl)) (hs _ (List.mem_of_getElem? (i := 368) rfl)) (fun j hj => match j, hj with
    | 0, _ => (hs _ (List.mem_of_getElem? (i := 369) rfl))
    | 1, _ => (hs _ (List.mem_of_getElem? (i := 370) rfl))
    | 2, _ => (hs _ (List.mem_of_getElem? (i := 371) rfl))
    | 3, _ => (hs _ (List.mem_of_getElem? (i := 372) rfl))
    | 4, _ => (hs _ (List.mem_of_getElem? (i := 373) rfl))
    | j + 5, h => absurd h (by omega)) hA
set_option maxRecDepth 100000 in
theorem sx_32 {A : Nat → Prop} {b : Nat} {s : State} (hs : ∀ c ∈ flatC (Jvm.Cond.and given_1 narrow_1), c.before #[Value.ref b] s = true) (hts : ∀ w ∈ lw_tbl, w.before #[Value.ref b] s = true) (hA : ∀ a : Nat, a < s.heap.size → ¬ A a) :
    ∃ a v : Nat, (va_O "java/lang/String" a A s s.heap ∧ va_OF "java/lang/String" "coder" "B" (.int 0) a A s s.heap ∧ va_OF "java/lang/String" "value" "[B" (.ref v) a A s s.heap ∧ va_T .byte v 4 (fun j => .int (([101, 118, 97, 108] : List Int32).getD j 0)) A s s.heap) ∧ vk_R "FamilyKernelModel" 307 "eval" a s :=
  str_of (by decide) (hts _ (List.mem_append_right _ (List.mem_of_getElem? (i := 1990) rfl))) (hs _ (List.mem_of_getElem? (i := 375) rfl)) (hs _ (List.mem_of_getElem? (i := 376) rfl)) (hs _ (List.mem_of_getElem? (i := 377) rfl)) (hs _ (List.mem_of_getElem? (i := 378) rfl)) (fun j hj => match j, hj with
    | 0, _ => (hs _ (List.mem_of_getElem? (i := 379) rfl))
    | 1, _ => (hs _ (List.mem_of_getElem? (i := 380) rfl))
    | 2, _ => (hs _ (List.mem_of_getElem? (i := 381) rfl))
    | 3, _ => (hs _ (List.mem_of_getElem? (i := 382) rfl))
    | j + 4, h => absurd h (by omega)) hA
set_option maxRecDepth 100000 in
theorem sx_33 {A : Nat → Prop} {b : Nat} {s : State} (hs : ∀ c ∈ flatC (Jvm.Cond.and given_1 narrow_1), c.before #[Value.ref b] s = true) (hts : ∀ w ∈ lw_tbl, w.before #[Value.ref b] s = true) (hA : ∀ a : Nat, a < s.heap.size → ¬ A a) :
    ∃ a v : Nat, (va_O "java/lang/String" a A s s.heap ∧ va_OF "java/lang/String" "coder" "B" (.int 0) a A s s.heap ∧ va_OF "java/lang/String" "value" "[B" (.ref v) a A s s.heap ∧ va_T .byte v 3 (fun j => .int (([102, 117, 110] : List Int32).getD j 0)) A s s.heap) ∧ vk_R "FamilyKernelModel" 309 "fun" a s :=
  str_of (by decide) (hts _ (List.mem_append_right _ (List.mem_of_getElem? (i := 1991) rfl))) (hs _ (List.mem_of_getElem? (i := 384) rfl)) (hs _ (List.mem_of_getElem? (i := 385) rfl)) (hs _ (List.mem_of_getElem? (i := 386) rfl)) (hs _ (List.mem_of_getElem? (i := 387) rfl)) (fun j hj => match j, hj with
    | 0, _ => (hs _ (List.mem_of_getElem? (i := 388) rfl))
    | 1, _ => (hs _ (List.mem_of_getElem? (i := 389) rfl))
    | 2, _ => (hs _ (List.mem_of_getElem? (i := 390) rfl))
    | j + 3, h => absurd h (by omega)) hA
set_option maxRecDepth 100000 in
theorem sx_34 {A : Nat → Prop} {b : Nat} {s : State} (hs : ∀ c ∈ flatC (Jvm.Cond.and given_1 narrow_1), c.before #[Value.ref b] s = true) (hts : ∀ w ∈ lw_tbl, w.before #[Value.ref b] s = true) (hA : ∀ a : Nat, a < s.heap.size → ¬ A a) :
    ∃ a v : Nat, (va_O "java/lang/String" a A s s.heap ∧ va_OF "java/lang/String" "coder" "B" (.int 0) a A s s.heap ∧ va_OF "java/lang/String" "value" "[B" (.ref v) a A s s.heap ∧ va_T .byte v 6 (fun j => .int (([102, 111, 114, 97, 108, 108] : List Int32).getD j 0)) A s s.heap) ∧ vk_R "FamilyKernelModel" 311 "forall" a s :=
  str_of (by decide) (hts _ (List.mem_append_right _ (List.mem_of_getElem? (i := 1992) rfl))) (hs _ (List.mem_of_getElem? (i := 392) rfl)) (hs _ (List.mem_of_getElem? (i := 393) rfl)) (hs _ (List.mem_of_getElem? (i := 394) rfl)) (hs _ (List.mem_of_getElem? (i := 395) rfl)) (fun j hj => match j, hj with
    | 0, _ => (hs _ (List.mem_of_getElem? (i := 396) rfl))
    | 1, _ => (hs _ (List.mem_of_getElem? (i := 397) rfl))
    | 2, _ => (hs _ (List.mem_of_getElem? (i := 398) rfl))
    | 3, _ => (hs _ (List.mem_of_getElem? (i := 399) rfl))
    | 4, _ => (hs _ (List.mem_of_getElem? (i := 400) rfl))
    | 5, _ => (hs _ (List.mem_of_getElem? (i := 401) rfl))
    | j + 6, h => absurd h (by omega)) hA
set_option maxRecDepth 100000 in
theorem sx_35 {A : Nat → Prop} {b : Nat} {s : State} (hs : ∀ c ∈ flatC (Jvm.Cond.and given_1 narrow_1), c.before #[Value.ref b] s = true) (hts : ∀ w ∈ lw_tbl, w.before #[Value.ref b] s = true) (hA : ∀ a : Nat, a < s.heap.size → ¬ A a) :
    ∃ a v : Nat, (va_O "java/lang/String" a A s s.heap ∧ va_OF "java/lang/String" "coder" "B" (.int 0) a A s s.heap ∧ va_OF "java/lang/String" "value" "[B" (.ref v) a A s s.heap ∧ va_T .byte v 3 (fun j => .int (([108, 101, 116] : List Int32).getD j 0)) A s s.heap) ∧ vk_R "FamilyKernelModel" 313 "let" a s :=
  str_of (by decide) (hts _ (List.mem_append_right _ (List.mem_of_getElem? (i := 1993) rfl))) (hs _ (List.mem_of_getElem? (i := 403) rfl)) (hs _ (List.mem_of_getElem? (i := 404) rfl)) (hs _ (List.mem_of_getElem? (i := 405) rfl)) (hs _ (List.mem_of_getElem? (i := 406) rfl)) (fun j hj => match j, hj with
    | 0, _ => (hs _ (List.mem_of_getElem? (i := 407) rfl))
    | 1, _ => (hs _ (List.mem_of_getElem? (i := 408) rfl))
    | 2, _ => (hs _ (List.mem_of_getElem? (i := 409) rfl))
    | j + 3, h => absurd h (by omega)) hA
set_option maxRecDepth 100000 in
theorem sx_36 {A : Nat → Prop} {b : Nat} {s : State} (hs : ∀ c ∈ flatC (Jvm.Cond.and given_1 narrow_1), c.before #[Value.ref b] s = true) (hts : ∀ w ∈ lw_tbl, w.before #[Value.ref b] s = true) (hA : ∀ a : Nat, a < s.heap.size → ¬ A a) :
    ∃ a v : Nat, (va_O "java/lang/String" a A s s.heap ∧ va_OF "java/lang/String" "coder" "B" (.int 0) a A s s.heap ∧ va_OF "java/lang/String" "value" "[B" (.ref v) a A s s.heap ∧ va_T .byte v 2 (fun j => .int (([105, 110] : List Int32).getD j 0)) A s s.heap) ∧ vk_R "FamilyKernelModel" 315 "in" a s :=
  str_of (by decide) (hts _ (List.mem_append_right _ (List.mem_of_getElem? (i := 1994) rfl))) (hs _ (List.mem_of_getElem? (i := 411) rfl)) (hs _ (List.mem_of_getElem? (i := 412) rfl)) (hs _ (List.mem_of_getElem? (i := 413) rfl)) (hs _ (List.mem_of_getElem? (i := 414) rfl)) (fun j hj => match j, hj with
    | 0, _ => (hs _ (List.mem_of_getElem? (i := 415) rfl))
    | 1, _ => (hs _ (List.mem_of_getElem? (i := 416) rfl))
    | j + 2, h => absurd h (by omega)) hA
set_option maxRecDepth 100000 in
theorem sx_37 {A : Nat → Prop} {b : Nat} {s : State} (hs : ∀ c ∈ flatC (Jvm.Cond.and given_1 narrow_1), c.before #[Value.ref b] s = true) (hts : ∀ w ∈ lw_tbl, w.before #[Value.ref b] s = true) (hA : ∀ a : Nat, a < s.heap.size → ¬ A a) :
    ∃ a v : Nat, (va_O "java/lang/String" a A s s.heap ∧ va_OF "java/lang/String" "coder" "B" (.int 0) a A s s.heap ∧ va_OF "java/lang/String" "value" "[B" (.ref v) a A s s.heap ∧ va_T .byte v 3 (fun j => .int (([114, 101, 99] : List Int32).getD j 0)) A s s.heap) ∧ vk_R "FamilyKernelModel" 317 "rec" a s :=
  str_of (by decide) (hts _ (List.mem_append_right _ (List.mem_of_getElem? (i := 1995) rfl))) (hs _ (List.mem_of_getElem? (i := 418) rfl)) (hs _ (List.mem_of_getElem? (i := 419) rfl)) (hs _ (List.mem_of_getElem? (i := 420) rfl)) (hs _ (List.mem_of_getElem? (i := 421) rfl)) (fun j hj => match j, hj with
    | 0, _ => (hs _ (List.mem_of_getElem? (i := 422) rfl))
    | 1, _ => (hs _ (List.mem_of_getElem? (i := 423) rfl))
    | 2, _ => (hs _ (List.mem_of_getElem? (i := 424) rfl))
    | j + 3, h => absurd h (by omega)) hA
set_option maxRecDepth 100000 in
theorem sx_38 {A : Nat → Prop} {b : Nat} {s : State} (hs : ∀ c ∈ flatC (Jvm.Cond.and given_1 narrow_1), c.before #[Value.ref b] s = true) (hts : ∀ w ∈ lw_tbl, w.before #[Value.ref b] s = true) (hA : ∀ a : Nat, a < s.heap.size → ¬ A a) :
    ∃ a v : Nat, (va_O "java/lang/String" a A s s.heap ∧ va_OF "java/lang/String" "coder" "B" (.int 0) a A s s.heap ∧ va_OF "java/lang/String" "value" "[B" (.ref v) a A s s.heap ∧ va_T .byte v 4 (fun j => .int (([80, 114, 111, 112] : List Int32).getD j 0)) A s s.heap) ∧ vk_R "FamilyKernelModel" 319 "Prop" a s :=
  str_of (by decide) (hts _ (List.mem_append_right _ (List.mem_of_getElem? (i := 1996) rfl))) (hs _ (List.mem_of_getElem? (i := 426) rfl)) (hs _ (List.mem_of_getElem? (i := 427) rfl)) (hs _ (List.mem_of_getElem? (i := 428) rfl)) (hs _ (List.mem_of_getElem? (i := 429) rfl)) (fun j hj => match j, hj with
    | 0, _ => (hs _ (List.mem_of_getElem? (i := 430) rfl))
    | 1, _ => (hs _ (List.mem_of_getElem? (i := 431) rfl))
    | 2, _ => (hs _ (List.mem_of_getElem? (i := 432) rfl))
    | 3, _ => (hs _ (List.mem_of_getElem? (i := 433) rfl))
    | j + 4, h => absurd h (by omega)) hA
set_option maxRecDepth 100000 in
theorem sx_39 {A : Nat → Prop} {b : Nat} {s : State} (hs : ∀ c ∈ flatC (Jvm.Cond.and given_1 narrow_1), c.before #[Value.ref b] s = true) (hts : ∀ w ∈ lw_tbl, w.before #[Value.ref b] s = true) (hA : ∀ a : Nat, a < s.heap.size → ¬ A a) :
    ∃ a v : Nat, (va_O "java/lang/String" a A s s.heap ∧ va_OF "java/lang/String" "coder" "B" (.int 0) a A s s.heap ∧ va_OF "java/lang/String" "value" "[B" (.ref v) a A s s.heap ∧ va_T .byte v 4 (fun j => .int (([84, 121, 112, 101] : List Int32).getD j 0)) A s s.heap) ∧ vk_R "FamilyKernelModel" 321 "Type" a s :=
  str_of (by decide) (hts _ (List.mem_append_right _ (List.mem_of_getElem? (i := 1997) rfl))) (hs _ (List.mem_of_getElem? (i := 436) rfl)) (hs _ (List.mem_of_getElem? (i := 437) rfl)) (hs _ (List.mem_of_getElem? (i := 438) rfl)) (hs _ (List.mem_of_getElem? (i := 439) rfl)) (fun j hj => match j, hj with
    | 0, _ => (hs _ (List.mem_of_getElem? (i := 440) rfl))
    | 1, _ => (hs _ (List.mem_of_getElem? (i := 441) rfl))
    | 2, _ => (hs _ (List.mem_of_getElem? (i := 442) rfl))
    | 3, _ => (hs _ (List.mem_of_getElem? (i := 443) rfl))
    | j + 4, h => absurd h (by omega)) hA
set_option maxRecDepth 100000 in
theorem sx_40 {A : Nat → Prop} {b : Nat} {s : State} (hs : ∀ c ∈ flatC (Jvm.Cond.and given_1 narrow_1), c.before #[Value.ref b] s = true) (hts : ∀ w ∈ lw_tbl, w.before #[Value.ref b] s = true) (hA : ∀ a : Nat, a < s.heap.size → ¬ A a) :
    ∃ a v : Nat, (va_O "java/lang/String" a A s s.heap ∧ va_OF "java/lang/String" "coder" "B" (.int 0) a A s s.heap ∧ va_OF "java/lang/String" "value" "[B" (.ref v) a A s s.heap ∧ va_T .byte v 5 (fun j => .int (([84, 121, 112, 101, 32] : List Int32).getD j 0)) A s s.heap) ∧ vk_R "FamilyKernelModel" 587 "Type " a s :=
  str_of (by decide) (hts _ (List.mem_append_right _ (List.mem_of_getElem? (i := 2332) rfl))) (hs _ (List.mem_of_getElem? (i := 445) rfl)) (hs _ (List.mem_of_getElem? (i := 446) rfl)) (hs _ (List.mem_of_getElem? (i := 447) rfl)) (hs _ (List.mem_of_getElem? (i := 448) rfl)) (fun j hj => match j, hj with
    | 0, _ => (hs _ (List.mem_of_getElem? (i := 449) rfl))
    | 1, _ => (hs _ (List.mem_of_getElem? (i := 450) rfl))
    | 2, _ => (hs _ (List.mem_of_getElem? (i := 451) rfl))
    | 3, _ => (hs _ (List.mem_of_getElem? (i := 452) rfl))
    | 4, _ => (hs _ (List.mem_of_getElem? (i := 453) rfl))
    | j + 5, h => absurd h (by omega)) hA
set_option maxRecDepth 100000 in
theorem sx_41 {A : Nat → Prop} {b : Nat} {s : State} (hs : ∀ c ∈ flatC (Jvm.Cond.and given_1 narrow_1), c.before #[Value.ref b] s = true) (hts : ∀ w ∈ lw_tbl, w.before #[Value.ref b] s = true) (hA : ∀ a : Nat, a < s.heap.size → ¬ A a) :
    ∃ a v : Nat, (va_O "java/lang/String" a A s s.heap ∧ va_OF "java/lang/String" "coder" "B" (.int 0) a A s s.heap ∧ va_OF "java/lang/String" "value" "[B" (.ref v) a A s s.heap ∧ va_T .byte v 4 (fun j => .int (([114, 101, 99, 32] : List Int32).getD j 0)) A s s.heap) ∧ vk_R "FamilyKernelModel" 595 "rec " a s :=
  str_of (by decide) (hts _ (List.mem_append_right _ (List.mem_of_getElem? (i := 2341) rfl))) (hs _ (List.mem_of_getElem? (i := 455) rfl)) (hs _ (List.mem_of_getElem? (i := 456) rfl)) (hs _ (List.mem_of_getElem? (i := 457) rfl)) (hs _ (List.mem_of_getElem? (i := 458) rfl)) (fun j hj => match j, hj with
    | 0, _ => (hs _ (List.mem_of_getElem? (i := 459) rfl))
    | 1, _ => (hs _ (List.mem_of_getElem? (i := 460) rfl))
    | 2, _ => (hs _ (List.mem_of_getElem? (i := 461) rfl))
    | 3, _ => (hs _ (List.mem_of_getElem? (i := 462) rfl))
    | j + 4, h => absurd h (by omega)) hA
set_option maxRecDepth 100000 in
theorem sx_42 {A : Nat → Prop} {b : Nat} {s : State} (hs : ∀ c ∈ flatC (Jvm.Cond.and given_1 narrow_1), c.before #[Value.ref b] s = true) (hts : ∀ w ∈ lw_tbl, w.before #[Value.ref b] s = true) (hA : ∀ a : Nat, a < s.heap.size → ¬ A a) :
    ∃ a v : Nat, (va_O "java/lang/String" a A s s.heap ∧ va_OF "java/lang/String" "coder" "B" (.int 0) a A s s.heap ∧ va_OF "java/lang/String" "value" "[B" (.ref v) a A s s.heap ∧ va_T .byte v 9 (fun j => .int (([102, 111, 114, 97, 108, 108, 32, 40, 120] : List Int32).getD j 0)) A s s.heap) ∧ vk_R "FamilyKernelModel" 604 "forall (x" a s :=
  str_of (by decide) (hts _ (List.mem_append_right _ (List.mem_of_getElem? (i := 2354) rfl))) (hs _ (List.mem_of_getElem? (i := 464) rfl)) (hs _ (List.mem_of_getElem? (i := 465) rfl)) (hs _ (List.mem_of_getElem? (i := 466) rfl)) (hs _ (List.mem_of_getElem? (i := 467) rfl)) (fun j hj => match j, hj with
    | 0, _ => (hs _ (List.mem_of_getElem? (i := 468) rfl))
    | 1, _ => (hs _ (List.mem_of_getElem? (i := 469) rfl))
    | 2, _ => (hs _ (List.mem_of_getElem? (i := 470) rfl))
    | 3, _ => (hs _ (List.mem_of_getElem? (i := 471) rfl))
    | 4, _ => (hs _ (List.mem_of_getElem? (i := 472) rfl))
    | 5, _ => (hs _ (List.mem_of_getElem? (i := 473) rfl))
    | 6, _ => (hs _ (List.mem_of_getElem? (i := 474) rfl))
    | 7, _ => (hs _ (List.mem_of_getElem? (i := 475) rfl))
    | 8, _ => (hs _ (List.mem_of_getElem? (i := 476) rfl))
    | j + 9, h => absurd h (by omega)) hA
set_option maxRecDepth 100000 in
theorem sx_43 {A : Nat → Prop} {b : Nat} {s : State} (hs : ∀ c ∈ flatC (Jvm.Cond.and given_1 narrow_1), c.before #[Value.ref b] s = true) (hts : ∀ w ∈ lw_tbl, w.before #[Value.ref b] s = true) (hA : ∀ a : Nat, a < s.heap.size → ¬ A a) :
    ∃ a v : Nat, (va_O "java/lang/String" a A s s.heap ∧ va_OF "java/lang/String" "coder" "B" (.int 0) a A s s.heap ∧ va_OF "java/lang/String" "value" "[B" (.ref v) a A s s.heap ∧ va_T .byte v 3 (fun j => .int (([32, 58, 32] : List Int32).getD j 0)) A s s.heap) ∧ vk_R "FamilyKernelModel" 624 " : " a s :=
  str_of (by decide) (hts _ (List.mem_append_right _ (List.mem_of_getElem? (i := 2359) rfl))) (hs _ (List.mem_of_getElem? (i := 478) rfl)) (hs _ (List.mem_of_getElem? (i := 479) rfl)) (hs _ (List.mem_of_getElem? (i := 480) rfl)) (hs _ (List.mem_of_getElem? (i := 481) rfl)) (fun j hj => match j, hj with
    | 0, _ => (hs _ (List.mem_of_getElem? (i := 482) rfl))
    | 1, _ => (hs _ (List.mem_of_getElem? (i := 483) rfl))
    | 2, _ => (hs _ (List.mem_of_getElem? (i := 484) rfl))
    | j + 3, h => absurd h (by omega)) hA
set_option maxRecDepth 100000 in
theorem sx_44 {A : Nat → Prop} {b : Nat} {s : State} (hs : ∀ c ∈ flatC (Jvm.Cond.and given_1 narrow_1), c.before #[Value.ref b] s = true) (hts : ∀ w ∈ lw_tbl, w.before #[Value.ref b] s = true) (hA : ∀ a : Nat, a < s.heap.size → ¬ A a) :
    ∃ a v : Nat, (va_O "java/lang/String" a A s s.heap ∧ va_OF "java/lang/String" "coder" "B" (.int 0) a A s s.heap ∧ va_OF "java/lang/String" "value" "[B" (.ref v) a A s s.heap ∧ va_T .byte v 3 (fun j => .int (([41, 44, 32] : List Int32).getD j 0)) A s s.heap) ∧ vk_R "FamilyKernelModel" 610 "), " a s :=
  str_of (by decide) (hts _ (List.mem_append_right _ (List.mem_of_getElem? (i := 2360) rfl))) (hs _ (List.mem_of_getElem? (i := 486) rfl)) (hs _ (List.mem_of_getElem? (i := 487) rfl)) (hs _ (List.mem_of_getElem? (i := 488) rfl)) (hs _ (List.mem_of_getElem? (i := 489) rfl)) (fun j hj => match j, hj with
    | 0, _ => (hs _ (List.mem_of_getElem? (i := 490) rfl))
    | 1, _ => (hs _ (List.mem_of_getElem? (i := 491) rfl))
    | 2, _ => (hs _ (List.mem_of_getElem? (i := 492) rfl))
    | j + 3, h => absurd h (by omega)) hA
set_option maxRecDepth 100000 in
theorem sx_45 {A : Nat → Prop} {b : Nat} {s : State} (hs : ∀ c ∈ flatC (Jvm.Cond.and given_1 narrow_1), c.before #[Value.ref b] s = true) (hts : ∀ w ∈ lw_tbl, w.before #[Value.ref b] s = true) (hA : ∀ a : Nat, a < s.heap.size → ¬ A a) :
    ∃ a v : Nat, (va_O "java/lang/String" a A s s.heap ∧ va_OF "java/lang/String" "coder" "B" (.int 0) a A s s.heap ∧ va_OF "java/lang/String" "value" "[B" (.ref v) a A s s.heap ∧ va_T .byte v 4 (fun j => .int (([32, 45, 62, 32] : List Int32).getD j 0)) A s s.heap) ∧ vk_R "FamilyKernelModel" 612 " -> " a s :=
  str_of (by decide) (hts _ (List.mem_append_right _ (List.mem_of_getElem? (i := 2361) rfl))) (hs _ (List.mem_of_getElem? (i := 494) rfl)) (hs _ (List.mem_of_getElem? (i := 495) rfl)) (hs _ (List.mem_of_getElem? (i := 496) rfl)) (hs _ (List.mem_of_getElem? (i := 497) rfl)) (fun j hj => match j, hj with
    | 0, _ => (hs _ (List.mem_of_getElem? (i := 498) rfl))
    | 1, _ => (hs _ (List.mem_of_getElem? (i := 499) rfl))
    | 2, _ => (hs _ (List.mem_of_getElem? (i := 500) rfl))
    | 3, _ => (hs _ (List.mem_of_getElem? (i := 501) rfl))
    | j + 4, h => absurd h (by omega)) hA
set_option maxRecDepth 100000 in
theorem sx_46 {A : Nat → Prop} {b : Nat} {s : State} (hs : ∀ c ∈ flatC (Jvm.Cond.and given_1 narrow_1), c.before #[Value.ref b] s = true) (hts : ∀ w ∈ lw_tbl, w.before #[Value.ref b] s = true) (hA : ∀ a : Nat, a < s.heap.size → ¬ A a) :
    ∃ a v : Nat, (va_O "java/lang/String" a A s s.heap ∧ va_OF "java/lang/String" "coder" "B" (.int 0) a A s s.heap ∧ va_OF "java/lang/String" "value" "[B" (.ref v) a A s s.heap ∧ va_T .byte v 6 (fun j => .int (([102, 117, 110, 32, 40, 120] : List Int32).getD j 0)) A s s.heap) ∧ vk_R "FamilyKernelModel" 614 "fun (x" a s :=
  str_of (by decide) (hts _ (List.mem_append_right _ (List.mem_of_getElem? (i := 2362) rfl))) (hs _ (List.mem_of_getElem? (i := 503) rfl)) (hs _ (List.mem_of_getElem? (i := 504) rfl)) (hs _ (List.mem_of_getElem? (i := 505) rfl)) (hs _ (List.mem_of_getElem? (i := 506) rfl)) (fun j hj => match j, hj with
    | 0, _ => (hs _ (List.mem_of_getElem? (i := 507) rfl))
    | 1, _ => (hs _ (List.mem_of_getElem? (i := 508) rfl))
    | 2, _ => (hs _ (List.mem_of_getElem? (i := 509) rfl))
    | 3, _ => (hs _ (List.mem_of_getElem? (i := 510) rfl))
    | 4, _ => (hs _ (List.mem_of_getElem? (i := 511) rfl))
    | 5, _ => (hs _ (List.mem_of_getElem? (i := 512) rfl))
    | j + 6, h => absurd h (by omega)) hA
set_option maxRecDepth 100000 in
theorem sx_47 {A : Nat → Prop} {b : Nat} {s : State} (hs : ∀ c ∈ flatC (Jvm.Cond.and given_1 narrow_1), c.before #[Value.ref b] s = true) (hts : ∀ w ∈ lw_tbl, w.before #[Value.ref b] s = true) (hA : ∀ a : Nat, a < s.heap.size → ¬ A a) :
    ∃ a v : Nat, (va_O "java/lang/String" a A s s.heap ∧ va_OF "java/lang/String" "coder" "B" (.int 0) a A s s.heap ∧ va_OF "java/lang/String" "value" "[B" (.ref v) a A s s.heap ∧ va_T .byte v 5 (fun j => .int (([41, 32, 61, 62, 32] : List Int32).getD j 0)) A s s.heap) ∧ vk_R "FamilyKernelModel" 616 ") => " a s :=
  str_of (by decide) (hts _ (List.mem_append_right _ (List.mem_of_getElem? (i := 2363) rfl))) (hs _ (List.mem_of_getElem? (i := 514) rfl)) (hs _ (List.mem_of_getElem? (i := 515) rfl)) (hs _ (List.mem_of_getElem? (i := 516) rfl)) (hs _ (List.mem_of_getElem? (i := 517) rfl)) (fun j hj => match j, hj with
    | 0, _ => (hs _ (List.mem_of_getElem? (i := 518) rfl))
    | 1, _ => (hs _ (List.mem_of_getElem? (i := 519) rfl))
    | 2, _ => (hs _ (List.mem_of_getElem? (i := 520) rfl))
    | 3, _ => (hs _ (List.mem_of_getElem? (i := 521) rfl))
    | 4, _ => (hs _ (List.mem_of_getElem? (i := 522) rfl))
    | j + 5, h => absurd h (by omega)) hA
set_option maxRecDepth 100000 in
theorem sx_48 {A : Nat → Prop} {b : Nat} {s : State} (hs : ∀ c ∈ flatC (Jvm.Cond.and given_1 narrow_1), c.before #[Value.ref b] s = true) (hts : ∀ w ∈ lw_tbl, w.before #[Value.ref b] s = true) (hA : ∀ a : Nat, a < s.heap.size → ¬ A a) :
    ∃ a v : Nat, (va_O "java/lang/String" a A s s.heap ∧ va_OF "java/lang/String" "coder" "B" (.int 0) a A s s.heap ∧ va_OF "java/lang/String" "value" "[B" (.ref v) a A s s.heap ∧ va_T .byte v 5 (fun j => .int (([108, 101, 116, 32, 120] : List Int32).getD j 0)) A s s.heap) ∧ vk_R "FamilyKernelModel" 618 "let x" a s :=
  str_of (by decide) (hts _ (List.mem_append_right _ (List.mem_of_getElem? (i := 2364) rfl))) (hs _ (List.mem_of_getElem? (i := 524) rfl)) (hs _ (List.mem_of_getElem? (i := 525) rfl)) (hs _ (List.mem_of_getElem? (i := 526) rfl)) (hs _ (List.mem_of_getElem? (i := 527) rfl)) (fun j hj => match j, hj with
    | 0, _ => (hs _ (List.mem_of_getElem? (i := 528) rfl))
    | 1, _ => (hs _ (List.mem_of_getElem? (i := 529) rfl))
    | 2, _ => (hs _ (List.mem_of_getElem? (i := 530) rfl))
    | 3, _ => (hs _ (List.mem_of_getElem? (i := 531) rfl))
    | 4, _ => (hs _ (List.mem_of_getElem? (i := 532) rfl))
    | j + 5, h => absurd h (by omega)) hA
set_option maxRecDepth 100000 in
theorem sx_49 {A : Nat → Prop} {b : Nat} {s : State} (hs : ∀ c ∈ flatC (Jvm.Cond.and given_1 narrow_1), c.before #[Value.ref b] s = true) (hts : ∀ w ∈ lw_tbl, w.before #[Value.ref b] s = true) (hA : ∀ a : Nat, a < s.heap.size → ¬ A a) :
    ∃ a v : Nat, (va_O "java/lang/String" a A s s.heap ∧ va_OF "java/lang/String" "coder" "B" (.int 0) a A s s.heap ∧ va_OF "java/lang/String" "value" "[B" (.ref v) a A s s.heap ∧ va_T .byte v 4 (fun j => .int (([32, 58, 61, 32] : List Int32).getD j 0)) A s s.heap) ∧ vk_R "FamilyKernelModel" 620 " := " a s :=
  str_of (by decide) (hts _ (List.mem_append_right _ (List.mem_of_getElem? (i := 2365) rfl))) (hs _ (List.mem_of_getElem? (i := 534) rfl)) (hs _ (List.mem_of_getElem? (i := 535) rfl)) (hs _ (List.mem_of_getElem? (i := 536) rfl)) (hs _ (List.mem_of_getElem? (i := 537) rfl)) (fun j hj => match j, hj with
    | 0, _ => (hs _ (List.mem_of_getElem? (i := 538) rfl))
    | 1, _ => (hs _ (List.mem_of_getElem? (i := 539) rfl))
    | 2, _ => (hs _ (List.mem_of_getElem? (i := 540) rfl))
    | 3, _ => (hs _ (List.mem_of_getElem? (i := 541) rfl))
    | j + 4, h => absurd h (by omega)) hA
set_option maxRecDepth 100000 in
theorem sx_50 {A : Nat → Prop} {b : Nat} {s : State} (hs : ∀ c ∈ flatC (Jvm.Cond.and given_1 narrow_1), c.before #[Value.ref b] s = true) (hts : ∀ w ∈ lw_tbl, w.before #[Value.ref b] s = true) (hA : ∀ a : Nat, a < s.heap.size → ¬ A a) :
    ∃ a v : Nat, (va_O "java/lang/String" a A s s.heap ∧ va_OF "java/lang/String" "coder" "B" (.int 0) a A s s.heap ∧ va_OF "java/lang/String" "value" "[B" (.ref v) a A s s.heap ∧ va_T .byte v 4 (fun j => .int (([32, 105, 110, 32] : List Int32).getD j 0)) A s s.heap) ∧ vk_R "FamilyKernelModel" 622 " in " a s :=
  str_of (by decide) (hts _ (List.mem_append_right _ (List.mem_of_getElem? (i := 2366) rfl))) (hs _ (List.mem_of_getElem? (i := 543) rfl)) (hs _ (List.mem_of_getElem? (i := 544) rfl)) (hs _ (List.mem_of_getElem? (i := 545) rfl)) (hs _ (List.mem_of_getElem? (i := 546) rfl)) (fun j hj => match j, hj with
    | 0, _ => (hs _ (List.mem_of_getElem? (i := 547) rfl))
    | 1, _ => (hs _ (List.mem_of_getElem? (i := 548) rfl))
    | 2, _ => (hs _ (List.mem_of_getElem? (i := 549) rfl))
    | 3, _ => (hs _ (List.mem_of_getElem? (i := 550) rfl))
    | j + 4, h => absurd h (by omega)) hA
set_option maxRecDepth 100000 in
theorem law_X_ISE {p : Program} {s : State} {m : MethodId} {meth : Method} {c : Code} {b L : Nat} {xs : Nat → Int32} (C0 : lw_At p s m meth c b L xs) : vx_X "java/lang/IllegalStateException" s := by
  obtain ⟨-, -, -, -, -, hts, -, -, -, hgv⟩ := C0
  have hs := flat_of_before _ hgv
  exact ⟨⟨⟨(hts _ (List.mem_append_right _ (List.mem_of_getElem? (i := 646) rfl))), (hs _ (List.mem_of_getElem? (i := 9) rfl))⟩, ⟨(hts _ (List.mem_append_right _ (List.mem_of_getElem? (i := 648) rfl))), (hs _ (List.mem_of_getElem? (i := 10) rfl))⟩⟩,
    va_Nw.of rfl (hts _ (List.mem_append_right _ (List.mem_of_getElem? (i := 621) rfl))), va_Nw.of rfl (hts _ (List.mem_append_right _ (List.mem_of_getElem? (i := 622) rfl))), va_Nw.of rfl (hts _ (List.mem_append_right _ (List.mem_of_getElem? (i := 624) rfl))), va_Nw.of rfl (hts _ (List.mem_append_right _ (List.mem_of_getElem? (i := 626) rfl)))⟩
set_option maxRecDepth 100000 in
theorem law_X_IAE {p : Program} {s : State} {m : MethodId} {meth : Method} {c : Code} {b L : Nat} {xs : Nat → Int32} (C0 : lw_At p s m meth c b L xs) : vx_X "java/lang/IllegalArgumentException" s := by
  obtain ⟨-, -, -, -, -, hts, -, -, -, hgv⟩ := C0
  have hs := flat_of_before _ hgv
  exact ⟨⟨⟨(hts _ (List.mem_append_right _ (List.mem_of_getElem? (i := 646) rfl))), (hs _ (List.mem_of_getElem? (i := 9) rfl))⟩, ⟨(hts _ (List.mem_append_right _ (List.mem_of_getElem? (i := 648) rfl))), (hs _ (List.mem_of_getElem? (i := 10) rfl))⟩⟩,
    va_Nw.of rfl (hts _ (List.mem_append_right _ (List.mem_of_getElem? (i := 1597) rfl))), va_Nw.of rfl (hts _ (List.mem_append_right _ (List.mem_of_getElem? (i := 622) rfl))), va_Nw.of rfl (hts _ (List.mem_append_right _ (List.mem_of_getElem? (i := 624) rfl))), va_Nw.of rfl (hts _ (List.mem_append_right _ (List.mem_of_getElem? (i := 626) rfl)))⟩
set_option maxRecDepth 100000 in
theorem law_X_NSE {p : Program} {s : State} {m : MethodId} {meth : Method} {c : Code} {b L : Nat} {xs : Nat → Int32} (C0 : lw_At p s m meth c b L xs) : vx_X "java/util/NoSuchElementException" s := by
  obtain ⟨-, -, -, -, -, hts, -, -, -, hgv⟩ := C0
  have hs := flat_of_before _ hgv
  exact ⟨⟨⟨(hts _ (List.mem_append_right _ (List.mem_of_getElem? (i := 646) rfl))), (hs _ (List.mem_of_getElem? (i := 9) rfl))⟩, ⟨(hts _ (List.mem_append_right _ (List.mem_of_getElem? (i := 648) rfl))), (hs _ (List.mem_of_getElem? (i := 10) rfl))⟩⟩,
    va_Nw.of rfl (hts _ (List.mem_append_right _ (List.mem_of_getElem? (i := 1620) rfl))), va_Nw.of rfl (hts _ (List.mem_append_right _ (List.mem_of_getElem? (i := 622) rfl))), va_Nw.of rfl (hts _ (List.mem_append_right _ (List.mem_of_getElem? (i := 624) rfl))), va_Nw.of rfl (hts _ (List.mem_append_right _ (List.mem_of_getElem? (i := 626) rfl)))⟩
set_option maxRecDepth 100000 in
theorem law_X_IOB {p : Program} {s : State} {m : MethodId} {meth : Method} {c : Code} {b L : Nat} {xs : Nat → Int32} (C0 : lw_At p s m meth c b L xs) : vx_X "java/lang/IndexOutOfBoundsException" s := by
  obtain ⟨-, -, -, -, -, hts, -, -, -, hgv⟩ := C0
  have hs := flat_of_before _ hgv
  exact ⟨⟨⟨(hts _ (List.mem_append_right _ (List.mem_of_getElem? (i := 646) rfl))), (hs _ (List.mem_of_getElem? (i := 9) rfl))⟩, ⟨(hts _ (List.mem_append_right _ (List.mem_of_getElem? (i := 648) rfl))), (hs _ (List.mem_of_getElem? (i := 10) rfl))⟩⟩,
    va_Nw.of rfl (hts _ (List.mem_append_right _ (List.mem_of_getElem? (i := 1663) rfl))), va_Nw.of rfl (hts _ (List.mem_append_right _ (List.mem_of_getElem? (i := 622) rfl))), va_Nw.of rfl (hts _ (List.mem_append_right _ (List.mem_of_getElem? (i := 624) rfl))), va_Nw.of rfl (hts _ (List.mem_append_right _ (List.mem_of_getElem? (i := 626) rfl)))⟩
set_option maxHeartbeats 4000000 in
set_option maxRecDepth 100000 in
/-- what the law's entry gives -/
theorem law_env {p : Program} {s : State} {m : MethodId} {meth : Method} {c : Code} {b L : Nat} {xs : Nat → Int32} (C0 : lw_At p s m meth c b L xs) {A : Nat → Prop} (hAe : A = fun q : Nat => s.heap.size ≤ q) : ∃ (dC : Nat → ClassId) (dI : Nat → Nat → Nat) (cI cJ cB cZ : ClassId) (st sv : Nat → Nat), ∀ kd md : Nat → Nat, lE ((dC, dI, kd, (cI, cJ), st, sv), md, cB, cZ) A s := by
  have x1 := law_X_ISE C0
  have x2 := law_X_IAE C0
  have x3 := law_X_NSE C0
  have x4 := law_X_IOB C0
  obtain ⟨hx, hb, hr, hml, hown, hts, hX0, hbl, hlocks, hgv⟩ := C0
  have hT : ∀ w ∈ vT, w.before _ s = true := fun w h => hts w (vT_in w h)
  have hs := flat_of_before _ hgv
  have hA : ∀ a : Nat, a < s.heap.size → ¬ A a := fun a h => by rw [hAe]; exact Nat.not_le.mpr h
  obtain ⟨c0, iS0, hKn0⟩ := u_known (C := R_Row) (T := T_Row) (N := 3) (n := 3) hT in_Row (hT (.instantiable R_Row 3) vt_5)
  obtain ⟨c1, iS1, hKn1⟩ := u_known (C := R_Meter) (T := T_Meter) (N := 4) (n := 4) hT in_Meter (hT (.instantiable R_Meter 4) vt_14)
  obtain ⟨c2, iS2, hKn2⟩ := u_known (C := R_Terms) (T := T_Terms) (N := 10) (n := 10) hT in_Terms (hT (.instantiable R_Terms 10) vt_20)
  obtain ⟨c3, iS3, hKn3⟩ := u_known (C := R_Env) (T := T_Env) (N := 3) (n := 3) hT in_Env (hT (.instantiable R_Env 3) vt_27)
  obtain ⟨c4, iS4, hKn4⟩ := u_known (C := R_Lex) (T := T_Lex) (N := 7) (n := 7) hT in_Lex (hT (.instantiable R_Lex 7) vt_34)
  obtain ⟨c5, iS5, hKn5⟩ := u_known (C := R_Par) (T := T_Par) (N := 20) (n := 20) hT in_Par (hT (.instantiable R_Par 20) vt_41)
  obtain ⟨c6, iS6, hKn6⟩ := u_known (C := R_Fra) (T := T_Fra) (N := 3) (n := 3) hT in_Fra (hT (.instantiable R_Fra 3) vt_48)
  obtain ⟨c7, iS7, hKn7⟩ := u_known (C := R_Red) (T := T_Red) (N := 5) (n := 5) hT in_Red (hT (.instantiable R_Red 5) vt_55)
  obtain ⟨c8, iS8, hKn8⟩ := u_known (C := R_Typ) (T := T_Typ) (N := 4) (n := 4) hT in_Typ (hT (.instantiable R_Typ 4) vt_62)
  obtain ⟨c9, iS9, hKn9⟩ := u_known (C := R_Fam) (T := T_Fam) (N := 18) (n := 18) hT in_Fam (hT (.instantiable R_Fam 18) vt_69)
  obtain ⟨c10, iS10, hKn10⟩ := u_known (C := R_Pri) (T := T_Pri) (N := 4) (n := 4) hT in_Pri (hT (.instantiable R_Pri 4) vt_76)
  obtain ⟨c11, iS11, hKn11⟩ := u_known (C := R_Ker) (T := T_Ker) (N := 14) (n := 14) hT in_Ker (hT (.instantiable R_Ker 14) vt_1764)
  obtain ⟨c12, iS12, hKn12⟩ := u_known (C := R_Mod) (T := T_Mod) (N := 76) (n := 76) hT in_Mod (hT (.instantiable R_Mod 76) vt_1872)
  obtain ⟨c13, iS13, hKn13⟩ := u_known (C := R_Wro) (T := T_Wro) (N := 8) (n := 8) hT in_Wro (hT (.instantiable R_Wro 8) vt_1459)
  obtain ⟨dC, dI, hKc⟩ : ∃ (dC : Nat → ClassId) (dI : Nat → Nat → Nat), ∀ (k : Nat) (q : vw_C), classes[k]? = some q → u_Kn s q.1 q.2.1 q.2.2 (dC k) (dI k) := by
    refine ⟨fun k => match k with | 0 => c0 | 1 => c1 | 2 => c2 | 3 => c3 | 4 => c4 | 5 => c5 | 6 => c6 | 7 => c7 | 8 => c8 | 9 => c9 | 10 => c10 | 11 => c11 | 12 => c12 | _ => c13, fun k => match k with | 0 => iS0 | 1 => iS1 | 2 => iS2 | 3 => iS3 | 4 => iS4 | 5 => iS5 | 6 => iS6 | 7 => iS7 | 8 => iS8 | 9 => iS9 | 10 => iS10 | 11 => iS11 | 12 => iS12 | _ => iS13, ?_⟩
    intro k q hq
    match k, hq with
    | 0, hq => cases hq; exact hKn0
    | 1, hq => cases hq; exact hKn1
    | 2, hq => cases hq; exact hKn2
    | 3, hq => cases hq; exact hKn3
    | 4, hq => cases hq; exact hKn4
    | 5, hq => cases hq; exact hKn5
    | 6, hq => cases hq; exact hKn6
    | 7, hq => cases hq; exact hKn7
    | 8, hq => cases hq; exact hKn8
    | 9, hq => cases hq; exact hKn9
    | 10, hq => cases hq; exact hKn10
    | 11, hq => cases hq; exact hKn11
    | 12, hq => cases hq; exact hKn12
    | 13, hq => cases hq; exact hKn13
    | k + 14, hq => simp [classes] at hq
  obtain ⟨cI, hI1, hI2⟩ := arr_known (hT _ vt_83)
  obtain ⟨cJ, hJ1, hJ2⟩ := arr_known (hT _ vt_95)
  obtain ⟨cB, hB1, hB2⟩ := arr_known (hT _ vt_1265)
  obtain ⟨cZ, hZ1, hZ2⟩ := arr_known (hT _ vt_1308)
  have hstr : ∀ i : Nat, ∃ av : Nat × Nat, i < 51 → (va_O "java/lang/String" av.1 A s s.heap ∧ va_OF "java/lang/String" "coder" "B" (.int 0) av.1 A s s.heap ∧ va_OF "java/lang/String" "value" "[B" (.ref av.2) av.1 A s s.heap ∧ va_T .byte av.2 (sLen.getD i 0) (fun j => .int ((sByt.getD i []).getD j 0)) A s s.heap) ∧ vk_R (sRef.getD i ("", 0, "")).1 (sRef.getD i ("", 0, "")).2.1 (sRef.getD i ("", 0, "")).2.2 av.1 s := fun i => by
    match i with
    | 0 => obtain ⟨a, v, h⟩ := sx_0 hs hts hA; exact ⟨(a, v), fun _ => h⟩
    | 1 => obtain ⟨a, v, h⟩ := sx_1 hs hts hA; exact ⟨(a, v), fun _ => h⟩
    | 2 => obtain ⟨a, v, h⟩ := sx_2 hs hts hA; exact ⟨(a, v), fun _ => h⟩
    | 3 => obtain ⟨a, v, h⟩ := sx_3 hs hts hA; exact ⟨(a, v), fun _ => h⟩
    | 4 => obtain ⟨a, v, h⟩ := sx_4 hs hts hA; exact ⟨(a, v), fun _ => h⟩
    | 5 => obtain ⟨a, v, h⟩ := sx_5 hs hts hA; exact ⟨(a, v), fun _ => h⟩
    | 6 => obtain ⟨a, v, h⟩ := sx_6 hs hts hA; exact ⟨(a, v), fun _ => h⟩
    | 7 => obtain ⟨a, v, h⟩ := sx_7 hs hts hA; exact ⟨(a, v), fun _ => h⟩
    | 8 => obtain ⟨a, v, h⟩ := sx_8 hs hts hA; exact ⟨(a, v), fun _ => h⟩
    | 9 => obtain ⟨a, v, h⟩ := sx_9 hs hts hA; exact ⟨(a, v), fun _ => h⟩
    | 10 => obtain ⟨a, v, h⟩ := sx_10 hs hts hA; exact ⟨(a, v), fun _ => h⟩
    | 11 => obtain ⟨a, v, h⟩ := sx_11 hs hts hA; exact ⟨(a, v), fun _ => h⟩
    | 12 => obtain ⟨a, v, h⟩ := sx_12 hs hts hA; exact ⟨(a, v), fun _ => h⟩
    | 13 => obtain ⟨a, v, h⟩ := sx_13 hs hts hA; exact ⟨(a, v), fun _ => h⟩
    | 14 => obtain ⟨a, v, h⟩ := sx_14 hs hts hA; exact ⟨(a, v), fun _ => h⟩
    | 15 => obtain ⟨a, v, h⟩ := sx_15 hs hts hA; exact ⟨(a, v), fun _ => h⟩
    | 16 => obtain ⟨a, v, h⟩ := sx_16 hs hts hA; exact ⟨(a, v), fun _ => h⟩
    | 17 => obtain ⟨a, v, h⟩ := sx_17 hs hts hA; exact ⟨(a, v), fun _ => h⟩
    | 18 => obtain ⟨a, v, h⟩ := sx_18 hs hts hA; exact ⟨(a, v), fun _ => h⟩
    | 19 => obtain ⟨a, v, h⟩ := sx_19 hs hts hA; exact ⟨(a, v), fun _ => h⟩
    | 20 => obtain ⟨a, v, h⟩ := sx_20 hs hts hA; exact ⟨(a, v), fun _ => h⟩
    | 21 => obtain ⟨a, v, h⟩ := sx_21 hs hts hA; exact ⟨(a, v), fun _ => h⟩
    | 22 => obtain ⟨a, v, h⟩ := sx_22 hs hts hA; exact ⟨(a, v), fun _ => h⟩
    | 23 => obtain ⟨a, v, h⟩ := sx_23 hs hts hA; exact ⟨(a, v), fun _ => h⟩
    | 24 => obtain ⟨a, v, h⟩ := sx_24 hs hts hA; exact ⟨(a, v), fun _ => h⟩
    | 25 => obtain ⟨a, v, h⟩ := sx_25 hs hts hA; exact ⟨(a, v), fun _ => h⟩
    | 26 => obtain ⟨a, v, h⟩ := sx_26 hs hts hA; exact ⟨(a, v), fun _ => h⟩
    | 27 => obtain ⟨a, v, h⟩ := sx_27 hs hts hA; exact ⟨(a, v), fun _ => h⟩
    | 28 => obtain ⟨a, v, h⟩ := sx_28 hs hts hA; exact ⟨(a, v), fun _ => h⟩
    | 29 => obtain ⟨a, v, h⟩ := sx_29 hs hts hA; exact ⟨(a, v), fun _ => h⟩
    | 30 => obtain ⟨a, v, h⟩ := sx_30 hs hts hA; exact ⟨(a, v), fun _ => h⟩
    | 31 => obtain ⟨a, v, h⟩ := sx_31 hs hts hA; exact ⟨(a, v), fun _ => h⟩
    | 32 => obtain ⟨a, v, h⟩ := sx_32 hs hts hA; exact ⟨(a, v), fun _ => h⟩
    | 33 => obtain ⟨a, v, h⟩ := sx_33 hs hts hA; exact ⟨(a, v), fun _ => h⟩
    | 34 => obtain ⟨a, v, h⟩ := sx_34 hs hts hA; exact ⟨(a, v), fun _ => h⟩
    | 35 => obtain ⟨a, v, h⟩ := sx_35 hs hts hA; exact ⟨(a, v), fun _ => h⟩
    | 36 => obtain ⟨a, v, h⟩ := sx_36 hs hts hA; exact ⟨(a, v), fun _ => h⟩
    | 37 => obtain ⟨a, v, h⟩ := sx_37 hs hts hA; exact ⟨(a, v), fun _ => h⟩
    | 38 => obtain ⟨a, v, h⟩ := sx_38 hs hts hA; exact ⟨(a, v), fun _ => h⟩
    | 39 => obtain ⟨a, v, h⟩ := sx_39 hs hts hA; exact ⟨(a, v), fun _ => h⟩
    | 40 => obtain ⟨a, v, h⟩ := sx_40 hs hts hA; exact ⟨(a, v), fun _ => h⟩
    | 41 => obtain ⟨a, v, h⟩ := sx_41 hs hts hA; exact ⟨(a, v), fun _ => h⟩
    | 42 => obtain ⟨a, v, h⟩ := sx_42 hs hts hA; exact ⟨(a, v), fun _ => h⟩
    | 43 => obtain ⟨a, v, h⟩ := sx_43 hs hts hA; exact ⟨(a, v), fun _ => h⟩
    | 44 => obtain ⟨a, v, h⟩ := sx_44 hs hts hA; exact ⟨(a, v), fun _ => h⟩
    | 45 => obtain ⟨a, v, h⟩ := sx_45 hs hts hA; exact ⟨(a, v), fun _ => h⟩
    | 46 => obtain ⟨a, v, h⟩ := sx_46 hs hts hA; exact ⟨(a, v), fun _ => h⟩
    | 47 => obtain ⟨a, v, h⟩ := sx_47 hs hts hA; exact ⟨(a, v), fun _ => h⟩
    | 48 => obtain ⟨a, v, h⟩ := sx_48 hs hts hA; exact ⟨(a, v), fun _ => h⟩
    | 49 => obtain ⟨a, v, h⟩ := sx_49 hs hts hA; exact ⟨(a, v), fun _ => h⟩
    | 50 => obtain ⟨a, v, h⟩ := sx_50 hs hts hA; exact ⟨(a, v), fun _ => h⟩
    | i + 51 => exact ⟨(0, 0), fun h => absurd h (by omega)⟩
  obtain ⟨av, hav⟩ := Classical.axiomOfChoice hstr
  refine ⟨dC, dI, cI, cJ, cB, cZ, fun i => (av i).1, fun i => (av i).2, fun kd md => ⟨⟨hKc, fun k q h => ?_⟩, fun q h => by rw [hAe]; exact h, ⟨x1, x2, x3, x4⟩, fun n d hnd cc k i f a hi ha => ?_, ⟨fun i hi => (hav i hi).1, fun i hi => (hav i hi).2, va_Zof (hts _ (List.mem_append_right _ (List.mem_of_getElem? (i := 492) rfl))) (hT _ vt_303) (va_eqt (hs _ (List.mem_of_getElem? (i := 4) rfl))) hA, va_Zqof (hts _ (List.mem_append_right _ (List.mem_of_getElem? (i := 508) rfl))) (hT _ vt_1761) (hs _ (List.mem_of_getElem? (i := 5) rfl)) hA⟩, ⟨va_Zqof (hts _ (List.mem_append_right _ (List.mem_of_getElem? (i := 646) rfl))) (hT _ vt_1758) (hs _ (List.mem_of_getElem? (i := 9) rfl)) hA, va_Zqof (hts _ (List.mem_append_right _ (List.mem_of_getElem? (i := 648) rfl))) (hT _ vt_1758) (hs _ (List.mem_of_getElem? (i := 10) rfl)) hA⟩, va_Nw.of rfl (hts _ (List.mem_append_right _ (List.mem_of_getElem? (i := 2003) rfl))), lNC.of (hs _ (List.mem_of_getElem? (i := 59) rfl))⟩⟩
  · match k, h with
    | 0, h => cases h; exact ⟨hI1, hI2⟩
    | 1, h => cases h; exact ⟨hJ1, hJ2⟩
    | 2, h => cases h; exact ⟨hB1, hB2⟩
    | 3, h => cases h; exact ⟨hZ1, hZ2⟩
    | k + 4, h => simp at h
  · have go : ∀ {n d : String}, (Cond.laysStatic "java/lang/Throwable" n d).before #[Value.ref b] s = true → s.fieldFound? "java/lang/Throwable" n d = some (cc, k, i, f) → k.statics = some a → ¬ A a ∧ a < s.heap.size := fun {n d} h1 h2 h3 => by
      obtain ⟨c', k', i', f', a', cell, -, e2, -, e4, e5, -⟩ := Cond.laysStatic_spec h1
      cases h2.symm.trans e2
      cases h3.symm.trans e4
      have lt := (Array.getElem?_eq_some_iff.mp e5).1
      exact ⟨hA _ lt, lt⟩
    rcases hnd with ⟨rfl, rfl⟩ | ⟨rfl, rfl⟩
    · exact go (hts _ (List.mem_append_right _ (List.mem_of_getElem? (i := 646) rfl))) hi ha
    · exact go (hts _ (List.mem_append_right _ (List.mem_of_getElem? (i := 648) rfl))) hi ha
