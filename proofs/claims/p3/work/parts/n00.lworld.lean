-- the law's world: the class's object, the reference, the array of the answer, side by side
section LSPLIT
variable {A : Nat → Prop} {D : va_G} {cl : List vw_C} {a b c : va_W} {H H1 : Heap}
theorem ap_l {k : Nat} {q : Nat × va_E} (h : a[k]? = some q) : (a ++ b)[k]? = some q := by
  rw [List.getElem?_append_left (List.getElem?_eq_some_iff.mp h).1]; exact h
theorem ap_r {k : Nat} {q : Nat × va_E} (h : b[k]? = some q) : (a ++ b)[a.length + k]? = some q := by
  rw [List.getElem?_append_right (Nat.le_add_right _ _), Nat.add_sub_cancel_left]; exact h
theorem ap_or {k : Nat} {q : Nat × va_E} (h : (a ++ b)[k]? = some q) : a[k]? = some q ∨ b[k - a.length]? = some q := by
  rcases Nat.lt_or_ge k a.length with z | z
  · rw [List.getElem?_append_left z] at h; exact Or.inl h
  · rw [List.getElem?_append_right z] at h; exact Or.inr h
theorem lp_l (h : va_P D cl (a ++ b) H) : va_P D cl a H := fun k q hk => h k q (ap_l hk)
theorem lp_r (h : va_P D cl (a ++ b) H) : va_P D cl b H := fun k q hk => h _ q (ap_r hk)
theorem ld_l (h : va_D A (a ++ b)) : va_D A a := ⟨fun i j p q hi hj e => h.1 i j p q (ap_l hi) (ap_l hj) e, fun k q hk => h.2 k q (ap_l hk)⟩
theorem ld_r (h : va_D A (a ++ b)) : va_D A b := ⟨fun i j p q hi hj e => by have := h.1 _ _ p q (ap_r (a := a) hi) (ap_r (a := a) hj) e; omega, fun k q hk => h.2 _ q (ap_r hk)⟩
theorem ld_ne (h : va_D A (a ++ b)) {i j : Nat} {p q : Nat × va_E} (hi : a[i]? = some p) (hj : b[j]? = some q) : p.1 ≠ q.1 := fun e => by
  have h1 := h.1 _ _ p q (ap_l (b := b) hi) (ap_r (a := a) hj) e
  have h2 := (List.getElem?_eq_some_iff.mp hi).1
  omega
theorem lp_sw (h : va_P D cl (a ++ (b ++ c)) H) : va_P D cl (b ++ (a ++ c)) H := (lp_l (lp_r h)).app ((lp_l h).app (lp_r (lp_r h)))
theorem ld_sw (h : va_D A (a ++ (b ++ c))) : va_D A (b ++ (a ++ c)) :=
  (ld_l (ld_r h)).app ((ld_l h).app (ld_r (ld_r h)) (fun i j p q hi hj => ld_ne h hi (ap_r hj))) (fun i j p q hi hj => by
    rcases ap_or hj with z | z
    · exact fun e => ld_ne h z (ap_l (b := c) hi) e.symm
    · exact ld_ne (ld_r h) hi z)
/-- the first part is changed, the other stays -/
theorem lj_join {A0 : Nat → Prop} {w1 w2 w3 : va_W} (hP : va_P D cl (w1 ++ w2) H) (hD : va_D A0 (w1 ++ w2)) (hk : ∀ q : Nat, q < H.size → ¬ va_A w1 H.size q → H1[q]? = H[q]?) (hF : ∀ q, va_A w1 H.size q → A0 q) (hP1 : va_P D cl w3 H1) (hD1 : va_D (va_A w1 H.size) w3) : va_P D cl (w3 ++ w2) H1 ∧ va_D A0 (w3 ++ w2) := by
  have apart : ∀ (k : Nat) (q : Nat × va_E), w2[k]? = some q → q.1 < H.size ∧ ¬ va_A w1 H.size q.1 := fun k q hq => by
    have hl := (lp_r hP k q hq).lt
    refine ⟨hl, fun z => ?_⟩
    rcases z with ⟨k2, e, z⟩ | z
    · exact ld_ne hD z hq rfl
    · omega
  exact ⟨hP1.app fun k q hq => (lp_r hP k q hq).kept (hk q.1 (apart k q hq).1 (apart k q hq).2), (hD1.weaken fun k q _ h => hF q.1 h).app (ld_r hD) fun i j p q hp hq e => (apart j q hq).2 (by rw [← e]; exact hD1.2 i p hp)⟩
end LSPLIT
section LNAR
variable {A B : Nat → Prop} {U : State}
theorem kSt.nar {g : kG} (h : kSt g A U) (hAB : ∀ q, B q → A q) : kSt g B U := by
  obtain ⟨h1, h2, h3, h4⟩ := h
  exact ⟨fun i hi => ⟨(h1 i hi).1.narrow hAB, (h1 i hi).2.1.narrow hAB, (h1 i hi).2.2.1.narrow hAB, (h1 i hi).2.2.2.narrow hAB⟩, h2, h3.narrow hAB, h4.narrow hAB⟩
theorem kE.nar {g : kG} (h : kE g A U) (hAB : ∀ q, B q → A q) (hn : ∀ q, U.heap.size ≤ q → B q) : kE g B U :=
  ⟨h.1, hn, h.2.2.1, fun n d hnd cc k i f a hi ha => ⟨fun z => (h.2.2.2.1 n d hnd cc k i f a hi ha).1 (hAB _ z), (h.2.2.2.1 n d hnd cc k i f a hi ha).2⟩, h.2.2.2.2.nar hAB⟩
theorem mE.nar {g : mG} (h : mE g A U) (hAB : ∀ q, B q → A q) (hn : ∀ q, U.heap.size ≤ q → B q) : mE g B U := ⟨h.1, hn, h.2.2.1.nar hAB, h.2.2.2.nar hAB⟩
end LNAR
abbrev lIAE : String := "java/lang/IllegalArgumentException"
abbrev lNSE : String := "java/util/NoSuchElementException"
abbrev lIOB : String := "java/lang/IndexOutOfBoundsException"
/-- no object of the class a fits the class b -/
def lNC (a b : String) (U : State) : Prop := ∃ c1 c2, U.vm.findClass a = some c1 ∧ U.vm.findClass b = some c2 ∧ U.vm.assignable c1 c2 = false
theorem lNC.moved {a b : String} {s U : State} (hvm : s.vm.Alike U.vm) (h : lNC a b s) : lNC a b U := by
  obtain ⟨c1, c2, h1, h2, h3⟩ := h
  exact ⟨c1, c2, by rw [hvm.findClass]; exact h1, by rw [hvm.findClass]; exact h2, by rw [hvm.assignable]; exact h3⟩
def lO (g : mG) (o : Nat) (w : Nat → Int64) : Nat × va_E := (o, .inl (kcJ g.1, 1, .inr (.inl w)))
def lW (g : mG) (o : Nat) (α : kS) (z : kZ) (β : mS) (w : Nat → Int64) : va_W := kW g.1 α z ++ (mW g β ++ [lO g o w])
/-- the heap holds them -/
def lHp (g : mG) (o : Nat) (A : Nat → Prop) (α : kS) (ad : Nat → Nat) (β : mS) (w : Nat → Int64) (H : Heap) : Prop := ∃ zf : Nat → Nat → Int32, va_P (kD g.1) classes (lW g o α (ad, zf) β w) H ∧ va_D A (lW g o α (ad, zf) β w) ∧ ∀ r, r < 21 → ∀ (j : Nat) (v : Int32), (α.2.1 r)[j]? = some v → zf r j = v
abbrev lTy (g : mG) : List (ClassId × FieldType) := [(kcI g.1, .int), (kcJ g.1, .long), (mcB g, .byte), (mcZ g, .boolean)]
abbrev lCW : Cond := .castable "FamilyKernelModel$Wrong" "FamilyKernelModel$Wrong"
/-- what holds of the whole state -/
def lE (g : mG) (A : Nat → Prop) (U : State) : Prop := va_K (kD g.1) classes (lTy g) U ∧ (∀ q, U.heap.size ≤ q → A q) ∧ (vx_X kISE U ∧ vx_X lIAE U ∧ vx_X lNSE U ∧ vx_X lIOB U) ∧ kNo A U ∧ kSt g.1 A U ∧ mZ A U ∧ va_Nw lCW U ∧ lNC lIAE lNSE U
def lB (g : mG) (o : Nat) (A : Nat → Prop) (α : kS) (ad : Nat → Nat) (β : mS) (w : Nat → Int64) (U : State) : Prop := lHp g o A α ad β w U.heap ∧ kOk α ∧ lE g A U
def lJ (g : mG) (o : Nat) (A : Nat → Prop) (s : State) (α : kS) (ad : Nat → Nat) (β : mS) (w : Nat → Int64) (H : Heap) (locs : List Loc) : Prop := lHp g o A α ad β w H ∧ kOk α ∧ va_S A s.heap H locs
section LENV
variable {g : mG} {A B : Nat → Prop} {s U : State} {H : Heap} {locs : List Loc} {o : Nat} {α : kS} {ad : Nat → Nat} {β : mS} {w : Nat → Int64}
theorem lE.k (h : lE g A s) : kE g.1 A s := ⟨h.1.sub [0, 1] rfl, h.2.1, h.2.2.1.1, h.2.2.2.1, h.2.2.2.2.1⟩
theorem lE.m (h : lE g A s) : mE g A s := ⟨h.1.sub [0, 2, 3] rfl, h.2.1, h.2.2.2.2.2.1, h.2.2.2.2.1⟩
theorem lE.by (h : lE g A s) (hW : s.WarmedH U.vm) (hsz : s.heap.size ≤ U.heap.size) (hF : ∀ q : Nat, q < s.heap.size → ¬ A q → U.heap[q]? = s.heap[q]?) : lE g A U := by
  obtain ⟨h1, h2, ⟨x1, x2, x3, x4⟩, h4, h5, h6, h7, h8⟩ := h
  exact ⟨va_K.moved hW.alike h1, fun q hq => h2 q (Nat.le_trans hsz hq), ⟨x1.by hW h4 hF, x2.by hW h4 hF, x3.by hW h4 hF, x4.by hW h4 hF⟩, h4.by hW.alike hsz, h5.by hW hF, h6.by hW hF, va_Nw.warmC hW h7, h8.moved hW.alike⟩
theorem lE.at (h : lE g A s) (hS : va_S A s.heap H locs) (hU : U.heap = H) (hW : s.WarmedH U.vm) : lE g A U := h.by hW (by rw [hU]; exact hS.1) (fun q h1 h2 => by rw [hU]; exact hS.2.1 q h1 h2)
theorem lE.nar (h : lE g A U) (hAB : ∀ q, B q → A q) (hn : ∀ q, U.heap.size ≤ q → B q) : lE g B U := by
  obtain ⟨h1, h2, h3, h4, h5, h6, h7, h8⟩ := h
  exact ⟨h1, hn, h3, fun n d hnd cc k i f a hi ha => ⟨fun z => (h4 n d hnd cc k i f a hi ha).1 (hAB _ z), (h4 n d hnd cc k i f a hi ha).2⟩, h5.nar hAB, h6.nar hAB, h7, h8⟩
theorem lB_blind {av : List Value} : FrameBlind (va_Pc av (lB g o A α ad β w)) :=
  fun a U g mk h => ⟨h.1, h.2.1, h.2.2.1, h.2.2.2.by (U := U.calling g mk a) (State.WarmedH.refl U) (Nat.le_refl _) (fun _ _ _ => rfl)⟩
theorem kBX_blind {k : kG} {E : String} {av : List Value} : FrameBlind (fun a U => va_Pc av (kB k A α ad) a U ∧ vx_X E U) :=
  fun a U g mk h => ⟨kB_blind a U g mk h.1, vx_X.calling h.2⟩
theorem mBN_blind {av : List Value} : FrameBlind (fun a U => va_Pc av (mB g A β) a U ∧ va_Nw lCW U) :=
  fun a U g mk h => ⟨mB_blind a U g mk h.1, va_Nw.warmC (U := U.calling g mk a) (State.WarmedH.refl U) h.2⟩
theorem lJ.to {av : List Value} (h : lJ g o A s α ad β w H locs) (E : lE g A s) : ∀ U : State, U.heap = H → s.WarmedH U.vm → va_Pc av (lB g o A α ad β w) av.toArray U :=
  fun U hU hW => ⟨rfl, by rw [hU]; exact h.1, h.2.1, E.at h.2.2 hU hW⟩
/-- the class's part, its own cells alone free -/
theorem lJ.kz (h : lJ g o A s α ad β w H locs) (E : lE g A s) : ∃ zf, (∀ q, va_A (kW g.1 α (ad, zf)) H.size q → A q) ∧ (∃ cellB : Cell, H[kad g.1 0]? = some cellB ∧ cellB.vm.isStatics = false ∧ s.vm.findClass R_Ker = some cellB.cls) ∧ (∀ (av : List Value) (U : State), U.heap = H → s.WarmedH U.vm → va_Pc av (kB g.1 (va_A (kW g.1 α (ad, zf)) H.size) α ad) av.toArray U) ∧
    ∀ (α' : kS) (ad' : Nat → Nat) (H1 : Heap) (locs1 : List Loc), kHp g.1 (va_A (kW g.1 α (ad, zf)) H.size) α' ad' H1 → kOk α' → (∀ q : Nat, q < H.size → ¬ va_A (kW g.1 α (ad, zf)) H.size q → H1[q]? = H[q]?) → va_S A s.heap H1 locs1 → lJ g o A s α' ad' β w H1 locs1 := by
  obtain ⟨⟨zf, hP, hD, hz⟩, hO, hS⟩ := h
  have hF : ∀ q, va_A (kW g.1 α (ad, zf)) H.size q → A q := fun q z => by
    rcases z with ⟨k, e, z⟩ | z
    · exact (ld_l hD).2 k (q, e) z
    · exact E.2.1 q (Nat.le_trans hS.1 z)
  refine ⟨zf, hF, va_recv E.1 (lp_l hP) (ci := 11) (q0 := 0) rfl rfl, fun av U hU hW => ⟨rfl, ⟨zf, by rw [hU]; exact lp_l hP, (ld_l hD).self, hz⟩, hO, (E.at hS hU hW).k.nar hF (fun q hq => Or.inr (by rw [← hU]; exact hq))⟩, fun α' ad' H1 locs1 hB hO' hk hS1 => ?_⟩
  obtain ⟨zf', hP', hD', hz'⟩ := hB
  obtain ⟨j1, j2⟩ := lj_join hP hD hk hF hP' hD'
  exact ⟨⟨zf', j1, j2, hz'⟩, hO', hS1⟩
/-- the reference's part -/
theorem lJ.mz (h : lJ g o A s α ad β w H locs) (E : lE g A s) : (∀ q, va_A (mW g β) H.size q → A q) ∧ (∃ cellB : Cell, H[mad g 0]? = some cellB ∧ cellB.vm.isStatics = false ∧ s.vm.findClass R_Mod = some cellB.cls) ∧ (∀ (av : List Value) (U : State), U.heap = H → s.WarmedH U.vm → va_Pc av (mB g (va_A (mW g β) H.size) β) av.toArray U) ∧
    ∀ (β' : mS) (H1 : Heap) (locs1 : List Loc), mHp g (va_A (mW g β) H.size) β' H1 → (∀ q : Nat, q < H.size → ¬ va_A (mW g β) H.size q → H1[q]? = H[q]?) → va_S A s.heap H1 locs1 → lJ g o A s α ad β' w H1 locs1 := by
  obtain ⟨⟨zf, hP, hD, hz⟩, hO, hS⟩ := h
  have hP2 := lp_sw hP
  have hD2 := ld_sw hD
  have hF : ∀ q, va_A (mW g β) H.size q → A q := fun q z => by
    rcases z with ⟨k, e, z⟩ | z
    · exact (ld_l hD2).2 k (q, e) z
    · exact E.2.1 q (Nat.le_trans hS.1 z)
  refine ⟨hF, va_recv E.1 (lp_l hP2) (ci := 12) (q0 := 0) rfl rfl, fun av U hU hW => ⟨rfl, ⟨by rw [hU]; exact lp_l hP2, (ld_l hD2).self⟩, (E.at hS hU hW).m.nar hF (fun q hq => Or.inr (by rw [← hU]; exact hq))⟩, fun β' H1 locs1 hB hk hS1 => ?_⟩
  obtain ⟨j1, j2⟩ := lj_join hP2 hD2 hk hF hB.1 hB.2
  exact ⟨⟨zf, lp_sw j1, ld_sw j2, hz⟩, hO, hS1⟩
end LENV
section LCALL
variable {p : Program} {l : Launch} {e : Env} {R : Room} {s : State} {m : MethodId} {args : Array Value} {below : List Frame} {meth : Method} {c : Code} {H : Heap} {locs : List Loc} {cells slots : Nat} {A : Nat → Prop} {cc : ByteArray} {Q : State → Prop}
variable {y : MethodName} {bytes : ByteArray} {maxL nL n0 index fr lo : Nat} {ret : Option FieldType} {own : String} {As rest st0 : List Value} {ls : Array Slot} {pc : Nat}
variable {g : mG} {o : Nat} {α : kS} {ad : Nat → Nat} {β : mS} {w : Nat → Int64}
/-- a method of the class that returns a number -/
theorem lk_call {f : Option (kO × kS)} {v : Int32} {α' : kS} (hf : f = some (some (some v), α')) (hM : ∀ x, f = some x → kC l g.1 y bytes maxL ret fr lo (.ref (kad g.1 0) :: As) α (kQr x)) (S : CallFix p m c cc nL s args vT own) (E : lE g A s) (hJ : lJ g o A s α ad β w H locs) (hw : kWv own index R_Ker y bytes maxL ret n0) (hR : fr + 1 ≤ R.frames ∧ 8 + (maxL + 11) + lo ≤ R.locals) (hc : cells + ((kM - kF α) / 32 + 1) ≤ R.cells ∧ slots + (kM - kF α + 6) ≤ R.slots)
    (hn : As.length = n0) (hsize : ls.size = nL) (hstack : st0 = As.reverse ++ .ref (kad g.1 0) :: rest) (hW : (rest.map fun v => v.category).sum ≤ 8) (hdg : decode cc pc = .ok (.invokevirtual index, 3))
    (kk : ∀ (ad' : Nat → Nat) (H1 : Heap) (locs1 : List Loc) (k n : Nat), n + kF α ≤ kF α' → 32 * k + kF α ≤ kF α' → lJ g o A s α' ad' β w H1 locs1 → W p l e R s m args below meth c H1 locs1 (cells + k) (slots + n) Q (F0 m (pc + 3) ls (.int v :: rest))) :
    W p l e R s m args below meth c H locs cells slots Q (F0 m pc ls st0) := by
  obtain ⟨w1, w2, w3, w4, w5, w6⟩ := hw
  obtain ⟨zf, hF, hrecv, hto, hback⟩ := hJ.kz E
  refine vE_callG (H0 := s.heap) S (hM _ hf _ ad) (Or.inl rfl) w1 w2 w3 w4 w5 w6 hR ⟨kB_blind, hrecv, hto _⟩ hn hsize hstack hW hdg hc hJ.2.2 hF ?_ ?_
  · intro v' st t H1 locs1 k n _ ht _ hq _ hk hS1
    obtain ⟨α2, ad', ⟨rfl, hQ2⟩, hB, hRm, -, hk1, hk2⟩ := hq
    cases hQ2
    exact kk ad' H1 locs1 k n hk1 hk2 (hback _ ad' H1 locs1 (by rw [← ht]; exact hB.1) hB.2.1 hk hS1)
  · intro x st t T' H1 locs1 k n _ _ _ _ _ hq
    obtain ⟨α2, ad', ⟨rfl, hQ2⟩, -⟩ := hq
    cases hQ2
/-- read of the class -/
theorem lk_read {x : Int32 × kS} {hh : List (Nat × Nat × Nat × Nat)} (hM : ∀ (A : Nat → Prop) (ad : Nat → Nat), vE l y (Cond.codeWith y bytes maxL ret hh :: vT) (kRe fr lo α) (va_Pc [.ref (kad g.1 0)] (kB g.1 A α ad)) (kQs g.1 A α ad x) A) (S : CallFix p m c cc nL s args vT own) (E : lE g A s) (hJ : lJ g o A s α ad β w H locs)
    (w1 : Cond.methodLink own index y ∈ vT) (w2 : Cond.instanceMethod y ∈ vT) (w3 : Cond.selects R_Ker y y ∈ vT) (w4 : Cond.initialized y.cls ∈ vT) (w5 : Cond.codeWith y bytes maxL ret hh ∈ vT) (w6 : y.cls ≠ "java/lang/invoke/MethodHandle" ∧ y.cls ≠ "java/lang/invoke/VarHandle" ∧ (parseMethodDescriptor y.desc).map (fun d => d.parameters.length) = some 0)
    (hR : fr + 1 ≤ R.frames ∧ 8 + (maxL + 11) + lo ≤ R.locals) (hc : cells + ((kM - kF α) / 32 + 2) ≤ R.cells ∧ slots + (kM - kF α + 12) ≤ R.slots) (hsize : ls.size = nL) (hW : (rest.map fun v => v.category).sum ≤ 8) (hdg : decode cc pc = .ok (.invokevirtual index, 3))
    (kk : ∀ (ad' : Nat → Nat) (H1 : Heap) (locs1 : List Loc) (k n : Nat), n + kF α ≤ kF x.2 + 6 → 32 * k + kF α ≤ kF x.2 + 32 → lJ g o A s x.2 ad' β w H1 locs1 → W p l e R s m args below meth c H1 locs1 (cells + k) (slots + n) Q (F0 m (pc + 3) ls (.int x.1 :: rest))) :
    W p l e R s m args below meth c H locs cells slots Q (F0 m pc ls (.ref (kad g.1 0) :: rest)) := by
  obtain ⟨zf, hF, hrecv, hto, hback⟩ := hJ.kz E
  refine vE_callG (H0 := s.heap) (As := []) S (hM _ ad) (Or.inr ⟨hh, rfl⟩) w1 w2 w3 w4 w5 w6 hR ⟨kB_blind, hrecv, hto _⟩ rfl hsize rfl hW hdg hc hJ.2.2 hF ?_ ?_
  · intro v' st t H1 locs1 k n _ ht _ hq _ hk hS1
    obtain ⟨ad', hQ2, hB, hRm, hk1, hk2⟩ := hq
    cases hQ2
    exact kk ad' H1 locs1 k n hk1 hk2 (hback _ ad' H1 locs1 (by rw [← ht]; exact hB.1) hB.2.1 hk hS1)
  · intro x st t T' H1 locs1 k n _ _ _ _ _ hq
    obtain ⟨ad', hQ2, -⟩ := hq
    cases hQ2
/-- a method of the class that only reads -/
theorem lk_pure {v : Int32} (hM : kV l g.1 y bytes maxL ret fr lo (.ref (kad g.1 0) :: As) α v) (S : CallFix p m c cc nL s args vT own) (E : lE g A s) (hJ : lJ g o A s α ad β w H locs) (hw : kWv own index R_Ker y bytes maxL ret n0) (hC : R_Ker = y.cls) (hR : fr + 1 ≤ R.frames ∧ 8 + (maxL + 11) + lo ≤ R.locals) (hc : cells ≤ R.cells ∧ slots ≤ R.slots)
    (hn : As.length = n0) (hsize : ls.size = nL) (hstack : st0 = As.reverse ++ .ref (kad g.1 0) :: rest) (hW : (rest.map fun v => v.category).sum ≤ 8) (hdg : decode cc pc = .ok (.invokevirtual index, 3))
    (kk : W p l e R s m args below meth c H locs cells slots Q (F0 m (pc + 3) ls (.int v :: rest))) :
    W p l e R s m args below meth c H locs cells slots Q (F0 m pc ls st0) := by
  obtain ⟨w1, w2, w3, w4, w5, w6, w7, w8⟩ := hw
  obtain ⟨hexec, hb, hml, hown, hts⟩ := S
  obtain ⟨zf, hF, hrecv, hto, hback⟩ := hJ.kz E
  subst hstack
  refine W.callR (W.runV (As := As) (rest := rest) ⟨hexec, hb, hml, hown, hts⟩ (hM _ ad) (cwV n0 hts (gV w1 w2 w3 (by rw [hC]; exact w4) w5) rfl rfl rfl ⟨hC.symm, w6, w7, w8⟩ hR) ⟨kB_blind, hrecv, hto _⟩ rfl hn hsize rfl (lv_room hW) hdg hc) kk
/-- a method of the reference that returns a number -/
theorem lm_call {f : Option (kO × mS)} {v : Int32} {β' : mS} (hf : f = some (some (some v), β')) (hM : ∀ x, f = some x → mC l g y bytes maxL ret fr lo (.ref (mad g 0) :: As) β (mQr x)) (S : CallFix p m c cc nL s args vT own) (E : lE g A s) (hJ : lJ g o A s α ad β w H locs) (hw : kWv own index R_Mod y bytes maxL ret n0) (hR : fr + 1 ≤ R.frames ∧ 8 + (maxL + 11) + lo ≤ R.locals) (hc : cells + 1 ≤ R.cells ∧ slots + 8 ≤ R.slots)
    (hn : As.length = n0) (hsize : ls.size = nL) (hstack : st0 = As.reverse ++ .ref (mad g 0) :: rest) (hW : (rest.map fun v => v.category).sum ≤ 8) (hdg : decode cc pc = .ok (.invokevirtual index, 3))
    (kk : ∀ (H1 : Heap) (locs1 : List Loc), lJ g o A s α ad β' w H1 locs1 → W p l e R s m args below meth c H1 locs1 cells slots Q (F0 m (pc + 3) ls (.int v :: rest))) :
    W p l e R s m args below meth c H locs cells slots Q (F0 m pc ls st0) := by
  obtain ⟨w1, w2, w3, w4, w5, w6⟩ := hw
  obtain ⟨hF, hrecv, hto, hback⟩ := hJ.mz E
  refine vE_callG (H0 := s.heap) S (hM _ hf _) (Or.inl rfl) w1 w2 w3 w4 w5 w6 hR ⟨mB_blind, hrecv, hto _⟩ hn hsize hstack hW hdg hc hJ.2.2 hF ?_ ?_
  · intro v' st t H1 locs1 k n _ ht _ hq _ hk hS1
    obtain ⟨β2, ⟨rfl, hQ2⟩, hB, -, hk1, hk2⟩ := hq
    cases hQ2
    have hz : kx (.returned (some (.int v))) = 0 := rfl
    rw [hz] at hk1 hk2
    subst hk1; subst hk2
    exact kk H1 locs1 (hback _ H1 locs1 (by rw [← ht]; exact hB.1) hk hS1)
  · intro x st t T' H1 locs1 k n _ _ _ _ _ hq
    obtain ⟨β2, ⟨rfl, hQ2⟩, -⟩ := hq
    cases hQ2
/-- read of the reference -/
theorem lm_read {x : Int32 × mS} {hh : List (Nat × Nat × Nat × Nat)} (hM : ∀ A : Nat → Prop, vE l y (Cond.codeWith y bytes maxL ret hh :: vT) (mR fr lo) (fun a U => va_Pc [.ref (mad g 0)] (mB g A β) a U ∧ va_Nw lCW U) (mQs g A x) A) (S : CallFix p m c cc nL s args vT own) (E : lE g A s) (hJ : lJ g o A s α ad β w H locs)
    (w1 : Cond.methodLink own index y ∈ vT) (w2 : Cond.instanceMethod y ∈ vT) (w3 : Cond.selects R_Mod y y ∈ vT) (w4 : Cond.initialized y.cls ∈ vT) (w5 : Cond.codeWith y bytes maxL ret hh ∈ vT) (w6 : y.cls ≠ "java/lang/invoke/MethodHandle" ∧ y.cls ≠ "java/lang/invoke/VarHandle" ∧ (parseMethodDescriptor y.desc).map (fun d => d.parameters.length) = some 0)
    (hR : fr + 1 ≤ R.frames ∧ 8 + (maxL + 11) + lo ≤ R.locals) (hc : cells + 1 ≤ R.cells ∧ slots + 8 ≤ R.slots) (hsize : ls.size = nL) (hW : (rest.map fun v => v.category).sum ≤ 8) (hdg : decode cc pc = .ok (.invokevirtual index, 3))
    (kk : ∀ (H1 : Heap) (locs1 : List Loc) (k n : Nat), k ≤ 1 → n ≤ 8 → lJ g o A s α ad x.2 w H1 locs1 → W p l e R s m args below meth c H1 locs1 (cells + k) (slots + n) Q (F0 m (pc + 3) ls (.int x.1 :: rest))) :
    W p l e R s m args below meth c H locs cells slots Q (F0 m pc ls (.ref (mad g 0) :: rest)) := by
  obtain ⟨hF, hrecv, hto, hback⟩ := hJ.mz E
  refine vE_callG (H0 := s.heap) (As := []) S (hM _) (Or.inr ⟨hh, rfl⟩) w1 w2 w3 w4 w5 w6 hR ⟨mBN_blind, hrecv, fun U hU hW => ⟨hto _ U hU hW, va_Nw.warmC hW E.2.2.2.2.2.2.1⟩⟩ rfl hsize rfl hW hdg hc hJ.2.2 hF ?_ ?_
  · intro v' st t H1 locs1 k n _ ht _ hq _ hk hS1
    obtain ⟨hQ2, hB, hk1, hk2⟩ := hq
    cases hQ2
    exact kk H1 locs1 k n hk1 hk2 (hback _ H1 locs1 (by rw [← ht]; exact hB.1) hk hS1)
  · intro x st t T' H1 locs1 k n _ _ _ _ _ hq
    obtain ⟨hQ2, -⟩ := hq
    cases hQ2
/-- a method of the reference that only reads -/
theorem lm_pure {v : Int32} (hM : mV l g y bytes maxL ret fr lo (.ref (mad g 0) :: As) β v) (S : CallFix p m c cc nL s args vT own) (E : lE g A s) (hJ : lJ g o A s α ad β w H locs) (hw : kWv own index R_Mod y bytes maxL ret n0) (hC : R_Mod = y.cls) (hR : fr + 1 ≤ R.frames ∧ 8 + (maxL + 11) + lo ≤ R.locals) (hc : cells ≤ R.cells ∧ slots ≤ R.slots)
    (hn : As.length = n0) (hsize : ls.size = nL) (hstack : st0 = As.reverse ++ .ref (mad g 0) :: rest) (hW : (rest.map fun v => v.category).sum ≤ 8) (hdg : decode cc pc = .ok (.invokevirtual index, 3))
    (kk : W p l e R s m args below meth c H locs cells slots Q (F0 m (pc + 3) ls (.int v :: rest))) :
    W p l e R s m args below meth c H locs cells slots Q (F0 m pc ls st0) := by
  obtain ⟨w1, w2, w3, w4, w5, w6, w7, w8⟩ := hw
  obtain ⟨hexec, hb, hml, hown, hts⟩ := S
  obtain ⟨hF, hrecv, hto, hback⟩ := hJ.mz E
  subst hstack
  refine W.callR (W.runV (As := As) (rest := rest) ⟨hexec, hb, hml, hown, hts⟩ (hM _) (cwV n0 hts (gV w1 w2 w3 (by rw [hC]; exact w4) w5) rfl rfl rfl ⟨hC.symm, w6, w7, w8⟩ hR) ⟨mB_blind, hrecv, hto _⟩ rfl hn hsize rfl (lv_room hW) hdg hc) kk
end LCALL
