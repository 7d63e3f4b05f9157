-- read: a method whose table takes what the kernel throws
def kIs (g : kG) (A : Nat → Prop) (s : State) (α0 : kS) (ad0 : Nat → Nat) (α : kS) (ad : Nat → Nat) (H : Heap) (locs : List Loc) (cells slots e : Nat) : Prop := kJ g A s α ad H locs ∧ kRm α0 ad0 α ad ∧ slots + kF α0 ≤ kF α + 6 * e ∧ 32 * cells + kF α0 ≤ kF α + 32 * e ∧ e ≤ 1
def kRe (fr lo : Nat) (α : kS) : Room := { frames := fr, cells := (kM - kF α) / 32 + 2, slots := kM - kF α + 12, locals := lo }
def kQs (g : kG) (A : Nat → Prop) (α : kS) (ad : Nat → Nat) (x : Int32 × kS) : Array Value → State → Outcome → State → Nat → Nat → Prop := fun _ _ o t k n => ∃ ad' : Nat → Nat, o = .returned (some (.int x.1)) ∧ kB g A x.2 ad' t ∧ kRm α ad x.2 ad' ∧ n + kF α ≤ kF x.2 + 6 ∧ 32 * k + kF α ≤ kF x.2 + 32
def kBn (x : Option (kO × kS)) (k : kS → Option (Int32 × kS)) : Option (Int32 × kS) := match x with
  | some (some none, α) => k α
  | _ => none
def kBc (x : Option (kO × kS)) (k kx : kS → Option (Int32 × kS)) : Option (Int32 × kS) := match x with
  | some (some none, α) => k α
  | some (none, α) => kx α
  | _ => none
theorem kIs.room {g : kG} {A : Nat → Prop} {s : State} {α0 α : kS} {ad0 ad : Nat → Nat} {H : Heap} {locs : List Loc} {cells slots fr lo e : Nat} (hI : kIs g A s α0 ad0 α ad H locs cells slots e) : cells ≤ (kRe fr lo α0).cells ∧ slots ≤ (kRe fr lo α0).slots := by
  have hF := hI.1.2.1.F
  obtain ⟨-, -, b1, b2, b3⟩ := hI
  refine ⟨?_, ?_⟩
  · show cells ≤ (kM - kF α0) / 32 + 2
    omega
  · show slots ≤ kM - kF α0 + 12
    omega
section KRD
variable {p : Program} {l : Launch} {e : Env} {fr0 lo0 : Nat} {s : State} {m : MethodId} {args : Array Value} {below : List Frame} {meth : Method} {c : Code} {H : Heap} {locs : List Loc} {cells slots ee : Nat} {g : kG} {A : Nat → Prop} {α0 α : kS} {ad0 ad : Nat → Nat} {x : Int32 × kS} {cc : ByteArray} {Q : State → Prop}
variable {y : MethodName} {bytes : ByteArray} {maxL nL n0 index fr lo : Nat} {ret : Option FieldType} {own C : String} {b : Addr} {As rest st0 : List Value} {ls : Array Slot} {pc : Nat}
theorem kr_iret {v : Int32} (hx : p.tables.exec = Jvm.exec) (hb : c.code = cc) (hr : meth.sig.returnType = some .int) (hlocks : meth.locks = false) (E : kE g A s) (hI : kIs g A s α0 ad0 α ad H locs cells slots ee) (h : some ((v, α) : Int32 × kS) = some x) {R : Room} (hdg : decode cc pc = .ok (.ireturn, 1)) :
    W p l e R s m args below meth c H locs cells slots (vEQ below (kQs g A α0 ad0 x) args s A) (F0 m pc ls [.int v]) := by
  cases h
  obtain ⟨h1, h2, h3, h4, h5⟩ := hI
  exact vE_iret hx hb hr (fun t ht hW => ⟨ad, rfl, ⟨by rw [ht]; exact h1.1, h1.2.1, E.at h1.2.2 ht hW⟩, h2, by show slots + kF α0 ≤ kF α + 6; omega, by show 32 * cells + kF α0 ≤ kF α + 32; omega⟩) h1.2.2.2.2 hdg hlocks
/-- the call itself -/
theorem kr_call {f : kO × kS} (hM : kC l g y bytes maxL ret fr lo (.ref b :: As) α (kQr f)) (S : CallFix p m c cc nL s args vT own) (E : kE g A s) (hI : kIs g A s α0 ad0 α ad H locs cells slots ee) (hw : kWv own index C y bytes maxL ret n0) (hR : fr + 1 ≤ fr0 ∧ 8 + (maxL + 11) + lo ≤ lo0)
    (hrecv : ∃ cellB : Cell, H[b]? = some cellB ∧ cellB.vm.isStatics = false ∧ s.vm.findClass C = some cellB.cls) (hn : As.length = n0) (hsize : ls.size = nL) (hstack : st0 = As.reverse ++ .ref b :: rest) (hW : (rest.map fun v => v.category).sum ≤ 8) (hdg : decode cc pc = .ok (.invokevirtual index, 3))
    (kr : ∀ (v : Option Value) (ad' : Nat → Nat) (H1 : Heap) (locs1 : List Loc) (cells1 slots1 : Nat), kQr f (.returned v) f.2 → kRm α ad f.2 ad' → kIs g A s α0 ad0 f.2 ad' H1 locs1 cells1 slots1 ee → W p l e (kRe fr0 lo0 α0) s m args below meth c H1 locs1 cells1 slots1 Q (F0 m (pc + 3) ls (v.toList ++ rest)))
    (kxx : f.1 = none → ∀ (a : Addr) (T' : State) (ad' : Nat → Nat) (H1 : Heap) (locs1 : List Loc) (cells1 slots1 : Nat) (ce : Cell), T'.heap = H1 → Stand p l e (kRe fr0 lo0 α0) s m args below meth c T' locs1 cells1 slots1 → H1[a]? = some ce → ce.vm.isStatics = false → s.vm.findClass kISE = some ce.cls → kRm α ad f.2 ad' → (ee = 0 → kIs g A s α0 ad0 f.2 ad' H1 locs1 cells1 slots1 1) → ∃ tt, Steps p.tables e below ((T'.setTop (F0 m pc ls rest)).pushFrame (.throwing a)) tt ∧ Q tt) :
    W p l e (kRe fr0 lo0 α0) s m args below meth c H locs cells slots Q (F0 m pc ls st0) := by
  obtain ⟨w1, w2, w3, w4, w5, w6⟩ := hw
  have hF := hI.1.2.1.F
  obtain ⟨hJ, hRm0, b1, b2, b3⟩ := hI
  refine vE_callG (A1 := A) (H0 := s.heap) S (hM A ad) (Or.inl rfl) w1 w2 w3 w4 w5 w6 hR ⟨kB_blind, hrecv, hJ.to E⟩ hn hsize hstack hW hdg ⟨?_, ?_⟩ hJ.2.2 (fun _ h => h) ?_ ?_
  · show cells + ((kM - kF α) / 32 + 1) ≤ (kM - kF α0) / 32 + 2
    omega
  · show slots + (kM - kF α + 6) ≤ kM - kF α0 + 12
    omega
  · intro v st t H1 locs1 k n _ ht _ hq _ _ hS1
    obtain ⟨α', ad', hQ, hB, hRm, -, hk1, hk2⟩ := hq
    obtain ⟨rfl, hQ2⟩ := hQ
    have hz : kx (.returned v) = 0 := rfl
    rw [hz] at hk1 hk2
    exact kr v ad' H1 locs1 (cells + k) (slots + n) ⟨rfl, hQ2⟩ hRm ⟨⟨by rw [← ht]; exact hB.1, hB.2.1, hS1⟩, hRm0.tr hRm, by omega, by omega, b3⟩
  · intro a st t T' H1 locs1 k n _ ht hT' hal X' hq _ _ hS1
    obtain ⟨α', ad', hQ, hB, hRm, hX, hk1, hk2⟩ := hq
    obtain ⟨rfl, hQ2⟩ := hQ
    have hz : kx (.threw a) = 1 := rfl
    rw [hz] at hk1 hk2
    obtain ⟨ce, c1, c2, c3⟩ := hX a rfl
    have hf : f.1 = none := by
      cases h9 : f.1 with
      | none => rfl
      | some o9 =>
        rw [h9] at hQ2
        cases o9 with
        | none => cases hQ2
        | some v9 => cases hQ2
    exact kxx hf a T' ad' H1 locs1 _ _ ce hT' X' (by rw [← ht]; exact c1) c2 (by rw [← hal.findClass]; exact c3) hRm (fun h0 => ⟨⟨by rw [← ht]; exact hB.1, hB.2.1, hS1⟩, hRm0.tr hRm, by omega, by omega, Nat.le_refl _⟩)
theorem kr_tV {β : kS} (hM : kC l g y bytes maxL ret fr lo (.ref b :: As) α (kQr (some none, β))) (S : CallFix p m c cc nL s args vT own) (E : kE g A s) (hI : kIs g A s α0 ad0 α ad H locs cells slots ee) (hw : kWv own index C y bytes maxL ret n0) (hR : fr + 1 ≤ fr0 ∧ 8 + (maxL + 11) + lo ≤ lo0)
    (hrecv : ∃ cellB : Cell, H[b]? = some cellB ∧ cellB.vm.isStatics = false ∧ s.vm.findClass C = some cellB.cls) (hn : As.length = n0) (hsize : ls.size = nL) (hstack : st0 = As.reverse ++ .ref b :: rest) (hW : (rest.map fun v => v.category).sum ≤ 8) (hdg : decode cc pc = .ok (.invokevirtual index, 3))
    (kr : ∀ (ad' : Nat → Nat) (H1 : Heap) (locs1 : List Loc) (cells1 slots1 : Nat), kRm α ad β ad' → kIs g A s α0 ad0 β ad' H1 locs1 cells1 slots1 ee → W p l e (kRe fr0 lo0 α0) s m args below meth c H1 locs1 cells1 slots1 Q (F0 m (pc + 3) ls rest)) :
    W p l e (kRe fr0 lo0 α0) s m args below meth c H locs cells slots Q (F0 m pc ls st0) := by
  refine kr_call hM S E hI hw hR hrecv hn hsize hstack hW hdg (fun v ad' H1 locs1 cells1 slots1 hq hRm hI1 => ?_) (fun h => by cases h)
  cases hq.2
  exact kr ad' H1 locs1 cells1 slots1 hRm hI1
theorem kr_cV {f : Option (kO × kS)} {k : kS → Option (Int32 × kS)} (h : kBn f k = some x) (hM : ∀ y1, f = some y1 → kC l g y bytes maxL ret fr lo (.ref b :: As) α (kQr y1)) (S : CallFix p m c cc nL s args vT own) (E : kE g A s) (hI : kIs g A s α0 ad0 α ad H locs cells slots ee) (hw : kWv own index C y bytes maxL ret n0) (hR : fr + 1 ≤ fr0 ∧ 8 + (maxL + 11) + lo ≤ lo0)
    (hrecv : ∃ cellB : Cell, H[b]? = some cellB ∧ cellB.vm.isStatics = false ∧ s.vm.findClass C = some cellB.cls) (hn : As.length = n0) (hsize : ls.size = nL) (hstack : st0 = As.reverse ++ .ref b :: rest) (hW : (rest.map fun v => v.category).sum ≤ 8) (hdg : decode cc pc = .ok (.invokevirtual index, 3))
    (kr : ∀ (α' : kS) (ad' : Nat → Nat) (H1 : Heap) (locs1 : List Loc) (cells1 slots1 : Nat), k α' = some x → kIs g A s α0 ad0 α' ad' H1 locs1 cells1 slots1 ee → W p l e (kRe fr0 lo0 α0) s m args below meth c H1 locs1 cells1 slots1 Q (F0 m (pc + 3) ls rest)) :
    W p l e (kRe fr0 lo0 α0) s m args below meth c H locs cells slots Q (F0 m pc ls st0) := by
  match f, hM, h with
  | some (some none, α1), hM, h => exact kr_tV (hM _ rfl) S E hI hw hR hrecv hn hsize hstack hW hdg (fun ad' H1 locs1 cells1 slots1 _ hI1 => kr α1 ad' H1 locs1 cells1 slots1 h hI1)
  | some (some (some v), α1), hM, h => cases h
  | some (none, α1), hM, h => cases h
  | none, hM, h => cases h
/-- a call within the table's reach -/
theorem kr_try {f : Option (kO × kS)} {k kc : kS → Option (Int32 × kS)} (h : kBc f k kc = some x) (hM : ∀ y1, f = some y1 → kC l g y bytes maxL ret fr lo (.ref b :: As) α (kQr y1)) (S : CallFix p m c cc nL s args vT own) (E : kE g A s) (hI : kIs g A s α0 ad0 α ad H locs cells slots 0) (hw : kWv own index C y bytes maxL ret n0) (hR : fr + 1 ≤ fr0 ∧ 8 + (maxL + 11) + lo ≤ lo0)
    (hrecv : ∃ cellB : Cell, H[b]? = some cellB ∧ cellB.vm.isStatics = false ∧ s.vm.findClass C = some cellB.cls) (hn : As.length = n0) (hsize : ls.size = nL) (hstack : st0 = As.reverse ++ .ref b :: rest) (hW : (rest.map fun v => v.category).sum ≤ 8) (hdg : decode cc pc = .ok (.invokevirtual index, 3))
    {ex : ExceptionTableEntry} (ht : c.exceptionTable.toList = [ex]) (hcov : covers ex pc = true) (h0 : ex.catchType ≠ 0) (hlink : Cond.classLink own ex.catchType kISE ∈ vT)
    (kr : ∀ (α' : kS) (ad' : Nat → Nat) (H1 : Heap) (locs1 : List Loc) (cells1 slots1 : Nat), k α' = some x → kIs g A s α0 ad0 α' ad' H1 locs1 cells1 slots1 0 → W p l e (kRe fr0 lo0 α0) s m args below meth c H1 locs1 cells1 slots1 Q (F0 m (pc + 3) ls rest))
    (kk : ∀ (a : Addr) (α' : kS) (ad' : Nat → Nat) (H1 : Heap) (locs1 : List Loc) (cells1 slots1 : Nat), kc α' = some x → kIs g A s α0 ad0 α' ad' H1 locs1 cells1 slots1 1 → W p l e (kRe fr0 lo0 α0) s m args below meth c H1 locs1 cells1 slots1 Q (F0 m ex.handlerPc ls [.ref a])) :
    W p l e (kRe fr0 lo0 α0) s m args below meth c H locs cells slots Q (F0 m pc ls st0) := by
  match f, hM, h with
  | some (some none, α1), hM, h => exact kr_tV (hM _ rfl) S E hI hw hR hrecv hn hsize hstack hW hdg (fun ad' H1 locs1 cells1 slots1 _ hI1 => kr α1 ad' H1 locs1 cells1 slots1 h hI1)
  | some (none, α1), hM, h =>
    refine kr_call (hM _ rfl) S E hI hw hR hrecv hn hsize hstack hW hdg (fun v ad' H1 locs1 cells1 slots1 hq hRm hI1 => ?_) (fun _ a T' ad' H1 locs1 cells1 slots1 ce hT' X' hce hst hcl hRm hI1 => ?_)
    · obtain ⟨a, ha⟩ := hq.2
      cases ha
    · obtain ⟨vm', X2, hk2⟩ := vx_caught X' (a := a) (g := F0 m pc ls rest) rfl S.2.2.2.1 ht hcov h0 (S.2.2.2.2 _ hlink) (E.2.2.1.2.1.use rfl) (cell := ce) (by rw [hT']; exact hce) hst hcl
      obtain ⟨t2, a1, b1⟩ := kk a α1 ad' H1 locs1 cells1 slots1 h (hI1 rfl) (T'.setVm vm') hT' X2
      exact ⟨t2, hk2 _ a1, b1⟩
  | some (some (some v), α1), hM, h => cases h
  | none, hM, h => cases h
theorem kq_Ker_declared {v : Int32} {R : Room} (S : CallFix p m c cc nL s args vT own) (E : kE g A s) (hI : kIs g A s α0 ad0 α ad H locs cells slots ee) (hlink : Cond.fieldLink own index "FamilyKernel" "declared" "I" ∈ vT) (hdg : decode cc pc = .ok (.putfield index, 3)) (kk : ∀ (H1 : Heap) (locs1 : List Loc), kIs g A s α0 ad0 (kSi α 0 v) ad H1 locs1 cells slots ee → W p l e R s m args below meth c H1 locs1 cells slots Q (F0 m (pc + 3) ls rest)) : W p l e R s m args below meth c H locs cells slots Q (F0 m pc ls (.int v :: .ref (kad g 0) :: rest)) := by
  obtain ⟨zf, hP, hD, hz⟩ := hI.1.1
  exact va_put (D := kD g) (ci := 11) (v := .int v) (ty := .int) (C := R_Ker) (T := T_Ker) (N := 14) S.1 S.2.1 S.2.2.2.2 in_Ker ty_Ker tyo_Ker nm_Ker S.2.2.2.1 E.1 hP hD hI.1.2.2 0 rfl rfl 12 (by decide) (S.2.2.2.2 _ hlink) (fun _ h9 => h9) rfl (by decide +kernel) rfl rfl (Nat.le_of_ble_eq_true rfl) hdg (fun H1 locs1 hP1 hD1 hS1 => kk H1 locs1 ⟨⟨⟨zf, hP1, hD1, hz⟩, hI.1.2.1, hS1⟩, hI.2⟩)
theorem kq_Ker_latestWork {v : Int32} {R : Room} (S : CallFix p m c cc nL s args vT own) (E : kE g A s) (hI : kIs g A s α0 ad0 α ad H locs cells slots ee) (hlink : Cond.fieldLink own index "FamilyKernel" "latestWork" "I" ∈ vT) (hdg : decode cc pc = .ok (.putfield index, 3)) (kk : ∀ (H1 : Heap) (locs1 : List Loc), kIs g A s α0 ad0 (kSi α 1 v) ad H1 locs1 cells slots ee → W p l e R s m args below meth c H1 locs1 cells slots Q (F0 m (pc + 3) ls rest)) : W p l e R s m args below meth c H locs cells slots Q (F0 m pc ls (.int v :: .ref (kad g 0) :: rest)) := by
  obtain ⟨zf, hP, hD, hz⟩ := hI.1.1
  exact va_put (D := kD g) (ci := 11) (v := .int v) (ty := .int) (C := R_Ker) (T := T_Ker) (N := 14) S.1 S.2.1 S.2.2.2.2 in_Ker ty_Ker tyo_Ker nm_Ker S.2.2.2.1 E.1 hP hD hI.1.2.2 0 rfl rfl 13 (by decide) (S.2.2.2.2 _ hlink) (fun _ h9 => h9) rfl (by decide +kernel) rfl rfl (Nat.le_of_ble_eq_true rfl) hdg (fun H1 locs1 hP1 hD1 hS1 => kk H1 locs1 ⟨⟨⟨zf, hP1, hD1, hz⟩, hI.1.2.1, hS1⟩, hI.2⟩)
end KRD
theorem kw_Ker_124 : kWv "FamilyKernel" 124 "FamilyKernel$Meter" y_Meter_forget b_Meter_forget 1 none 0 := ⟨vt_168, vt_169, vt_170, vt_13, vt_171, by decide, by decide, by decide +kernel⟩
theorem kw_Ker_127 : kWv "FamilyKernel" 127 "FamilyKernel$Lexer" y_Lex_begin b_Lex_begin 2 none 0 := ⟨vt_172, vt_173, vt_174, vt_33, vt_175, by decide, by decide, by decide +kernel⟩
theorem kw_Ker_121 : kWv "FamilyKernel" 121 "FamilyKernel$Row" y_Row_cut b_Row_cut 2 none 1 := ⟨vt_231, vt_232, vt_233, vt_4, vt_234, by decide, by decide, by decide +kernel⟩
theorem kw_Ker_130 : kWv "FamilyKernel" 130 "FamilyKernel$Lexer" y_Lex_kind b_Lex_kind 1 (some .int) 0 := ⟨vt_176, vt_177, vt_178, vt_33, vt_179, by decide, by decide, by decide +kernel⟩
theorem kw_Ker_133 : kWv "FamilyKernel" 133 "FamilyKernel$Environment" y_Env_length b_Env_length 1 (some .int) 0 := ⟨vt_180, vt_181, vt_182, vt_26, vt_183, by decide, by decide, by decide +kernel⟩
theorem kw_Ker_136 : kWv "FamilyKernel" 136 "FamilyKernel$Terms" y_Terms_length b_Terms_length 1 (some .int) 0 := ⟨vt_184, vt_185, vt_186, vt_19, vt_187, by decide, by decide, by decide +kernel⟩
theorem kw_Ker_137 : kWv "FamilyKernel" 137 "FamilyKernel$Lexer" y_Lex_start b_Lex_start 1 (some .int) 0 := ⟨vt_188, vt_189, vt_190, vt_33, vt_191, by decide, by decide, by decide +kernel⟩
theorem kw_Ker_140 : kWv "FamilyKernel" 140 "FamilyKernel$Meter" y_Meter_begin b_Meter_begin 2 none 1 := ⟨vt_192, vt_193, vt_194, vt_13, vt_195, by decide, by decide, by decide +kernel⟩
theorem kw_Ker_142 : kWv "FamilyKernel" 142 "FamilyKernel$Parser" y_Par_declaration b_Par_declaration 2 none 0 := ⟨vt_196, vt_197, vt_198, vt_40, vt_199, by decide, by decide, by decide +kernel⟩
theorem kw_Ker_145 : kWv "FamilyKernel" 145 "FamilyKernel" y_Ker_work b_Ker_work 2 none 0 := ⟨vt_200, vt_202, vt_203, vt_201, vt_204, by decide, by decide, by decide +kernel⟩
theorem kw_Ker_154 : kWv "FamilyKernel" 154 "FamilyKernel" y_Ker_keep b_Ker_keep 2 none 1 := ⟨vt_213, vt_214, vt_215, vt_201, vt_216, by decide, by decide, by decide +kernel⟩
theorem kw_Ker_165 : kWv "FamilyKernel" 165 "FamilyKernel$Meter" y_Meter_work b_Meter_work 1 (some .int) 0 := ⟨vt_226, vt_227, vt_228, vt_13, vt_229, by decide, by decide, by decide +kernel⟩
theorem kw_Ker_157 : kWv "FamilyKernel" 157 "FamilyKernel$Environment" y_Env_cut b_Env_cut 2 none 1 := ⟨vt_217, vt_218, vt_219, vt_26, vt_220, by decide, by decide, by decide +kernel⟩
theorem kw_Ker_151 : kWv "FamilyKernel" 151 "FamilyKernel$Families" y_Fam_build b_Fam_build 6 none 0 := ⟨vt_209, vt_210, vt_211, vt_68, vt_212, by decide, by decide, by decide +kernel⟩
def f_Ker_read_18 (N : Nat)  : Nat → Int32 → Int32 → kS → Option (Int32 × kS)
  | 0, _, _, _ => none
  | n + 1, x2, x1, β => if 65536 < x2 then (some (x1, (fR_cut β 0 0))) else (if (f_Lex_kind β) = 0 then (some (x1, (fR_cut β 0 0))) else (kBc (f_Par_declaration N (f_Meter_begin (f_Lex_start β) β)) (fun α4 => (kBc (f_Ker_work N α4) (fun α5 => (if (f_Par_task α5) = 32 then (kBc (f_Fam_build N α5) (fun α9 => (f_Ker_read_18 N n (x2 + 1) (x1 + 1) (kSi (kSi α9 0 ((α9.1 0) + 1)) 1 (f_Meter_work (kSi α9 0 ((α9.1 0) + 1)))))) (fun α9 => (kBn (f_Terms_release N (f_Terms_length β) (f_Env_cut (f_Env_length β) α9)) fun α10 => (some (x1, (fR_cut α10 0 0)))))) else (kBc (f_Ker_keep N (f_Terms_length β) α5) (fun α7 => (f_Ker_read_18 N n (x2 + 1) (x1 + 1) (kSi (kSi α7 0 ((α7.1 0) + 1)) 1 (f_Meter_work (kSi α7 0 ((α7.1 0) + 1)))))) (fun α7 => (kBn (f_Terms_release N (f_Terms_length β) (f_Env_cut (f_Env_length β) α7)) fun α8 => (some (x1, (fR_cut α8 0 0)))))))) (fun α5 => (kBn (f_Terms_release N (f_Terms_length β) (f_Env_cut (f_Env_length β) α5)) fun α11 => (some (x1, (fR_cut α11 0 0))))))) (fun α4 => (kBn (f_Terms_release N (f_Terms_length β) (f_Env_cut (f_Env_length β) α4)) fun α12 => (some (x1, (fR_cut α12 0 0)))))))
def f_Ker_read (N : Nat) (α : kS) : Option (Int32 × kS) := kBn (f_Lex_begin N (f_Meter_forget α)) fun α1 => (f_Ker_read_18 N N 0 0 α1)
set_option maxHeartbeats 4000000 in
set_option maxRecDepth 100000 in
theorem k_Ker_read {l : Launch} {g : kG} {α : kS} (hfl : kFl l) (N : Nat) : ∀ x, f_Ker_read N α = some x → ∀ (A : Nat → Prop) (ad : Nat → Nat), vE l y_Ker_read (Cond.codeWith y_Ker_read b_Ker_read 6 (some .int) [(65, 104, 107, 108)] :: vT) (kRe 36 1043 α) (va_Pc [.ref (kad g 0)] (kB g A α ad)) (kQs g A α ad x) A := by
  intro x h A ad0
  unfold f_Ker_read at h
  refine vE_ofWW (cc := b_Ker_read) (maxL := 6) (ret := some .int) (hh := [(65, 104, 107, 108)]) (by decide) rfl (fun p e s m args below meth c s₁ B hml hh hv => ?_)
  obtain ⟨ex, hex, hx1, hx2, hx3, hx4⟩ := vg_one hh
  obtain ⟨hargs, hHp, hOk, E⟩ := hv
  have S : CallFix p m c b_Ker_read 6 s args vT "FamilyKernel" := ⟨B.exec, B.bytes, hml, findClass_of_methodNamed B.named, fun w h => atoms_spec (ws := Cond.codeWith y_Ker_read b_Ker_read 6 (some .int) [(65, 104, 107, 108)] :: vT) B.pre w (List.mem_cons_of_mem _ h)⟩
  have hr := B.returns
  have hlocks := B.notSynchronized
  have hx := S.1
  have hb := S.2.1
  have hown := S.2.2.2.1
  have hT := S.2.2.2.2
  have hI : kIs g A s α ad0 α ad0 s.heap [] 0 0 0 := ⟨⟨hHp, hOk, va_S.rf⟩, kRm.rf, by omega, by omega, by omega⟩
  show W p l e (kRe 36 1043 α) s m args below meth c s.heap [] 0 0 (vEQ below (kQs g A α ad0 x) args s A) (entryFrame m args 6)
  subst hargs
  have hl := lv_entry ([.ref (kad g 0)]) (n := 6) (Nat.le_of_ble_eq_true rfl)
  rw [lg_entry_eq]
  generalize (lg_sl ([.ref (kad g 0)]) ++ List.replicate (6 - (lg_sl ([.ref (kad g 0)])).length) Slot.unset).toArray = ls at hl ⊢
  have hl : lv_has ls 6 [(0, .ref (kad g 0))] := hl
  refine lv_aload_n hx hb d_Ker_read_0 rfl (lv_at hl 0 rfl) ?_
  refine kf_Ker_meter S E hI.1 vt_17 d_Ker_read_1 ?_
  refine kr_tV (As := []) (rest := []) (k_Meter_forget (l := l) (g := g) (α := α) ) S E hI kw_Ker_124 ⟨Nat.le_of_ble_eq_true rfl, Nat.le_of_ble_eq_true rfl⟩ (kv_Meter E hI.1) rfl hl.1 rfl (Nat.le_of_ble_eq_true rfl) d_Ker_read_4 (fun ad H locs cells slots hRm hI => ?_)
  refine lv_aload_n hx hb d_Ker_read_7 rfl (lv_at hl 0 rfl) ?_
  refine kf_Ker_lexer S E hI.1 vt_38 d_Ker_read_8 ?_
  refine kr_cV (As := []) (rest := []) h (k_Lex_begin (l := l) (g := g) (α := (f_Meter_forget α)) hfl N) S E hI kw_Ker_127 ⟨Nat.le_of_ble_eq_true rfl, Nat.le_of_ble_eq_true rfl⟩ (kv_Lex E hI.1) rfl hl.1 rfl (Nat.le_of_ble_eq_true rfl) d_Ker_read_11 (fun α1 ad H locs cells slots h hI => ?_)
  refine lv_iconst (v := 0) hx hb d_Ker_read_14 (by decide) ?_
  refine lv_istore_n (lv' := [(1, .int 0), (0, .ref (kad g 0))]) hx hb d_Ker_read_15 rfl hl (by decide) rfl (fun ls hl => ?_)
  refine lv_iconst (v := 0) hx hb d_Ker_read_16 (by decide) ?_
  refine lv_istore_n (lv' := [(2, .int 0), (1, .int 0), (0, .ref (kad g 0))]) hx hb d_Ker_read_17 rfl hl (by decide) rfl (fun ls hl => ?_)
  have L18 : ∀ (n18 : Nat) (x2 : Int32) (x1 : Int32) (β : kS) (ad : Nat → Nat) (H : Heap) (locs : List Loc) (cells slots : Nat) (ls : Array Slot), f_Ker_read_18 N n18 x2 x1 β = some x → kIs g A s α ad0 β ad H locs cells slots 0 → lv_has ls 6 [(2, .int x2), (1, .int x1), (0, .ref (kad g 0))] → W p l e (kRe 36 1043 α) s m ([.ref (kad g 0)]).toArray below meth c H locs cells slots (vEQ below (kQs g A α ad0 x) ([.ref (kad g 0)]).toArray s A) (F0 m 18 ls []) := by
    intro n18
    induction n18 with
    | zero => intro x2 x1 β ad H locs cells slots ls h hI hl; rw [f_Ker_read_18] at h; cases h
    | succ n18 ih18 =>
      intro x2 x1 β ad H locs cells slots ls h hI hl
      rw [f_Ker_read_18] at h
      refine lv_iload_n hx hb d_Ker_read_18 rfl (lv_at hl 0 rfl) ?_
      refine lv_ldc (v := 65536) hx hb hown (hT _ vt_6) d_Ker_read_19 ?_
      refine lv_icmp_gt (tgt := 159) hx hb d_Ker_read_21 (by decide) (fun c2 => ?_) (fun c2 => ?_)
      · replace h := Eq.trans (if_pos c2).symm h
        refine lv_aload_n hx hb d_Ker_read_159 rfl (lv_at hl 2 rfl) ?_
        refine kf_Ker_tape S E hI.1 vt_10 d_Ker_read_160 ?_
        refine lv_iconst (v := 0) hx hb d_Ker_read_163 (by decide) ?_
        refine kr_tV (As := [.int 0]) (rest := []) (k_Row_cut (l := l) (g := g) (α := β) (r := 0) (by decide) 0) S E hI kw_Ker_121 ⟨Nat.le_of_ble_eq_true rfl, Nat.le_of_ble_eq_true rfl⟩ (kv_Row (r := 0) (by decide) E hI.1) rfl hl.1 rfl (Nat.le_of_ble_eq_true rfl) d_Ker_read_164 (fun ad H locs cells slots hRm hI => ?_)
        refine lv_iload_n hx hb d_Ker_read_167 rfl (lv_at hl 1 rfl) ?_
        exact kr_iret hx hb hr hlocks E hI h d_Ker_read_168
      · replace h := Eq.trans (if_neg c2).symm h
        refine lv_aload_n hx hb d_Ker_read_24 rfl (lv_at hl 2 rfl) ?_
        refine kf_Ker_lexer S E hI.1 vt_38 d_Ker_read_25 ?_
        refine kg_p (As := []) (rest := []) (k_Lex_kind (l := l) (g := g) (α := β) ) S E hI.1 kw_Ker_130 ⟨Nat.le_of_ble_eq_true rfl, Nat.le_of_ble_eq_true rfl⟩ hI.room (kv_Lex E hI.1) rfl hl.1 rfl (Nat.le_of_ble_eq_true rfl) d_Ker_read_28 rfl ?_
        refine lv_if_eq (tgt := 159) hx hb d_Ker_read_31 (by decide) (fun c3 => ?_) (fun c3 => ?_)
        · replace h := Eq.trans (if_pos c3).symm h
          refine lv_aload_n hx hb d_Ker_read_159 rfl (lv_at hl 2 rfl) ?_
          refine kf_Ker_tape S E hI.1 vt_10 d_Ker_read_160 ?_
          refine lv_iconst (v := 0) hx hb d_Ker_read_163 (by decide) ?_
          refine kr_tV (As := [.int 0]) (rest := []) (k_Row_cut (l := l) (g := g) (α := β) (r := 0) (by decide) 0) S E hI kw_Ker_121 ⟨Nat.le_of_ble_eq_true rfl, Nat.le_of_ble_eq_true rfl⟩ (kv_Row (r := 0) (by decide) E hI.1) rfl hl.1 rfl (Nat.le_of_ble_eq_true rfl) d_Ker_read_164 (fun ad H locs cells slots hRm hI => ?_)
          refine lv_iload_n hx hb d_Ker_read_167 rfl (lv_at hl 1 rfl) ?_
          exact kr_iret hx hb hr hlocks E hI h d_Ker_read_168
        · replace h := Eq.trans (if_neg c3).symm h
          refine lv_aload_n hx hb d_Ker_read_34 rfl (lv_at hl 2 rfl) ?_
          refine kf_Ker_environment S E hI.1 vt_31 d_Ker_read_35 ?_
          refine kg_p (As := []) (rest := []) (k_Env_length (l := l) (g := g) (α := β) ) S E hI.1 kw_Ker_133 ⟨Nat.le_of_ble_eq_true rfl, Nat.le_of_ble_eq_true rfl⟩ hI.room (kv_Env E hI.1) rfl hl.1 rfl (Nat.le_of_ble_eq_true rfl) d_Ker_read_38 rfl ?_
          refine lv_istore_n (lv' := [(3, .int (f_Env_length β)), (2, .int x2), (1, .int x1), (0, .ref (kad g 0))]) hx hb d_Ker_read_41 rfl hl (by decide) rfl (fun ls hl => ?_)
          refine lv_aload_n hx hb d_Ker_read_42 rfl (lv_at hl 3 rfl) ?_
          refine kf_Ker_terms S E hI.1 vt_24 d_Ker_read_43 ?_
          refine kg_p (As := []) (rest := []) (k_Terms_length (l := l) (g := g) (α := β) ) S E hI.1 kw_Ker_136 ⟨Nat.le_of_ble_eq_true rfl, Nat.le_of_ble_eq_true rfl⟩ hI.room (kv_Terms E hI.1) rfl hl.1 rfl (Nat.le_of_ble_eq_true rfl) d_Ker_read_46 rfl ?_
          refine lv_istore (lv' := [(4, .int (f_Terms_length β)), (3, .int (f_Env_length β)), (2, .int x2), (1, .int x1), (0, .ref (kad g 0))]) hx hb d_Ker_read_49 hl (by decide) rfl (fun ls hl => ?_)
          refine lv_aload_n hx hb d_Ker_read_51 rfl (lv_at hl 4 rfl) ?_
          refine kf_Ker_meter S E hI.1 vt_17 d_Ker_read_52 ?_
          refine lv_aload_n hx hb d_Ker_read_55 rfl (lv_at hl 4 rfl) ?_
          refine kf_Ker_lexer S E hI.1 vt_38 d_Ker_read_56 ?_
          refine kg_p (As := []) (rest := [.ref (kad g 1)]) (k_Lex_start (l := l) (g := g) (α := β) ) S E hI.1 kw_Ker_137 ⟨Nat.le_of_ble_eq_true rfl, Nat.le_of_ble_eq_true rfl⟩ hI.room (kv_Lex E hI.1) rfl hl.1 rfl (Nat.le_of_ble_eq_true rfl) d_Ker_read_59 rfl ?_
          refine kr_tV (As := [.int (f_Lex_start β)]) (rest := []) (k_Meter_begin (l := l) (g := g) (α := β) (f_Lex_start β)) S E hI kw_Ker_140 ⟨Nat.le_of_ble_eq_true rfl, Nat.le_of_ble_eq_true rfl⟩ (kv_Meter E hI.1) rfl hl.1 rfl (Nat.le_of_ble_eq_true rfl) d_Ker_read_62 (fun ad H locs cells slots hRm hI => ?_)
          refine lv_aload_n hx hb d_Ker_read_65 rfl (lv_at hl 4 rfl) ?_
          refine kf_Ker_parser S E hI.1 vt_45 d_Ker_read_66 ?_
          refine kr_try (As := []) (rest := []) h (k_Par_declaration (l := l) (g := g) (α := (f_Meter_begin (f_Lex_start β) β)) hfl N) S E hI kw_Ker_142 ⟨Nat.le_of_ble_eq_true rfl, Nat.le_of_ble_eq_true rfl⟩ (kv_Par E hI.1) rfl hl.1 rfl (Nat.le_of_ble_eq_true rfl) d_Ker_read_69 hex (by unfold covers; rw [hx1, hx2]; decide) (by rw [hx4]; decide) (by rw [hx4]; exact vt_1206) (fun α4 ad H locs cells slots h hI => ?_) (fun xa α4 ad H locs cells slots h hI => ?_)
          · refine lv_aload_n hx hb d_Ker_read_72 rfl (lv_at hl 4 rfl) ?_
            refine kr_try (As := []) (rest := []) h (k_Ker_work (l := l) (g := g) (α := α4) hfl N) S E hI kw_Ker_145 ⟨Nat.le_of_ble_eq_true rfl, Nat.le_of_ble_eq_true rfl⟩ (kv_Ker E hI.1) rfl hl.1 rfl (Nat.le_of_ble_eq_true rfl) d_Ker_read_73 hex (by unfold covers; rw [hx1, hx2]; decide) (by rw [hx4]; decide) (by rw [hx4]; exact vt_1206) (fun α5 ad H locs cells slots h hI => ?_) (fun xa α5 ad H locs cells slots h hI => ?_)
            · refine lv_aload_n hx hb d_Ker_read_76 rfl (lv_at hl 4 rfl) ?_
              refine kf_Ker_parser S E hI.1 vt_45 d_Ker_read_77 ?_
              refine kg_p (As := []) (rest := []) (k_Par_task (l := l) (g := g) (α := α5) ) S E hI.1 kw_Ker_148 ⟨Nat.le_of_ble_eq_true rfl, Nat.le_of_ble_eq_true rfl⟩ hI.room (kv_Par E hI.1) rfl hl.1 rfl (Nat.le_of_ble_eq_true rfl) d_Ker_read_80 rfl ?_
              refine lv_bipush (v := 32) hx hb d_Ker_read_83 (by decide) ?_
              refine lv_icmp_ne (tgt := 98) hx hb d_Ker_read_85 (by decide) (fun c6 => ?_) (fun c6 => ?_)
              · replace h := Eq.trans (if_neg c6).symm h
                refine lv_aload_n hx hb d_Ker_read_98 rfl (lv_at hl 4 rfl) ?_
                refine lv_iload hx hb d_Ker_read_99 (lv_at hl 0 rfl) ?_
                refine kr_try (As := [.int (f_Terms_length β)]) (rest := []) h (k_Ker_keep (l := l) (g := g) (α := α5) hfl N (f_Terms_length β)) S E hI kw_Ker_154 ⟨Nat.le_of_ble_eq_true rfl, Nat.le_of_ble_eq_true rfl⟩ (kv_Ker E hI.1) rfl hl.1 rfl (Nat.le_of_ble_eq_true rfl) d_Ker_read_101 hex (by unfold covers; rw [hx1, hx2]; decide) (by rw [hx4]; decide) (by rw [hx4]; exact vt_1206) (fun α7 ad H locs cells slots h hI => ?_) (fun xa α7 ad H locs cells slots h hI => ?_)
                · refine lv_goto (tgt := 129) hx hb d_Ker_read_104 (by decide) ?_
                  refine lv_aload_n hx hb d_Ker_read_129 rfl (lv_at hl 4 rfl) ?_
                  refine lv_dup hx hb d_Ker_read_130 rfl ?_
                  refine kf_Ker_declared S E hI.1 vt_225 d_Ker_read_131 ?_
                  refine lv_iconst (v := 1) hx hb d_Ker_read_134 (by decide) ?_
                  refine lv_iadd hx hb d_Ker_read_135 ?_
                  refine kq_Ker_declared S E hI vt_225 d_Ker_read_136 (fun H locs hI => ?_)
                  refine lv_aload_n hx hb d_Ker_read_139 rfl (lv_at hl 4 rfl) ?_
                  refine lv_aload_n hx hb d_Ker_read_140 rfl (lv_at hl 4 rfl) ?_
                  refine kf_Ker_meter S E hI.1 vt_17 d_Ker_read_141 ?_
                  refine kg_p (As := []) (rest := [.ref (kad g 0)]) (k_Meter_work (l := l) (g := g) (α := (kSi α7 0 ((α7.1 0) + 1))) ) S E hI.1 kw_Ker_165 ⟨Nat.le_of_ble_eq_true rfl, Nat.le_of_ble_eq_true rfl⟩ hI.room (kv_Meter E hI.1) rfl hl.1 rfl (Nat.le_of_ble_eq_true rfl) d_Ker_read_144 rfl ?_
                  refine kq_Ker_latestWork S E hI vt_230 d_Ker_read_147 (fun H locs hI => ?_)
                  refine lv_iinc (v := (x1 + 1)) (lv' := [(1, .int (x1 + 1)), (4, .int (f_Terms_length β)), (3, .int (f_Env_length β)), (2, .int x2), (0, .ref (kad g 0))]) hx hb d_Ker_read_150 hl (k := 3) rfl rfl (by decide) rfl (fun ls hl => ?_)
                  refine lv_iinc (v := (x2 + 1)) (lv' := [(2, .int (x2 + 1)), (1, .int (x1 + 1)), (4, .int (f_Terms_length β)), (3, .int (f_Env_length β)), (0, .ref (kad g 0))]) hx hb d_Ker_read_153 hl (k := 3) rfl rfl (by decide) rfl (fun ls hl => ?_)
                  refine lv_goto (tgt := 18) hx hb d_Ker_read_156 (by decide) ?_
                  exact ih18 (x2 + 1) (x1 + 1) _ _ _ _ _ _ _ h hI (lv_sub hl [0, 1, 4] rfl)
                · rw [hx3]
                  refine lv_astore (lv' := [(5, .ref xa), (4, .int (f_Terms_length β)), (3, .int (f_Env_length β)), (2, .int x2), (1, .int x1), (0, .ref (kad g 0))]) hx hb d_Ker_read_107 hl (by decide) rfl (fun ls hl => ?_)
                  refine lv_aload_n hx hb d_Ker_read_109 rfl (lv_at hl 5 rfl) ?_
                  refine kf_Ker_environment S E hI.1 vt_31 d_Ker_read_110 ?_
                  refine lv_iload_n hx hb d_Ker_read_113 rfl (lv_at hl 2 rfl) ?_
                  refine kr_tV (As := [.int (f_Env_length β)]) (rest := []) (k_Env_cut (l := l) (g := g) (α := α7) (f_Env_length β)) S E hI kw_Ker_157 ⟨Nat.le_of_ble_eq_true rfl, Nat.le_of_ble_eq_true rfl⟩ (kv_Env E hI.1) rfl hl.1 rfl (Nat.le_of_ble_eq_true rfl) d_Ker_read_114 (fun ad H locs cells slots hRm hI => ?_)
                  refine lv_aload_n hx hb d_Ker_read_117 rfl (lv_at hl 5 rfl) ?_
                  refine kf_Ker_terms S E hI.1 vt_24 d_Ker_read_118 ?_
                  refine lv_iload hx hb d_Ker_read_121 (lv_at hl 1 rfl) ?_
                  refine kr_cV (As := [.int (f_Terms_length β)]) (rest := []) h (k_Terms_release (l := l) (g := g) (α := (f_Env_cut (f_Env_length β) α7)) hfl N (f_Terms_length β)) S E hI kw_Ker_158 ⟨Nat.le_of_ble_eq_true rfl, Nat.le_of_ble_eq_true rfl⟩ (kv_Terms E hI.1) rfl hl.1 rfl (Nat.le_of_ble_eq_true rfl) d_Ker_read_123 (fun α8 ad H locs cells slots h hI => ?_)
                  refine lv_goto (tgt := 159) hx hb d_Ker_read_126 (by decide) ?_
                  refine lv_aload_n hx hb d_Ker_read_159 rfl (lv_at hl 5 rfl) ?_
                  refine kf_Ker_tape S E hI.1 vt_10 d_Ker_read_160 ?_
                  refine lv_iconst (v := 0) hx hb d_Ker_read_163 (by decide) ?_
                  refine kr_tV (As := [.int 0]) (rest := []) (k_Row_cut (l := l) (g := g) (α := α8) (r := 0) (by decide) 0) S E hI kw_Ker_121 ⟨Nat.le_of_ble_eq_true rfl, Nat.le_of_ble_eq_true rfl⟩ (kv_Row (r := 0) (by decide) E hI.1) rfl hl.1 rfl (Nat.le_of_ble_eq_true rfl) d_Ker_read_164 (fun ad H locs cells slots hRm hI => ?_)
                  refine lv_iload_n hx hb d_Ker_read_167 rfl (lv_at hl 4 rfl) ?_
                  exact kr_iret hx hb hr hlocks E hI h d_Ker_read_168
              · replace h := Eq.trans (if_pos c6).symm h
                refine lv_aload_n hx hb d_Ker_read_88 rfl (lv_at hl 4 rfl) ?_
                refine kf_Ker_families S E hI.1 vt_73 d_Ker_read_89 ?_
                refine kr_try (As := []) (rest := []) h (k_Fam_build (l := l) (g := g) (α := α5) hfl N) S E hI kw_Ker_151 ⟨Nat.le_of_ble_eq_true rfl, Nat.le_of_ble_eq_true rfl⟩ (kv_Fam E hI.1) rfl hl.1 rfl (Nat.le_of_ble_eq_true rfl) d_Ker_read_92 hex (by unfold covers; rw [hx1, hx2]; decide) (by rw [hx4]; decide) (by rw [hx4]; exact vt_1206) (fun α9 ad H locs cells slots h hI => ?_) (fun xa α9 ad H locs cells slots h hI => ?_)
                · refine lv_goto (tgt := 104) hx hb d_Ker_read_95 (by decide) ?_
                  refine lv_goto (tgt := 129) hx hb d_Ker_read_104 (by decide) ?_
                  refine lv_aload_n hx hb d_Ker_read_129 rfl (lv_at hl 4 rfl) ?_
                  refine lv_dup hx hb d_Ker_read_130 rfl ?_
                  refine kf_Ker_declared S E hI.1 vt_225 d_Ker_read_131 ?_
                  refine lv_iconst (v := 1) hx hb d_Ker_read_134 (by decide) ?_
                  refine lv_iadd hx hb d_Ker_read_135 ?_
                  refine kq_Ker_declared S E hI vt_225 d_Ker_read_136 (fun H locs hI => ?_)
                  refine lv_aload_n hx hb d_Ker_read_139 rfl (lv_at hl 4 rfl) ?_
                  refine lv_aload_n hx hb d_Ker_read_140 rfl (lv_at hl 4 rfl) ?_
                  refine kf_Ker_meter S E hI.1 vt_17 d_Ker_read_141 ?_
                  refine kg_p (As := []) (rest := [.ref (kad g 0)]) (k_Meter_work (l := l) (g := g) (α := (kSi α9 0 ((α9.1 0) + 1))) ) S E hI.1 kw_Ker_165 ⟨Nat.le_of_ble_eq_true rfl, Nat.le_of_ble_eq_true rfl⟩ hI.room (kv_Meter E hI.1) rfl hl.1 rfl (Nat.le_of_ble_eq_true rfl) d_Ker_read_144 rfl ?_
                  refine kq_Ker_latestWork S E hI vt_230 d_Ker_read_147 (fun H locs hI => ?_)
                  refine lv_iinc (v := (x1 + 1)) (lv' := [(1, .int (x1 + 1)), (4, .int (f_Terms_length β)), (3, .int (f_Env_length β)), (2, .int x2), (0, .ref (kad g 0))]) hx hb d_Ker_read_150 hl (k := 3) rfl rfl (by decide) rfl (fun ls hl => ?_)
                  refine lv_iinc (v := (x2 + 1)) (lv' := [(2, .int (x2 + 1)), (1, .int (x1 + 1)), (4, .int (f_Terms_length β)), (3, .int (f_Env_length β)), (0, .ref (kad g 0))]) hx hb d_Ker_read_153 hl (k := 3) rfl rfl (by decide) rfl (fun ls hl => ?_)
                  refine lv_goto (tgt := 18) hx hb d_Ker_read_156 (by decide) ?_
                  exact ih18 (x2 + 1) (x1 + 1) _ _ _ _ _ _ _ h hI (lv_sub hl [0, 1, 4] rfl)
                · rw [hx3]
                  refine lv_astore (lv' := [(5, .ref xa), (4, .int (f_Terms_length β)), (3, .int (f_Env_length β)), (2, .int x2), (1, .int x1), (0, .ref (kad g 0))]) hx hb d_Ker_read_107 hl (by decide) rfl (fun ls hl => ?_)
                  refine lv_aload_n hx hb d_Ker_read_109 rfl (lv_at hl 5 rfl) ?_
                  refine kf_Ker_environment S E hI.1 vt_31 d_Ker_read_110 ?_
                  refine lv_iload_n hx hb d_Ker_read_113 rfl (lv_at hl 2 rfl) ?_
                  refine kr_tV (As := [.int (f_Env_length β)]) (rest := []) (k_Env_cut (l := l) (g := g) (α := α9) (f_Env_length β)) S E hI kw_Ker_157 ⟨Nat.le_of_ble_eq_true rfl, Nat.le_of_ble_eq_true rfl⟩ (kv_Env E hI.1) rfl hl.1 rfl (Nat.le_of_ble_eq_true rfl) d_Ker_read_114 (fun ad H locs cells slots hRm hI => ?_)
                  refine lv_aload_n hx hb d_Ker_read_117 rfl (lv_at hl 5 rfl) ?_
                  refine kf_Ker_terms S E hI.1 vt_24 d_Ker_read_118 ?_
                  refine lv_iload hx hb d_Ker_read_121 (lv_at hl 1 rfl) ?_
                  refine kr_cV (As := [.int (f_Terms_length β)]) (rest := []) h (k_Terms_release (l := l) (g := g) (α := (f_Env_cut (f_Env_length β) α9)) hfl N (f_Terms_length β)) S E hI kw_Ker_158 ⟨Nat.le_of_ble_eq_true rfl, Nat.le_of_ble_eq_true rfl⟩ (kv_Terms E hI.1) rfl hl.1 rfl (Nat.le_of_ble_eq_true rfl) d_Ker_read_123 (fun α10 ad H locs cells slots h hI => ?_)
                  refine lv_goto (tgt := 159) hx hb d_Ker_read_126 (by decide) ?_
                  refine lv_aload_n hx hb d_Ker_read_159 rfl (lv_at hl 5 rfl) ?_
                  refine kf_Ker_tape S E hI.1 vt_10 d_Ker_read_160 ?_
                  refine lv_iconst (v := 0) hx hb d_Ker_read_163 (by decide) ?_
                  refine kr_tV (As := [.int 0]) (rest := []) (k_Row_cut (l := l) (g := g) (α := α10) (r := 0) (by decide) 0) S E hI kw_Ker_121 ⟨Nat.le_of_ble_eq_true rfl, Nat.le_of_ble_eq_true rfl⟩ (kv_Row (r := 0) (by decide) E hI.1) rfl hl.1 rfl (Nat.le_of_ble_eq_true rfl) d_Ker_read_164 (fun ad H locs cells slots hRm hI => ?_)
                  refine lv_iload_n hx hb d_Ker_read_167 rfl (lv_at hl 4 rfl) ?_
                  exact kr_iret hx hb hr hlocks E hI h d_Ker_read_168
            · rw [hx3]
              refine lv_astore (lv' := [(5, .ref xa), (4, .int (f_Terms_length β)), (3, .int (f_Env_length β)), (2, .int x2), (1, .int x1), (0, .ref (kad g 0))]) hx hb d_Ker_read_107 hl (by decide) rfl (fun ls hl => ?_)
              refine lv_aload_n hx hb d_Ker_read_109 rfl (lv_at hl 5 rfl) ?_
              refine kf_Ker_environment S E hI.1 vt_31 d_Ker_read_110 ?_
              refine lv_iload_n hx hb d_Ker_read_113 rfl (lv_at hl 2 rfl) ?_
              refine kr_tV (As := [.int (f_Env_length β)]) (rest := []) (k_Env_cut (l := l) (g := g) (α := α5) (f_Env_length β)) S E hI kw_Ker_157 ⟨Nat.le_of_ble_eq_true rfl, Nat.le_of_ble_eq_true rfl⟩ (kv_Env E hI.1) rfl hl.1 rfl (Nat.le_of_ble_eq_true rfl) d_Ker_read_114 (fun ad H locs cells slots hRm hI => ?_)
              refine lv_aload_n hx hb d_Ker_read_117 rfl (lv_at hl 5 rfl) ?_
              refine kf_Ker_terms S E hI.1 vt_24 d_Ker_read_118 ?_
              refine lv_iload hx hb d_Ker_read_121 (lv_at hl 1 rfl) ?_
              refine kr_cV (As := [.int (f_Terms_length β)]) (rest := []) h (k_Terms_release (l := l) (g := g) (α := (f_Env_cut (f_Env_length β) α5)) hfl N (f_Terms_length β)) S E hI kw_Ker_158 ⟨Nat.le_of_ble_eq_true rfl, Nat.le_of_ble_eq_true rfl⟩ (kv_Terms E hI.1) rfl hl.1 rfl (Nat.le_of_ble_eq_true rfl) d_Ker_read_123 (fun α11 ad H locs cells slots h hI => ?_)
              refine lv_goto (tgt := 159) hx hb d_Ker_read_126 (by decide) ?_
              refine lv_aload_n hx hb d_Ker_read_159 rfl (lv_at hl 5 rfl) ?_
              refine kf_Ker_tape S E hI.1 vt_10 d_Ker_read_160 ?_
              refine lv_iconst (v := 0) hx hb d_Ker_read_163 (by decide) ?_
              refine kr_tV (As := [.int 0]) (rest := []) (k_Row_cut (l := l) (g := g) (α := α11) (r := 0) (by decide) 0) S E hI kw_Ker_121 ⟨Nat.le_of_ble_eq_true rfl, Nat.le_of_ble_eq_true rfl⟩ (kv_Row (r := 0) (by decide) E hI.1) rfl hl.1 rfl (Nat.le_of_ble_eq_true rfl) d_Ker_read_164 (fun ad H locs cells slots hRm hI => ?_)
              refine lv_iload_n hx hb d_Ker_read_167 rfl (lv_at hl 4 rfl) ?_
              exact kr_iret hx hb hr hlocks E hI h d_Ker_read_168
          · rw [hx3]
            refine lv_astore (lv' := [(5, .ref xa), (4, .int (f_Terms_length β)), (3, .int (f_Env_length β)), (2, .int x2), (1, .int x1), (0, .ref (kad g 0))]) hx hb d_Ker_read_107 hl (by decide) rfl (fun ls hl => ?_)
            refine lv_aload_n hx hb d_Ker_read_109 rfl (lv_at hl 5 rfl) ?_
            refine kf_Ker_environment S E hI.1 vt_31 d_Ker_read_110 ?_
            refine lv_iload_n hx hb d_Ker_read_113 rfl (lv_at hl 2 rfl) ?_
            refine kr_tV (As := [.int (f_Env_length β)]) (rest := []) (k_Env_cut (l := l) (g := g) (α := α4) (f_Env_length β)) S E hI kw_Ker_157 ⟨Nat.le_of_ble_eq_true rfl, Nat.le_of_ble_eq_true rfl⟩ (kv_Env E hI.1) rfl hl.1 rfl (Nat.le_of_ble_eq_true rfl) d_Ker_read_114 (fun ad H locs cells slots hRm hI => ?_)
            refine lv_aload_n hx hb d_Ker_read_117 rfl (lv_at hl 5 rfl) ?_
            refine kf_Ker_terms S E hI.1 vt_24 d_Ker_read_118 ?_
            refine lv_iload hx hb d_Ker_read_121 (lv_at hl 1 rfl) ?_
            refine kr_cV (As := [.int (f_Terms_length β)]) (rest := []) h (k_Terms_release (l := l) (g := g) (α := (f_Env_cut (f_Env_length β) α4)) hfl N (f_Terms_length β)) S E hI kw_Ker_158 ⟨Nat.le_of_ble_eq_true rfl, Nat.le_of_ble_eq_true rfl⟩ (kv_Terms E hI.1) rfl hl.1 rfl (Nat.le_of_ble_eq_true rfl) d_Ker_read_123 (fun α12 ad H locs cells slots h hI => ?_)
            refine lv_goto (tgt := 159) hx hb d_Ker_read_126 (by decide) ?_
            refine lv_aload_n hx hb d_Ker_read_159 rfl (lv_at hl 5 rfl) ?_
            refine kf_Ker_tape S E hI.1 vt_10 d_Ker_read_160 ?_
            refine lv_iconst (v := 0) hx hb d_Ker_read_163 (by decide) ?_
            refine kr_tV (As := [.int 0]) (rest := []) (k_Row_cut (l := l) (g := g) (α := α12) (r := 0) (by decide) 0) S E hI kw_Ker_121 ⟨Nat.le_of_ble_eq_true rfl, Nat.le_of_ble_eq_true rfl⟩ (kv_Row (r := 0) (by decide) E hI.1) rfl hl.1 rfl (Nat.le_of_ble_eq_true rfl) d_Ker_read_164 (fun ad H locs cells slots hRm hI => ?_)
            refine lv_iload_n hx hb d_Ker_read_167 rfl (lv_at hl 4 rfl) ?_
            exact kr_iret hx hb hr hlocks E hI h d_Ker_read_168
  exact L18 N 0 0 _ _ _ _ _ _ _ h hI (lv_sub hl [0, 1, 2] rfl)
