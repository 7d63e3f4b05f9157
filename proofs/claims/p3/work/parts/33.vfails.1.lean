theorem m_fails {l : Launch} {g : mG} {α : mS} (A : Nat → Prop) (k : Int32) : Met l y_Mod_fails w_Mod_fails { frames := 42, cells := 1, slots := 8, locals := 1240 } (va_Pc [.int k] (mB g A α)) (va_Qr (fun _ : Unit => True) (fun _ q t => va_P (kD g.1) classes (mWc g q k (-1) :: mW g α) t.heap ∧ va_D A (mWc g q k (-1) :: mW g α)) A) 1 8 A := by
  refine Met.ofW (cc := b_Mod_fails) (maxL := 1) (ret := (some (.object "FamilyKernelModel$Wrong"))) (by decide) rfl ?_
  intro p e s m args below meth c s₁ B hml hv
  obtain ⟨rfl, hH, E⟩ := hv
  have S : CallFix p m c b_Mod_fails 1 s [Value.int k].toArray vT "FamilyKernelModel" := ⟨B.exec, B.bytes, hml, findClass_of_methodNamed B.named, fun w h => atoms_spec (ws := w_Mod_fails) B.pre w (List.mem_cons_of_mem _ h)⟩
  have hI : mI g A s α s.heap [] := ⟨hH, va_S.rf⟩
  have hx := S.1
  have hb := S.2.1
  have hr := B.returns
  have hlocks := B.notSynchronized
  have hl := lv_entry ([.int k]) (n := 1) (Nat.le_of_ble_eq_true rfl)
  rw [lg_entry_eq]
  generalize (lg_sl ([.int k]) ++ List.replicate (1 - (lg_sl ([.int k])).length) Slot.unset).toArray = ls at hl ⊢
  have hl : lv_has ls 1 [(0, .int k)] := hl
  refine mg_new (fr0 := 42) (lo0 := 1240) S E hI vt_1457 d_Mod_fails_0 (fun q H hN => ?_)
  refine lv_dup hx hb d_Mod_fails_3 rfl ?_
  refine lv_iload_n hx hb d_Mod_fails_4 rfl (lv_at hl 0 rfl) ?_
  refine lv_iconst (v := (-1)) hx hb d_Mod_fails_5 (by decide) ?_
  refine mg_init S E hN vt_1460 hl.1 ⟨by decide, by decide⟩ (Nat.le_of_ble_eq_true rfl) d_Mod_fails_6 (fun H locs hN => ?_)
  exact W.aret (v := .ref q) hx hb hr (Or.inl ⟨_, rfl⟩) (Or.inr ⟨q, rfl⟩) (fun t ht hW => ⟨⟨(), q, rfl, trivial, by rw [ht]; exact hN.1, hN.2.1⟩, hN.2.2.F ht⟩) hN.2.2.2.2 d_Mod_fails_9
section MFA
variable {p : Program} {l : Launch} {e : Env} {fr0 lo0 : Nat} {s : State} {m : MethodId} {args : Array Value} {below : List Frame} {meth : Method} {c : Code} {H : Heap} {locs : List Loc} {g : mG} {A : Nat → Prop} {α : mS} {cc : ByteArray} {nL index : Nat} {own : String} {rest : List Value} {ls : Array Slot} {pc : Nat} {k : Int32} {Q : State → Prop}
theorem mg_fails (S : CallFix p m c cc nL s args vT own) (E : mE g A s) (hI : mI g A s α H locs) (hw : kWs own index y_Mod_fails b_Mod_fails 1 (some (.object "FamilyKernelModel$Wrong")) 1) (hsz : ls.size = nL) (hfr : 43 ≤ fr0 ∧ 1260 ≤ lo0) (hW : (rest.map fun v => v.category).sum ≤ 8) (hdg : decode cc pc = .ok (.invokestatic index, 3))
    (kk : ∀ (q : Nat) (H1 : Heap) (locs1 : List Loc), mN g A s α H1 locs1 q [.null, .null, .null, .null, .null, .int k, .int (-1), .int 0] → W p l e (mR fr0 lo0) s m args below meth c H1 locs1 1 8 Q (F0 m (pc + 3) ls (.ref q :: rest))) : W p l e (mR fr0 lo0) s m args below meth c H locs 0 0 Q (F0 m pc ls (.int k :: rest)) := by
  obtain ⟨w1, w2, w4, w5, w6, w7, w8⟩ := hw
  refine va_callr (va_runS (As := [.int k]) (rest := rest) S (m_fails (l := l) (g := g) (α := α) A k) (va_cwS 1 S.2.2.2.2 (gSS w1 w2 w4 w5) rfl rfl rfl ⟨w6, w7, w8⟩ ⟨by show 42 + 1 ≤ fr0; omega, by show 8 + (1 + 11) + 1240 ≤ lo0; omega⟩) ⟨mB_blind, hI.to E⟩ rfl rfl hsz rfl (lv_room hW) hdg ⟨Nat.le_refl _, Nat.le_refl _⟩) hI.2 (fun q _ h => h) (fun q h => h) (fun u ra t H1 locs1 ht hvm hw hB hz1 hk1 hS1 => kk ra H1 locs1 ⟨by rw [← ht]; exact hB.1, hB.2, hS1⟩)
end MFA
