-- the reference: that its functions end, by what they do (no machine any more)
/-- returns nothing, with Pv; or throws, with Px -/
def rV (f : Option (kO × mS)) (Pv Px : mS → Prop) : Prop := (∃ β, f = some (some none, β) ∧ Pv β) ∨ ∃ β, f = some (none, β) ∧ Px β
/-- returns a number, with Pi; or throws, with Px -/
def rI (f : Option (kO × mS)) (Pi : Int32 → mS → Prop) (Px : mS → Prop) : Prop := (∃ v β, f = some (some (some v), β) ∧ Pi v β) ∨ ∃ β, f = some (none, β) ∧ Px β
section RVI
variable {f : Option (kO × mS)} {Pv Px Qv Qx : mS → Prop} {Pi Qi : Int32 → mS → Prop}
theorem rV.bv {k : mS → Option (kO × mS)} (h : rV f Pv Px) (hk : ∀ β, Pv β → rV (k β) Qv Qx) (hx : ∀ β, Px β → Qx β) : rV (mBv f k) Qv Qx := by
  rcases h with ⟨β, rfl, h⟩ | ⟨β, rfl, h⟩
  · exact hk β h
  · exact Or.inr ⟨β, rfl, hx β h⟩
theorem rV.bi {k : mS → Option (kO × mS)} (h : rV f Pv Px) (hk : ∀ β, Pv β → rI (k β) Qi Qx) (hx : ∀ β, Px β → Qx β) : rI (mBv f k) Qi Qx := by
  rcases h with ⟨β, rfl, h⟩ | ⟨β, rfl, h⟩
  · exact hk β h
  · exact Or.inr ⟨β, rfl, hx β h⟩
theorem rI.bv {k : Int32 → mS → Option (kO × mS)} (h : rI f Pi Px) (hk : ∀ v β, Pi v β → rV (k v β) Qv Qx) (hx : ∀ β, Px β → Qx β) : rV (mBi f k) Qv Qx := by
  rcases h with ⟨v, β, rfl, h⟩ | ⟨β, rfl, h⟩
  · exact hk v β h
  · exact Or.inr ⟨β, rfl, hx β h⟩
theorem rI.bi {k : Int32 → mS → Option (kO × mS)} (h : rI f Pi Px) (hk : ∀ v β, Pi v β → rI (k v β) Qi Qx) (hx : ∀ β, Px β → Qx β) : rI (mBi f k) Qi Qx := by
  rcases h with ⟨v, β, rfl, h⟩ | ⟨β, rfl, h⟩
  · exact hk v β h
  · exact Or.inr ⟨β, rfl, hx β h⟩
theorem rV.ret {β : mS} (h : Pv β) : rV (some (some none, β)) Pv Px := Or.inl ⟨β, rfl, h⟩
theorem rI.ret {v : Int32} {β : mS} (h : Pi v β) : rI (some (some (some v), β)) Pi Px := Or.inl ⟨v, β, rfl, h⟩
theorem rV.thr {β : mS} (h : Px β) : rV (some (none, β)) Pv Px := Or.inr ⟨β, rfl, h⟩
theorem rI.thr {β : mS} (h : Px β) : rI (some (none, β)) Pi Px := Or.inr ⟨β, rfl, h⟩
theorem rV.ite {c : Prop} [Decidable c] {a b : Option (kO × mS)} (ha : c → rV a Pv Px) (hb : ¬ c → rV b Pv Px) : rV (if c then a else b) Pv Px := by
  by_cases h : c
  · rw [if_pos h]; exact ha h
  · rw [if_neg h]; exact hb h
theorem rI.ite {c : Prop} [Decidable c] {a b : Option (kO × mS)} (ha : c → rI a Pi Px) (hb : ¬ c → rI b Pi Px) : rI (if c then a else b) Pi Px := by
  by_cases h : c
  · rw [if_pos h]; exact ha h
  · rw [if_neg h]; exact hb h
/-- an index within bounds -/
theorem rV.ix {c : Prop} [Decidable c] {b : Option (kO × mS)} (h : ¬ c) (hb : rV b Pv Px) : rV (if c then none else b) Pv Px := by
  rw [if_neg h]; exact hb
theorem rI.ix {c : Prop} [Decidable c] {b : Option (kO × mS)} (h : ¬ c) (hb : rI b Pi Px) : rI (if c then none else b) Pi Px := by
  rw [if_neg h]; exact hb
theorem rV.mono (h : rV f Pv Px) (h1 : ∀ β, Pv β → Qv β) (h2 : ∀ β, Px β → Qx β) : rV f Qv Qx := by
  rcases h with ⟨β, e, h⟩ | ⟨β, e, h⟩
  · exact Or.inl ⟨β, e, h1 β h⟩
  · exact Or.inr ⟨β, e, h2 β h⟩
theorem rI.mono (h : rI f Pi Px) (h1 : ∀ v β, Pi v β → Qi v β) (h2 : ∀ β, Px β → Qx β) : rI f Qi Qx := by
  rcases h with ⟨v, β, e, h⟩ | ⟨β, e, h⟩
  · exact Or.inl ⟨v, β, e, h1 v β h⟩
  · exact Or.inr ⟨β, e, h2 β h⟩
/-- a last `return` of what a call gave -/
theorem rI.end (h : rI f Pi Px) : rI (mBi f fun v β => some (some (some v), β)) Pi Px := h.bi (fun _ _ q => rI.ret q) (fun _ q => q)
theorem rV.end (h : rV f Pv Px) : rV (mBv f fun β => some (some none, β)) Pv Px := h.bv (fun _ q => rV.ret q) (fun _ q => q)
theorem rI.ob {x : Int32} {o : Option Int32} {k : Int32 → Option (kO × mS)} (e : o = some x) (h : rI (k x) Pi Px) : rI (o.bind k) Pi Px := by rw [e]; exact h
theorem rV.ob {x : Int32} {o : Option Int32} {k : Int32 → Option (kO × mS)} (e : o = some x) (h : rV (k x) Pv Px) : rV (o.bind k) Pv Px := by rw [e]; exact h
end RVI
/-- indices -/
theorem mix {i n : Nat} (hi : i < n) (hn : n ≤ 400000) : ¬ (nI i < 0 ∨ n ≤ (nI i).toNatClampNeg) := fun z => z.elim (nI_pos (by omega)) (by rw [nI_clamp (by omega)]; omega)
theorem mix' {i n : Nat} (hi : i < n) (hn : n ≤ 400000) : ¬ (nI i < 0 ∨ n ≤ i) := fun z => z.elim (nI_pos (by omega)) (by omega)
/-- what may have changed: ints of I, arrays of R -/
def mch (I R : List Nat) (α β : mS) : Prop := (∀ k, k ∉ I → β.1 k = α.1 k) ∧ ∀ r, r ∉ R → β.2 r = α.2 r
section MCH
variable {I R J S : List Nat} {α β γ : mS} {k : Nat}
theorem mch.rf : mch I R α α := ⟨fun _ _ => rfl, fun _ _ => rfl⟩
theorem mch.tr (h : mch I R α β) (h' : mch I R β γ) : mch I R α γ := ⟨fun k hk => (h'.1 k hk).trans (h.1 k hk), fun r hr => (h'.2 r hr).trans (h.2 r hr)⟩
theorem mch.mo (h : mch I R α β) (hI : ∀ i, i ∈ I → i ∈ J) (hR : ∀ r, r ∈ R → r ∈ S) : mch J S α β := ⟨fun k hk => h.1 k fun z => hk (hI k z), fun r hr => h.2 r fun z => hr (hR r z)⟩
theorem mch.int (h : mch I R α β) (hk : k ∉ I) : β.1 k = α.1 k := h.1 k hk
theorem mch.arr (h : mch I R α β) (hk : k ∉ R) : β.2 k = α.2 k := h.2 k hk
theorem mch.si {v : Int32} (hk : k ∈ I) : mch I R α (mSi α k v) := ⟨fun i hi => if_neg fun (z : i = k) => hi (z ▸ hk), fun _ _ => rfl⟩
theorem mch.sA {f : Nat → Int32} (hk : k ∈ R) : mch I R α (mSA α k f) := ⟨fun _ _ => rfl, fun i hi => if_neg fun (z : i = k) => hi (z ▸ hk)⟩
theorem mch.th {x y : Int32} (h1 : 100 ∈ I) (h2 : 101 ∈ I) : mch I R α (mTh α x y) := (mch.si h1).tr (mch.si h2)
end MCH
theorem mSi_at {α : mS} {k : Nat} {v : Int32} : (mSi α k v).1 k = v := if_pos rfl
theorem mSi_ne {α : mS} {k j : Nat} {v : Int32} (h : j ≠ k) : (mSi α k v).1 j = α.1 j := if_neg h
theorem mSA_at {α : mS} {k : Nat} {f : Nat → Int32} : (mSA α k f).2 k = f := if_pos rfl
theorem mSA_ne {α : mS} {k j : Nat} {f : Nat → Int32} (h : j ≠ k) : (mSA α k f).2 j = α.2 j := if_neg h
