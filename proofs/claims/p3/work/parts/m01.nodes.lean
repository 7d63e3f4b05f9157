-- the pool of nodes
def uK (α : mS) (i : Nat) : Nat := (α.2 2 i).toNatClampNeg
def uA (α : mS) (i : Nat) : Nat := (α.2 3 i).toNatClampNeg
def uC (α : mS) (i : Nat) : Nat := (α.2 4 i).toNatClampNeg
def uE (α : mS) (i : Nat) : Nat := (α.2 5 i).toNatClampNeg
def uB (α : mS) (i : Nat) : Nat := (α.2 6 i).toNatClampNeg
def uD (α : mS) (i : Nat) : Nat := (α.2 7 i).toNatClampNeg
def bgf (k x y z : Nat) : Nat := min 1000000 (1 + x + y + (if k = 9 then z else 0))
def dpf (k x y z : Nat) : Nat := if k = 8 then max x (1 + y) else 1 + max x (max y (if k = 9 then z else 0))
/-- a node's part -/
def mPt (V : Nat → Prop) (i : Nat) (w : Int32) (j : Nat) : Prop := w = nI j ∧ j < i ∧ V j
/-- a node in order: of the nodes V, with CONSTANTS below Lc and families below Lr -/
def nW (V : Nat → Prop) (Lc : Nat) (Lr : Nat → Prop) (α : mS) (i : Nat) : Prop := i < 400000 ∧ (α.2 2 i = nI (uK α i) ∧ uK α i ≤ 9) ∧ (α.2 6 i = nI (uB α i) ∧ 1 ≤ uB α i ∧ uB α i ≤ 1000000) ∧ (α.2 7 i = nI (uD α i) ∧ 1 ≤ uD α i ∧ uD α i ≤ i + 1) ∧ (uK α i < 6 → uB α i = 1 ∧ uD α i = 1) ∧ (6 ≤ uK α i → mPt V i (α.2 3 i) (uA α i) ∧ mPt V i (α.2 4 i) (uC α i) ∧ (uK α i = 9 → mPt V i (α.2 5 i) (uE α i)) ∧ uB α i = bgf (uK α i) (uB α (uA α i)) (uB α (uC α i)) (uB α (uE α i)) ∧ uD α i = dpf (uK α i) (uD α (uA α i)) (uD α (uC α i)) (uD α (uE α i))) ∧ (uK α i = 1 → α.2 3 i = nI (uA α i) ∧ uA α i < Lc) ∧ (uK α i = 2 → α.2 3 i = nI (uA α i) ∧ Lr (uA α i)) ∧ (uK α i = 5 → α.2 3 i = nI (uA α i))
def nWf (V : Nat → Prop) (Lc : Nat) (Lr : Nat → Prop) (α : mS) : Prop := ∀ i, V i → nW V Lc Lr α i
/-- the nodes V are as they were -/
def sN (V : Nat → Prop) (α β : mS) : Prop := ∀ i, V i → ∀ r, 2 ≤ r → r ≤ 7 → β.2 r i = α.2 r i
section SN
variable {V W : Nat → Prop} {α β γ : mS} {Lc : Nat} {Lr : Nat → Prop} {Mc : Nat} {Mr : Nat → Prop} {i : Nat}
theorem sN.rf : sN V α α := fun _ _ _ _ _ => rfl
theorem sN.tr (h : sN V α β) (h' : sN V β γ) : sN V α γ := fun i hi r a b => (h' i hi r a b).trans (h i hi r a b)
theorem sN.su (h : sN W α β) (hV : ∀ i, V i → W i) : sN V α β := fun i hi => h i (hV i hi)
theorem sN.ch {I R : List Nat} (h : mch I R α β) (hR : ∀ r, 2 ≤ r → r ≤ 7 → r ∉ R) : sN V α β := fun i _ r a b => by rw [h.arr (hR r a b)]
theorem sN.k (h : sN V α β) (hi : V i) : uK β i = uK α i := by unfold uK; rw [h i hi 2 (by decide) (by decide)]
theorem sN.a (h : sN V α β) (hi : V i) : uA β i = uA α i := by unfold uA; rw [h i hi 3 (by decide) (by decide)]
theorem sN.c (h : sN V α β) (hi : V i) : uC β i = uC α i := by unfold uC; rw [h i hi 4 (by decide) (by decide)]
theorem sN.e (h : sN V α β) (hi : V i) : uE β i = uE α i := by unfold uE; rw [h i hi 5 (by decide) (by decide)]
theorem sN.b (h : sN V α β) (hi : V i) : uB β i = uB α i := by unfold uB; rw [h i hi 6 (by decide) (by decide)]
theorem sN.d (h : sN V α β) (hi : V i) : uD β i = uD α i := by unfold uD; rw [h i hi 7 (by decide) (by decide)]
theorem nW.sn (hW : nWf V Lc Lr α) (h : sN V α β) (hi : V i) : nW V Lc Lr β i := by
  obtain ⟨a1, a2, a3, a4, a5, a6, a7, a8, a9⟩ := hW i hi
  unfold nW
  rw [h.k hi, h.b hi, h.d hi, h.a hi, h.c hi, h.e hi, h i hi 2 (by decide) (by decide), h i hi 3 (by decide) (by decide), h i hi 4 (by decide) (by decide), h i hi 5 (by decide) (by decide), h i hi 6 (by decide) (by decide), h i hi 7 (by decide) (by decide)]
  refine ⟨a1, a2, a3, a4, a5, fun h6 => ?_, a7, a8, a9⟩
  obtain ⟨b1, b2, b3, b4, b5⟩ := a6 h6
  rw [h.b b1.2.2, h.b b2.2.2, h.d b1.2.2, h.d b2.2.2]
  refine ⟨b1, b2, b3, ?_, ?_⟩
  · by_cases h9 : uK α i = 9
    · rw [h.b (b3 h9).2.2]; exact b4
    · rw [b4]; unfold bgf; rw [if_neg h9, if_neg h9]
  · by_cases h9 : uK α i = 9
    · rw [h.d (b3 h9).2.2]; exact b5
    · rw [b5]; unfold dpf; rw [if_neg h9, if_neg h9]
theorem nWf.sn (hW : nWf V Lc Lr α) (h : sN V α β) : nWf V Lc Lr β := fun _ hi => nW.sn hW h hi
theorem nW.up (h : nW V Lc Lr α i) (hV : ∀ i, V i → W i) (h1 : Lc ≤ Mc) (h2 : ∀ j, Lr j → Mr j) : nW W Mc Mr α i := by
  obtain ⟨a1, a2, a3, a4, a5, a6, a7, a8, a9⟩ := h
  refine ⟨a1, a2, a3, a4, a5, fun h6 => ?_, fun z => ⟨(a7 z).1, by have := (a7 z).2; omega⟩, fun z => ⟨(a8 z).1, h2 _ (a8 z).2⟩, a9⟩
  obtain ⟨⟨b1, b2, b3⟩, ⟨c1, c2, c3⟩, b5, b6⟩ := a6 h6
  exact ⟨⟨b1, b2, hV _ b3⟩, ⟨c1, c2, hV _ c3⟩, fun z => ⟨(b5 z).1, (b5 z).2.1, hV _ (b5 z).2.2⟩, b6⟩
end SN
theorem bgf_9 {k x y z z' : Nat} (h : k ≠ 9) : bgf k x y z = bgf k x y z' := by unfold bgf; rw [if_neg h, if_neg h]
theorem dpf_9 {k x y z z' : Nat} (h : k ≠ 9) : dpf k x y z = dpf k x y z' := by unfold dpf; rw [if_neg h, if_neg h]
theorem nar_k {k : Nat} (h : k ≤ 9) : vp_nar .byte (nI k).toInt8.toInt32 = nI k := by
  have : ∀ k, k ≤ 9 → vp_nar .byte (nI k).toInt8.toInt32 = nI k := by decide +kernel
  exact this k h
/-- what node leaves: one node more -/
def nNew (α β : mS) (n k : Nat) (a b c : Int32) (B D : Nat) : Prop := β.1 10 = nI (n + 1) ∧ mch [10] [2, 3, 4, 5, 6, 7] α β ∧ (∀ i, i ≠ n → ∀ r, 2 ≤ r → r ≤ 7 → β.2 r i = α.2 r i) ∧ β.2 2 n = nI k ∧ β.2 3 n = a ∧ β.2 4 n = b ∧ β.2 5 n = c ∧ β.2 6 n = nI B ∧ β.2 7 n = nI D
theorem upd_ne {f : Nat → Int32} {i j : Nat} {v : Int32} (h : j ≠ i) : upd f i v j = f j := if_neg h
theorem upd_at {f : Nat → Int32} {i : Nat} {v : Int32} : upd f i v i = v := if_pos rfl
/-- a node as it is before its SIZE and DEPTH are put in -/
def Gd (α : mS) (n : Nat) (k a b c : Int32) : mS := mSA (mSA (mSA (mSA (mSA (mSA (mSi α 10 (α.1 10 + 1)) 2 (upd (α.2 2) n (vp_nar .byte k.toInt8.toInt32))) 3 (upd (α.2 3) n a)) 4 (upd (α.2 4) n b)) 5 (upd (α.2 5) n c)) 6 (upd (α.2 6) n 1)) 7 (upd (α.2 7) n 1)
theorem r27 {P : Nat → Prop} (h2 : P 2) (h3 : P 3) (h4 : P 4) (h5 : P 5) (h6 : P 6) (h7 : P 7) (r : Nat) (a : 2 ≤ r) (b : r ≤ 7) : P r := by
  have : r = 2 ∨ r = 3 ∨ r = 4 ∨ r = 5 ∨ r = 6 ∨ r = 7 := by omega
  rcases this with e | e | e | e | e | e <;> subst e <;> assumption
theorem Gd_new {α : mS} {n k : Nat} {a b c : Int32} (ht : α.1 10 = nI n) (hk : k ≤ 9) : nNew α (Gd α n (nI k) a b c) n k a b c 1 1 := by
  refine ⟨?_, ?_, fun i hi => r27 ?_ ?_ ?_ ?_ ?_ ?_, ?_, upd_at, upd_at, upd_at, upd_at, upd_at⟩
  · show α.1 10 + 1 = _
    rw [ht, nI_1]
  · exact ((((((mch.si (by decide)).tr (mch.sA (by decide))).tr (mch.sA (by decide))).tr (mch.sA (by decide))).tr (mch.sA (by decide))).tr (mch.sA (by decide))).tr (mch.sA (by decide))
  · exact upd_ne hi
  · exact upd_ne hi
  · exact upd_ne hi
  · exact upd_ne hi
  · exact upd_ne hi
  · exact upd_ne hi
  · exact upd_at.trans (nar_k hk)
theorem nx_th {α : mS} {x y : Int32} : mch [100, 101] [] α (mTh α x y) := mch.th (by decide) (by decide)
section NODE
variable {N n k : Nat} {α : mS} {a b c : Int32}
theorem top_ix (ht : α.1 10 = nI n) (hn : n ≤ 400000) (h : ¬ α.1 10 = 400000) : n < 400000 ∧ ¬ (α.1 10 < 0 ∨ 400000 ≤ (α.1 10).toNatClampNeg) := by
  have : n ≠ 400000 := fun z => h (by rw [ht, z]; rfl)
  refine ⟨by omega, ?_⟩
  rw [ht]
  exact mix (by omega) (by omega)
theorem node_lf (ht : α.1 10 = nI n) (hn : n ≤ 400000) (hk : k < 6) : rI (f_Mod_node N (nI k) a b c α) (fun v β => v = nI n ∧ n < 400000 ∧ nNew α β n k a b c 1 1) (fun β => mch [100, 101] [] α β ∧ α.1 10 = 400000) := by
  unfold f_Mod_node
  refine rI.ite (fun z => rI.thr ⟨nx_th, z⟩) (fun h => ?_)
  obtain ⟨hn, h0⟩ := top_ix ht hn h
  refine rI.ix h0 (rI.ix h0 (rI.ix h0 (rI.ix h0 (rI.ix h0 (rI.ix h0 ?_)))))
  refine rI.ite (fun _ => ?_) (fun z => absurd (nI_lt (b := 6) hk (by decide)) z)
  have e : (α.1 10).toNatClampNeg = n := by rw [ht, nI_clamp (by omega)]
  have := Gd_new (a := a) (b := b) (c := c) ht (show k ≤ 9 by omega)
  rw [← e] at this
  exact rI.ret ⟨ht, hn, by rw [← e]; exact this⟩
theorem mx_nI {a b : Nat} (ha : a < 2 ^ 31) (hb : b < 2 ^ 31) : (if nI a < nI b then nI b else nI a) = nI (max a b) := nI_max a b ha hb
theorem mn_nI {a b : Nat} (ha : a < 2 ^ 31) (hb : b < 2 ^ 31) : (if nI a < nI b then nI a else nI b) = nI (min b a) := by
  by_cases h : a < b
  · rw [if_pos (nI_lt h hb), Nat.min_eq_right (by omega)]
  · rw [if_neg (nI_nlt (by omega) ha), Nat.min_eq_left (by omega)]
/-- SIZE and DEPTH are put in -/
theorem j125_ok {γ : mS} {x y z Bx By Bz Dx Dy Dz : Nat} {t0 t1 : Int32} (h9 : 6 ≤ k ∧ k ≤ 9) (hn : n < 400000) (hx : x < 400000) (hy : y < 400000) (hz : k = 9 → c = nI z ∧ z < 400000 ∧ γ.2 7 z = nI Dz ∧ Dz < 2 ^ 30) (dx : γ.2 7 x = nI Dx) (dy : γ.2 7 y = nI Dy) (lx : Dx < 2 ^ 30) (ly : Dy < 2 ^ 30) (e1 : t1 = nI (1 + Bx + By)) (e0 : t0 = nI (if k = 9 then Bz else 0)) (bb : Bx ≤ 1000000 ∧ By ≤ 1000000 ∧ Bz ≤ 1000000) :
    ∃ β, f_Mod_node_j125 N (nI n) (nI k) (nI x) (nI y) c t0 t1 1000000 (nI n) γ = some (some (some (nI n)), β) ∧ mch [] [6, 7] γ β ∧ β.2 6 = upd (γ.2 6) n (nI (bgf k Bx By Bz)) ∧ β.2 7 = upd (γ.2 7) n (nI (dpf k Dx Dy Dz)) := by
  have hk : ∀ m : Nat, m ≤ 9 → (nI k = nI m ↔ k = m) := fun m hm => nI_eq (by omega) (by omega)
  have en : (nI n).toNatClampNeg = n := nI_clamp (by omega)
  have ex : (nI x).toNatClampNeg = x := nI_clamp (by omega)
  have ey : (nI y).toNatClampNeg = y := nI_clamp (by omega)
  have hB : (if t1 + t0 < 1000000 then t1 + t0 else 1000000) = nI (bgf k Bx By Bz) := by
    rw [e1, e0, nI_add]
    unfold bgf
    exact mn_nI (b := 1000000) (by split <;> omega) (by decide)
  have c1 : ∀ (f : Nat → Int32) (g : Nat → Int32), mch [] [6, 7] γ (mSA (mSA γ 6 f) 7 g) := fun f g => (mch.sA (by decide)).tr (mch.sA (by decide))
  unfold f_Mod_node_j125
  rw [if_neg (mix hn (by omega)), hB, en, ex, ey]
  by_cases h8 : k = 8
  · rw [if_pos (show nI k = 8 from (hk 8 (by omega)).mpr h8), if_neg (mix' hx (by omega)), if_neg (mix' hy (by omega)), if_neg (mix' hn (by omega))]
    refine ⟨_, rfl, c1 _ _, rfl, ?_⟩
    show upd (γ.2 7) n (if γ.2 7 x < 1 + γ.2 7 y then 1 + γ.2 7 y else γ.2 7 x) = _
    rw [dx, dy, show (1 : Int32) + nI Dy = nI (1 + Dy) from nI_add 1 Dy, mx_nI (by omega) (by omega)]
    unfold dpf
    rw [if_pos h8]
  · rw [if_neg (show ¬ nI k = 8 from fun q => h8 ((hk 8 (by omega)).mp q)), if_neg (mix' hx (by omega)), if_neg (mix' hy (by omega))]
    by_cases h9' : k = 9
    · obtain ⟨rfl, hz1, hz2, hz3⟩ := hz h9'
      have ez : (nI z).toNatClampNeg = z := nI_clamp (by omega)
      rw [if_pos (show nI k = 9 from (hk 9 (by omega)).mpr h9'), if_neg (mix hz1 (by omega)), ez]
      unfold f_Mod_node_j192
      rw [if_neg (mix hn (by omega)), en]
      refine ⟨_, rfl, c1 _ _, rfl, ?_⟩
      show upd (γ.2 7) n (1 + (if γ.2 7 x < (if γ.2 7 y < γ.2 7 z then γ.2 7 z else γ.2 7 y) then (if γ.2 7 y < γ.2 7 z then γ.2 7 z else γ.2 7 y) else γ.2 7 x)) = _
      rw [dx, dy, hz2, mx_nI (by omega) (by omega), mx_nI (by omega) (by omega), show (1 : Int32) + nI _ = nI (1 + _) from nI_add 1 _]
      unfold dpf
      rw [if_neg h8, if_pos h9']
    · rw [if_neg (show ¬ nI k = 9 from fun q => h9' ((hk 9 (by omega)).mp q))]
      unfold f_Mod_node_j192
      rw [if_neg (mix hn (by omega)), en]
      refine ⟨_, rfl, c1 _ _, rfl, ?_⟩
      show upd (γ.2 7) n (1 + (if γ.2 7 x < (if γ.2 7 y < 0 then 0 else γ.2 7 y) then (if γ.2 7 y < 0 then 0 else γ.2 7 y) else γ.2 7 x)) = _
      rw [dx, dy, show (if nI Dy < (0 : Int32) then (0 : Int32) else nI Dy) = nI (max Dy 0) from mx_nI (b := 0) (by omega) (by decide), mx_nI (by omega) (by omega), show (1 : Int32) + nI _ = nI (1 + _) from nI_add 1 _]
      unfold dpf
      rw [if_neg h8, if_neg h9']
theorem node_in {x y z Bx By Bz Dx Dy Dz : Nat} (ht : α.1 10 = nI n) (hn : n ≤ 400000) (h9 : 6 ≤ k ∧ k ≤ 9) (hx : x < 400000 ∧ x ≠ n) (hy : y < 400000 ∧ y ≠ n) (hz : k = 9 → c = nI z ∧ z < 400000 ∧ z ≠ n ∧ α.2 6 z = nI Bz ∧ α.2 7 z = nI Dz ∧ Dz < 2 ^ 30) (bx : α.2 6 x = nI Bx) (by' : α.2 6 y = nI By) (dx : α.2 7 x = nI Dx) (dy : α.2 7 y = nI Dy) (lx : Dx < 2 ^ 30) (ly : Dy < 2 ^ 30) (bb : Bx ≤ 1000000 ∧ By ≤ 1000000 ∧ Bz ≤ 1000000) :
    rI (f_Mod_node N (nI k) (nI x) (nI y) c α) (fun v β => v = nI n ∧ n < 400000 ∧ nNew α β n k (nI x) (nI y) c (bgf k Bx By Bz) (dpf k Dx Dy Dz)) (fun β => mch [100, 101] [] α β ∧ α.1 10 = 400000) := by
  unfold f_Mod_node
  refine rI.ite (fun z => rI.thr ⟨nx_th, z⟩) (fun h => ?_)
  obtain ⟨hn, h0⟩ := top_ix ht hn h
  refine rI.ix h0 (rI.ix h0 (rI.ix h0 (rI.ix h0 (rI.ix h0 (rI.ix h0 ?_)))))
  refine rI.ite (fun z => absurd z (nI_nlt (b := 6) h9.1 (by omega))) (fun _ => ?_)
  refine rI.ix (mix hx.1 (by omega)) (rI.ix (mix hy.1 (by omega)) ?_)
  have e : (α.1 10).toNatClampNeg = n := by rw [ht, nI_clamp (by omega)]
  have ex : (nI x).toNatClampNeg = x := nI_clamp (by omega)
  have ey : (nI y).toNatClampNeg = y := nI_clamp (by omega)
  have fin : ∀ (t0 t1 : Int32), t1 = nI (1 + Bx + By) → t0 = nI (if k = 9 then Bz else 0) → rI (f_Mod_node_j125 N (α.1 10) (nI k) (nI x) (nI y) c t0 t1 1000000 (α.1 10) (Gd α (α.1 10).toNatClampNeg (nI k) (nI x) (nI y) c)) (fun v β => v = nI n ∧ n < 400000 ∧ nNew α β n k (nI x) (nI y) c (bgf k Bx By Bz) (dpf k Dx Dy Dz)) (fun β => mch [100, 101] [] α β ∧ α.1 10 = 400000) := fun t0 t1 e1 e0 => by
    rw [e, ht]
    obtain ⟨g1, g2, g3, g4, g5, g6, g7, g8, g9⟩ := Gd_new (a := nI x) (b := nI y) (c := c) ht (show k ≤ 9 by omega)
    obtain ⟨β, q1, q2, q3, q4⟩ := j125_ok (N := N) (k := k) (n := n) (γ := Gd α n (nI k) (nI x) (nI y) c) (x := x) (y := y) (z := z) (Bx := Bx) (By := By) (Bz := Bz) (Dx := Dx) (Dy := Dy) (Dz := Dz) (t0 := t0) (t1 := t1) (c := c) h9 hn hx.1 hy.1 (fun q => ⟨(hz q).1, (hz q).2.1, by rw [g3 z (hz q).2.2.1 7 (by decide) (by decide)]; exact (hz q).2.2.2.2.1, (hz q).2.2.2.2.2⟩) (by rw [g3 x hx.2 7 (by decide) (by decide)]; exact dx) (by rw [g3 y hy.2 7 (by decide) (by decide)]; exact dy) lx ly e1 e0 bb
    rw [q1]
    refine rI.ret ⟨rfl, hn, (q2.int (by decide)).trans g1, g2.tr (q2.mo (by decide) (by decide)), fun i hi => r27 ?_ ?_ ?_ ?_ ?_ ?_, ?_, ?_, ?_, ?_, ?_, ?_⟩
    · rw [q2.arr (by decide)]; exact g3 i hi 2 (by decide) (by decide)
    · rw [q2.arr (by decide)]; exact g3 i hi 3 (by decide) (by decide)
    · rw [q2.arr (by decide)]; exact g3 i hi 4 (by decide) (by decide)
    · rw [q2.arr (by decide)]; exact g3 i hi 5 (by decide) (by decide)
    · rw [q3, upd_ne hi]; exact g3 i hi 6 (by decide) (by decide)
    · rw [q4, upd_ne hi]; exact g3 i hi 7 (by decide) (by decide)
    · rw [q2.arr (by decide)]; exact g4
    · rw [q2.arr (by decide)]; exact g5
    · rw [q2.arr (by decide)]; exact g6
    · rw [q2.arr (by decide)]; exact g7
    · rw [q3]; exact upd_at
    · rw [q4]; exact upd_at
  have v6 : ∀ i, i ≠ n → (Gd α (α.1 10).toNatClampNeg (nI k) (nI x) (nI y) c).2 6 i = α.2 6 i := fun i hi => by
    rw [e]
    exact (Gd_new (a := nI x) (b := nI y) (c := c) ht (show k ≤ 9 by omega)).2.2.1 i hi 6 (by decide) (by decide)
  have e1 : (1 + (Gd α (α.1 10).toNatClampNeg (nI k) (nI x) (nI y) c).2 6 (nI x).toNatClampNeg) + (Gd α (α.1 10).toNatClampNeg (nI k) (nI x) (nI y) c).2 6 (nI y).toNatClampNeg = nI (1 + Bx + By) := by
    rw [ex, ey, v6 x hx.2, v6 y hy.2, bx, by', show (1 : Int32) + nI Bx = nI (1 + Bx) from nI_add 1 Bx, nI_add]
  by_cases h9' : k = 9
  · obtain ⟨rfl, z1, z2, z3, z4, z5⟩ := hz h9'
    refine rI.ite (fun _ => rI.ix (mix z1 (by omega)) ?_) (fun q => absurd (by rw [h9']; rfl) q)
    refine fin _ _ e1 ?_
    show (Gd α (α.1 10).toNatClampNeg (nI k) (nI x) (nI y) (nI z)).2 6 (nI z).toNatClampNeg = _
    rw [nI_clamp (by omega), v6 z z2, z3, if_pos h9']
  · refine rI.ite (fun q => absurd ((nI_eq (a := k) (b := 9) (by omega) (by omega)).mp q) h9') (fun _ => ?_)
    refine fin _ _ e1 ?_
    rw [if_neg h9']
    rfl
end NODE
/-- the nodes: those of W, and those from s on -/
def vd (W : Nat → Prop) (s t i : Nat) : Prop := W i ∨ s ≤ i ∧ i < t
def PO (W : Nat → Prop) (s Lc : Nat) (Lr : Nat → Prop) (t : Nat) (α : mS) : Prop := α.1 10 = nI t ∧ s ≤ t ∧ t ≤ 400000 ∧ nWf (vd W s t) Lc Lr α
def wfr (W : Nat → Prop) (s lim : Nat) : Prop := ∀ m, s ≤ m → m < lim → ¬ W m
section NODEW
variable {N s lim Lc : Nat} {Lr : Nat → Prop} {t k : Nat} {W : Nat → Prop} {α β : mS} {a b c : Int32}
theorem vd.up {t' i : Nat} (ht : t ≤ t') (h : vd W s t i) : vd W s t' i := h.imp id fun q => ⟨q.1, by omega⟩
theorem PO.sn {I R : List Nat} (h : PO W s Lc Lr t α) (hc : mch I R α β) (hI : 10 ∉ I) (hs : sN (vd W s t) α β) : PO W s Lc Lr t β := ⟨(hc.int hI).trans h.1, h.2.1, h.2.2.1, h.2.2.2.sn hs⟩
theorem PO.ch {I R : List Nat} (h : PO W s Lc Lr t α) (hc : mch I R α β) (hI : 10 ∉ I) (hR : ∀ r, 2 ≤ r → r ≤ 7 → r ∉ R) : PO W s Lc Lr t β := h.sn hc hI (sN.ch hc hR)
theorem node_w' (hP : PO W s Lc Lr t α) (hf : wfr W s lim) (hl : t < 400000 → t < lim) (hk : k ≤ 9) (h6 : 6 ≤ k → ∃ x y, a = nI x ∧ b = nI y ∧ (vd W s t x ∧ x < t) ∧ (vd W s t y ∧ y < t) ∧ (k = 9 → ∃ z, c = nI z ∧ vd W s t z ∧ z < t)) (h1 : k = 1 → ∃ j, a = nI j ∧ j < Lc ∧ j < 2 ^ 31) (h2 : k = 2 → ∃ j, a = nI j ∧ Lr j ∧ j < 2 ^ 31) (h5 : k = 5 → ∃ j, a = nI j ∧ j < 2 ^ 31) :
    rI (f_Mod_node N (nI k) a b c α) (fun v β => v = nI t ∧ t < 400000 ∧ PO W s Lc Lr (t + 1) β ∧ mch [10] [2, 3, 4, 5, 6, 7] α β ∧ sN (vd W s t) α β ∧ uK β t = k ∧ β.2 3 t = a ∧ β.2 4 t = b ∧ β.2 5 t = c) (fun β => mch [100, 101] [] α β ∧ α.1 10 = 400000) := by
  obtain ⟨ht, hs, hn, hW⟩ := hP
  -- what is known of a new node does
  have fin : ∀ (β : mS) (B D : Nat), t < 400000 → nNew α β t k a b c B D → 1 ≤ B ∧ B ≤ 1000000 → 1 ≤ D ∧ D ≤ t + 1 → (k < 6 → B = 1 ∧ D = 1) → (6 ≤ k → B = bgf k (uB α a.toNatClampNeg) (uB α b.toNatClampNeg) (uB α c.toNatClampNeg) ∧ D = dpf k (uD α a.toNatClampNeg) (uD α b.toNatClampNeg) (uD α c.toNatClampNeg)) → PO W s Lc Lr (t + 1) β ∧ mch [10] [2, 3, 4, 5, 6, 7] α β ∧ sN (vd W s t) α β ∧ uK β t = k ∧ β.2 3 t = a ∧ β.2 4 t = b ∧ β.2 5 t = c := by
    intro β B D htt q hB hD h60 h66
    obtain ⟨q1, q2, q3, q4, q5, q6, q7, q8, q9⟩ := q
    have nv : ¬ vd W s t t := fun z => z.elim (hf t hs (hl htt)) fun z => by omega
    have sn : sN (vd W s t) α β := fun i hi r a b => q3 i (fun z => nv (z ▸ hi)) r a b
    have k1 : uK β t = k := by unfold uK; rw [q4, nI_clamp (by omega)]
    have k2 : uB β t = B := by unfold uB; rw [q8, nI_clamp (by omega)]
    have k3 : uD β t = D := by unfold uD; rw [q9, nI_clamp (by omega)]
    have k4 : uA β t = a.toNatClampNeg := by unfold uA; rw [q5]
    have k5 : uC β t = b.toNatClampNeg := by unfold uC; rw [q6]
    have k6 : uE β t = c.toNatClampNeg := by unfold uE; rw [q7]
    refine ⟨⟨q1, by omega, by omega, fun i hi => ?_⟩, q2, sn, k1, q5, q6, q7⟩
    have hi' : vd W s t i ∨ i = t := by
      rcases hi with z | z
      · exact Or.inl (Or.inl z)
      · rcases Nat.lt_or_ge i t with y | y
        · exact Or.inl (Or.inr ⟨z.1, y⟩)
        · exact Or.inr (by omega)
    rcases hi' with hi' | rfl
    · exact (nW.sn hW sn hi').up (fun _ z => z.up (by omega)) (Nat.le_refl _) (fun _ z => z)
    · unfold nW
      rw [k1, k2, k3, k4, k5, k6, q4, q5, q6, q7, q8, q9]
      refine ⟨htt, ⟨rfl, hk⟩, ⟨rfl, hB⟩, ⟨rfl, hD⟩, h60, fun h => ?_, fun h => ?_, fun h => ?_, fun h => ?_⟩
      · obtain ⟨x, y, rfl, rfl, ⟨x1, x2⟩, ⟨y1, y2⟩, hz⟩ := h6 h
        obtain ⟨e1, e2⟩ := h66 h
        have ex : (nI x).toNatClampNeg = x := nI_clamp (by omega)
        have ey : (nI y).toNatClampNeg = y := nI_clamp (by omega)
        rw [ex, ey] at e1 e2 ⊢
        rw [sn.b x1, sn.b y1, sn.d x1, sn.d y1]
        refine ⟨⟨rfl, x2, x1.up (by omega)⟩, ⟨rfl, y2, y1.up (by omega)⟩, fun h9 => ?_, ?_, ?_⟩
        · obtain ⟨z, rfl, z1, z2⟩ := hz h9
          rw [nI_clamp (by omega)]
          exact ⟨rfl, z2, z1.up (by omega)⟩
        · by_cases h9 : k = 9
          · obtain ⟨z, rfl, z1, z2⟩ := hz h9
            rw [nI_clamp (by omega)] at e1 ⊢
            rw [sn.b z1]
            exact e1
          · rw [e1]; exact bgf_9 h9
        · by_cases h9 : k = 9
          · obtain ⟨z, rfl, z1, z2⟩ := hz h9
            rw [nI_clamp (by omega)] at e2 ⊢
            rw [sn.d z1]
            exact e2
          · rw [e2]; exact dpf_9 h9
      · obtain ⟨j, rfl, h, h'⟩ := h1 h
        rw [nI_clamp h']
        exact ⟨rfl, h⟩
      · obtain ⟨j, rfl, h, h'⟩ := h2 h
        rw [nI_clamp h']
        exact ⟨rfl, h⟩
      · obtain ⟨j, rfl, h'⟩ := h5 h
        rw [nI_clamp h']
  rcases Nat.lt_or_ge k 6 with h | h
  · refine (node_lf ht hn h).mono (fun v β q => ?_) (fun _ q => q)
    exact ⟨q.1, q.2.1, fin β 1 1 q.2.1 q.2.2 ⟨by omega, by omega⟩ ⟨by omega, by omega⟩ (fun _ => ⟨rfl, rfl⟩) (fun z => by omega)⟩
  · obtain ⟨x, y, rfl, rfl, ⟨x1, x2⟩, ⟨y1, y2⟩, hz⟩ := h6 h
    obtain ⟨wx1, -, ⟨wx2, wx3, wx4⟩, ⟨wx5, wx6, wx7⟩, -⟩ := hW x x1
    obtain ⟨wy1, -, ⟨wy2, wy3, wy4⟩, ⟨wy5, wy6, wy7⟩, -⟩ := hW y y1
    have ex : (nI x).toNatClampNeg = x := nI_clamp (by omega)
    have ey : (nI y).toNatClampNeg = y := nI_clamp (by omega)
    have hzz : ∃ z, (k = 9 → c = nI z ∧ z < 400000 ∧ z ≠ t ∧ z < t ∧ α.2 6 z = nI (uB α z) ∧ α.2 7 z = nI (uD α z) ∧ uD α z < 2 ^ 30 ∧ uD α z ≤ z + 1) ∧ uB α z ≤ 1000000 := by
      by_cases h9 : k = 9
      · obtain ⟨z, e, z1, z2⟩ := hz h9
        obtain ⟨wz1, -, ⟨wz2, wz3, wz4⟩, ⟨wz5, wz6, wz7⟩, -⟩ := hW z z1
        exact ⟨z, fun _ => ⟨e, wz1, by omega, z2, wz2, wz5, by omega, wz7⟩, wz4⟩
      · exact ⟨x, fun q => absurd q h9, wx4⟩
    obtain ⟨z, hz1, hz2⟩ := hzz
    refine (node_in (z := z) (Bz := uB α z) (Dz := uD α z) ht hn ⟨h, hk⟩ ⟨wx1, by omega⟩ ⟨wy1, by omega⟩ (fun q => ?_) wx2 wy2 wx5 wy5 (by omega) (by omega) ⟨wx4, wy4, hz2⟩).mono (fun v β q => ?_) (fun _ q => q)
    · obtain ⟨p1, p2, p3, p3', p4, p5, p6, p7⟩ := hz1 q
      exact ⟨p1, p2, p3, p4, p5, p6⟩
    · have hbg : 1 ≤ bgf k (uB α x) (uB α y) (uB α z) ∧ bgf k (uB α x) (uB α y) (uB α z) ≤ 1000000 := by
        unfold bgf
        split <;> omega
      have hdd : 1 ≤ dpf k (uD α x) (uD α y) (uD α z) ∧ dpf k (uD α x) (uD α y) (uD α z) ≤ t + 1 := by
        unfold dpf
        by_cases h8 : k = 8
        · rw [if_pos h8]
          omega
        · rw [if_neg h8]
          by_cases h9 : k = 9
          · obtain ⟨p1, p2, p3, p3', p4, p5, p6, p7⟩ := hz1 h9
            rw [if_pos h9]
            omega
          · rw [if_neg h9]
            omega
      refine ⟨q.1, q.2.1, fin β _ _ q.2.1 q.2.2 hbg hdd (fun y => by omega) (fun _ => ?_)⟩
      rw [ex, ey]
      by_cases h9 : k = 9
      · obtain ⟨p1, p2, -⟩ := hz1 h9
        rw [p1, nI_clamp (by omega)]
        exact ⟨rfl, rfl⟩
      · exact ⟨bgf_9 h9, dpf_9 h9⟩
theorem node_w (hP : PO W s Lc Lr t α) (hf : wfr W s lim) (hl : t < 400000 → t < lim) (hk : k ≤ 9) (h6 : 6 ≤ k → ∃ x y, a = nI x ∧ b = nI y ∧ (vd W s t x ∧ x < t) ∧ (vd W s t y ∧ y < t) ∧ (k = 9 → ∃ z, c = nI z ∧ vd W s t z ∧ z < t)) (h1 : k = 1 → ∃ j, a = nI j ∧ j < Lc ∧ j < 2 ^ 31) (h2 : k = 2 → ∃ j, a = nI j ∧ Lr j ∧ j < 2 ^ 31) (h5 : k = 5 → ∃ j, a = nI j ∧ j < 2 ^ 31) :
    rI (f_Mod_node N (nI k) a b c α) (fun v β => v = nI t ∧ t < 400000 ∧ PO W s Lc Lr (t + 1) β ∧ mch [10] [2, 3, 4, 5, 6, 7] α β ∧ sN (vd W s t) α β ∧ uK β t = k ∧ β.2 3 t = a ∧ β.2 4 t = b ∧ β.2 5 t = c) (fun β => mch [100, 101] [] α β) := (node_w' hP hf hl hk h6 h1 h2 h5).mono (fun _ _ q => q) (fun _ q => q.1)
theorem PO.full (h : PO W s Lc Lr t α) (e : α.1 10 = 400000) : 400000 ≤ t := by
  have e : nI t = nI 400000 := h.1.symm.trans e
  have := (nI_eq (by have := h.2.2.1; omega) (by decide)).mp e
  omega
end NODEW
