-- what only reads the nodes
def oK (o : Option Int32) : Prop := ∃ v, o = some v
section OK
variable {o : Option Int32}
theorem oK.so {v : Int32} : oK (some v) := ⟨v, rfl⟩
theorem oK.ite {c : Prop} [Decidable c] {a b : Option Int32} (ha : c → oK a) (hb : ¬ c → oK b) : oK (if c then a else b) := by
  by_cases h : c
  · rw [if_pos h]; exact ha h
  · rw [if_neg h]; exact hb h
theorem oK.ix {c : Prop} [Decidable c] {b : Option Int32} (h : ¬ c) (hb : oK b) : oK (if c then none else b) := by
  rw [if_neg h]; exact hb
theorem oK.bd {k : Int32 → Option Int32} (h : oK o) (hk : ∀ v, oK (k v)) : oK (o.bind k) := by
  obtain ⟨v, rfl⟩ := h
  exact hk v
end OK
section READS
variable {N Lc : Nat} {Lr : Nat → Prop} {d : Nat} {V : Nat → Prop} {α : mS}
theorem nWf.ix (hW : nWf V Lc Lr α) {i : Nat} (hi : V i) : ¬ (nI i < 0 ∨ 400000 ≤ i) := mix' (hW i hi).1 (Nat.le_refl _)
theorem nWf.cl (hW : nWf V Lc Lr α) {i : Nat} (hi : V i) : (nI i).toNatClampNeg = i := nI_clamp (by have := (hW i hi).1; omega)
theorem nWf.kd (hW : nWf V Lc Lr α) {i : Nat} (hi : V i) : α.2 2 i = nI (uK α i) := (hW i hi).2.1.1
theorem nWf.k9 (hW : nWf V Lc Lr α) {i : Nat} (hi : V i) : uK α i ≤ 9 := (hW i hi).2.1.2
theorem nWf.is (hW : nWf V Lc Lr α) {i m : Nat} (hi : V i) (hm : m ≤ 9) : α.2 2 i = nI m ↔ uK α i = m := by
  rw [hW.kd hi]
  exact nI_eq (by have := hW.k9 hi; omega) (by omega)
theorem nWf.p3 (hW : nWf V Lc Lr α) {i : Nat} (hi : V i) (h6 : 6 ≤ uK α i) : α.2 3 i = nI (uA α i) ∧ uA α i < i ∧ V (uA α i) := ((hW i hi).2.2.2.2.2.1 h6).1
theorem nWf.p4 (hW : nWf V Lc Lr α) {i : Nat} (hi : V i) (h6 : 6 ≤ uK α i) : α.2 4 i = nI (uC α i) ∧ uC α i < i ∧ V (uC α i) := ((hW i hi).2.2.2.2.2.1 h6).2.1
theorem nWf.p5 (hW : nWf V Lc Lr α) {i : Nat} (hi : V i) (h9 : uK α i = 9) : α.2 5 i = nI (uE α i) ∧ uE α i < i ∧ V (uE α i) := ((hW i hi).2.2.2.2.2.1 (by omega)).2.2.1 h9
/-- the parts are less deep -/
theorem nWf.dd (hW : nWf V Lc Lr α) {i : Nat} (hi : V i) (h6 : 6 ≤ uK α i) : uD α (uC α i) + 1 ≤ uD α i ∧ uD α (uA α i) ≤ uD α i ∧ (uK α i ≠ 8 → uD α (uA α i) + 1 ≤ uD α i) ∧ (uK α i = 9 → uD α (uE α i) + 1 ≤ uD α i) := by
  have := ((hW i hi).2.2.2.2.2.1 h6).2.2.2.2
  unfold dpf at this
  by_cases h8 : uK α i = 8
  · rw [if_pos h8] at this
    exact ⟨by omega, by omega, fun z => absurd h8 z, fun z => by omega⟩
  · rw [if_neg h8] at this
    by_cases h9 : uK α i = 9
    · rw [if_pos h9] at this
      exact ⟨by omega, by omega, fun _ => by omega, fun _ => by omega⟩
    · rw [if_neg h9] at this
      exact ⟨by omega, by omega, fun _ => by omega, fun z => absurd z h9⟩
/-- the first b parts on the left are applications -/
def apn (α : mS) (b t : Nat) : Prop := ∀ j, j < b → uK α (itr α j t) = 8
theorem itr_v (hW : nWf V Lc Lr α) {t : Nat} (ht : V t) : ∀ (b : Nat), apn α b t → V (itr α b t) ∧ itr α b t + b ≤ t
  | 0, _ => ⟨ht, Nat.le_refl _⟩
  | b + 1, h => by
    obtain ⟨v, l⟩ := itr_v hW ht b (fun j hj => h j (by omega))
    obtain ⟨-, e, v'⟩ := hW.p3 v (by rw [h b (by omega)]; decide)
    exact ⟨v', by show uA α (itr α b t) + (b + 1) ≤ t; omega⟩
theorem itr_s {α : mS} {t : Nat} : ∀ j, itr α (j + 1) t = itr α j (uA α t)
  | 0 => rfl
  | j + 1 => by show uA α (itr α (j + 1) t) = uA α (itr α j (uA α t)); rw [itr_s j]
theorem itr_sn {β : mS} (hW : nWf V Lc Lr α) (hs : sN V α β) {t : Nat} (ht : V t) : ∀ (b : Nat), apn α b t → itr β b t = itr α b t
  | 0, _ => rfl
  | b + 1, h => by
    have h' : apn α b t := fun j hj => h j (by omega)
    show uA β (itr β b t) = uA α (itr α b t)
    rw [itr_sn hW hs ht b h', hs.a (itr_v hW ht b h').1]
theorem apn_sn {β : mS} (hW : nWf V Lc Lr α) (hs : sN V α β) {b t : Nat} (ht : V t) (h : apn α b t) : apn β b t := fun j hj => by
  have h' : apn α j t := fun i hi => h i (by omega)
  rw [itr_sn hW hs ht j h', hs.k (itr_v hW ht j h').1]
  exact h j hj
theorem headm_go (hW : nWf V Lc Lr α) : ∀ (t : Nat), V t → ∃ b, apn α b t ∧ uK α (itr α b t) ≠ 8 ∧ (∀ nn, t < nn → f_Mod_head_2 N α nn (nI t) = some (nI (itr α b t))) ∧ ∀ nn c, t < nn → f_Mod_behind_4 N α nn (nI t) (nI c) = some (nI (c + b)) := by
  intro t
  induction t using Nat.strongRecOn with
  | ind t ih =>
    intro ht
    have e := hW.cl ht
    have ix := hW.ix ht
    by_cases h8 : uK α t = 8
    · obtain ⟨p1, p2, p3⟩ := hW.p3 ht (by omega)
      obtain ⟨b, b1, b2, b3, b4⟩ := ih _ p2 p3
      have k8 : α.2 2 t = 8 := (hW.is ht (m := 8) (by decide)).mpr h8
      refine ⟨b + 1, fun j hj => ?_, by rw [itr_s]; exact b2, fun nn hn => ?_, fun nn c hn => ?_⟩
      · cases j with
        | zero => exact h8
        | succ j => rw [itr_s]; exact b1 j (by omega)
      · obtain ⟨nn, rfl⟩ : ∃ n', nn = n' + 1 := ⟨nn - 1, by omega⟩
        rw [f_Mod_head_2, e, if_neg ix, if_pos k8, if_neg ix, p1, itr_s]
        exact b3 nn (by omega)
      · obtain ⟨nn, rfl⟩ : ∃ n', nn = n' + 1 := ⟨nn - 1, by omega⟩
        rw [f_Mod_behind_4, e, if_neg ix, if_pos k8, if_neg ix, p1, nI_1, show c + (b + 1) = c + 1 + b by omega]
        exact b4 nn (c + 1) (by omega)
    · have k8 : ¬ α.2 2 t = 8 := fun z => h8 ((hW.is ht (m := 8) (by decide)).mp z)
      refine ⟨0, fun j hj => by omega, h8, fun nn hn => ?_, fun nn c hn => ?_⟩
      · obtain ⟨nn, rfl⟩ : ∃ n', nn = n' + 1 := ⟨nn - 1, by omega⟩
        rw [f_Mod_head_2, e, if_neg ix, if_neg k8]
        rfl
      · obtain ⟨nn, rfl⟩ : ∃ n', nn = n' + 1 := ⟨nn - 1, by omega⟩
        rw [f_Mod_behind_4, e, if_neg ix, if_neg k8]
        rfl
/-- head and behind -/
theorem head_m (hN : 400000 < N) (hW : nWf V Lc Lr α) {t : Nat} (ht : V t) : ∃ b, apn α b t ∧ uK α (itr α b t) ≠ 8 ∧ f_Mod_head N (nI t) α = some (nI (itr α b t)) ∧ f_Mod_behind N (nI t) α = some (nI b) ∧ V (itr α b t) ∧ b < 400000 := by
  obtain ⟨b, b1, b2, b3, b4⟩ := headm_go (N := N) hW t ht
  have h4 := (hW t ht).1
  obtain ⟨v, l⟩ := itr_v hW ht b b1
  refine ⟨b, b1, b2, b3 N (by omega), ?_, v, by omega⟩
  have := b4 N 0 (by omega)
  rw [Nat.zero_add] at this
  exact this
theorem nth_go (hW : nWf V Lc Lr α) {k : Nat} : ∀ (m t nn : Nat), V t → apn α (m + 1) t → m < nn → k + m < 2 ^ 31 → f_Mod_nth_8 N α nn (nI (k + m)) (nI t) (nI k) = some (nI (uC α (itr α m t)))
  | 0, t, nn, ht, ha, hn, hk => by
    obtain ⟨nn, rfl⟩ : ∃ n', nn = n' + 1 := ⟨nn - 1, by omega⟩
    rw [f_Mod_nth_8, if_pos (show nI (k + 0) ≤ nI k from nI_le (Nat.le_refl _) (by omega)), hW.cl ht, if_neg (hW.ix ht), (hW.p4 ht (by have := ha 0 (by omega); simp only [itr] at this; omega)).1]
    rfl
  | m + 1, t, nn, ht, ha, hn, hk => by
    obtain ⟨nn, rfl⟩ : ∃ n', nn = n' + 1 := ⟨nn - 1, by omega⟩
    have h8 : uK α t = 8 := ha 0 (by omega)
    obtain ⟨p1, p2, p3⟩ := hW.p3 ht (by omega)
    rw [f_Mod_nth_8, if_neg (nI_ge (by omega) (by omega)), hW.cl ht, if_neg (hW.ix ht), p1, show nI (k + (m + 1)) + (-1) = nI (k + m) from nI_m1 (k + m), itr_s]
    exact nth_go hW m _ nn p3 (fun j hj => by have := ha (j + 1) (by omega); rw [itr_s] at this; exact this) (by omega) (by omega)
/-- the k-th of the n TERMS behind the head -/
theorem nth_m (hN : 400000 < N) (hW : nWf V Lc Lr α) {t n k : Nat} (ht : V t) (ha : apn α n t) (hk : k < n) : ∃ r, f_Mod_nth N (nI t) (nI n) (nI k) α = some (nI r) ∧ r = uC α (itr α (n - 1 - k) t) ∧ V r ∧ uD α r + 1 ≤ uD α t := by
  have h4 := (hW t ht).1
  have l := (itr_v hW ht n ha).2
  have a1 : apn α (n - 1 - k) t := fun j hj => ha j (by omega)
  obtain ⟨v, -⟩ := itr_v hW ht (n - 1 - k) a1
  have h8 := ha (n - 1 - k) (by omega)
  have dd : ∀ b, apn α b t → uD α (itr α b t) ≤ uD α t := by
    intro b
    induction b with
    | zero => exact fun _ => Nat.le_refl _
    | succ b ih =>
      intro hb
      have h1 : apn α b t := fun j hj => hb j (by omega)
      have h2 := (hW.dd (itr_v hW ht b h1).1 (by rw [hb b (by omega)]; decide)).2.1
      exact Nat.le_trans h2 (ih h1)
  refine ⟨_, ?_, rfl, (hW.p4 v (by omega)).2.2, ?_⟩
  · unfold f_Mod_nth
    rw [show nI n - 1 = nI (k + (n - 1 - k)) by rw [show k + (n - 1 - k) = n - 1 by omega]; exact pk_sub (a := n) (b := 1) (by omega)]
    exact nth_go hW (n - 1 - k) t N ht (fun j hj => ha j (by omega)) (by omega) (by omega)
  · have := (hW.dd v (by omega)).1
    have := dd _ a1
    omega
/-- same ends -/
theorem same_318 {kk : Int32 → Int32 → mS → Option Int32} (hW : nWf V Lc Lr α) (hk : ∀ x y, V x → V y → uD α x ≤ d → oK (kk (nI x) (nI y) α)) {x y : Nat} (hx : V x) (hy : V y) (h6 : 6 ≤ uK α x) (e : uK α x = uK α y) (hd : uD α x ≤ d + 1) : oK (f_Mod_same_j318 N kk (nI y) (nI x) α) := by
  have ix := hW.ix hx
  have iy := hW.ix hy
  unfold f_Mod_same_j318
  rw [hW.cl hx, hW.cl hy]
  refine oK.ix ix (oK.ite (fun _ => oK.so) (fun h8 => oK.ix ix (oK.ix iy ?_)))
  have h8 : uK α x ≠ 8 := fun z => h8 ((hW.is hx (m := 8) (by decide)).mpr z)
  have dx := hW.dd hx h6
  rw [(hW.p3 hx h6).1, (hW.p3 hy (by omega)).1]
  refine (hk _ _ (hW.p3 hx h6).2.2 (hW.p3 hy (by omega)).2.2 (by have := dx.2.2.1 h8; omega)).bd fun v => oK.ite (fun _ => oK.so) fun _ => oK.ix ix (oK.ix iy ?_)
  rw [(hW.p4 hx h6).1, (hW.p4 hy (by omega)).1]
  exact (hk _ _ (hW.p4 hx h6).2.2 (hW.p4 hy (by omega)).2.2 (by omega)).bd fun v => oK.ite (fun _ => oK.so) fun _ => oK.so
theorem same_91 {kk : Int32 → Int32 → mS → Option Int32} (hW : nWf V Lc Lr α) (hk : ∀ x y, V x → V y → uD α x ≤ d → oK (kk (nI x) (nI y) α)) {x y : Nat} (hx : V x) (hy : V y) (hd : uD α x ≤ d + 1) : oK (f_Mod_same_j91 N kk (nI y) (nI x) α) := by
  have ix := hW.ix hx
  have iy := hW.ix hy
  have j192 : oK (f_Mod_same_j192 N kk (nI y) (nI x) α) := by
    unfold f_Mod_same_j192
    rw [hW.cl hx, hW.cl hy]
    exact oK.ix ix (oK.ix iy (oK.ite (fun _ => oK.so) fun _ => oK.so))
  unfold f_Mod_same_j91
  rw [hW.cl hx, hW.cl hy]
  refine oK.ite (fun _ => oK.so) fun _ => oK.ix ix (oK.ix iy (oK.ite (fun ek => oK.ix ix (oK.ix iy (oK.ite (fun _ => oK.ix ix ?_) fun _ => oK.so))) fun _ => oK.so))
  have ek : uK α x = uK α y := by
    rw [hW.kd hx, hW.kd hy] at ek
    exact (nI_eq (by have := hW.k9 hx; omega) (by have := hW.k9 hy; omega)).mp ek
  have ne : ∀ m : Nat, m ≤ 9 → ¬ α.2 2 x = nI m → uK α x ≠ m := fun m hm z y => z ((hW.is hx hm).mpr y)
  refine oK.ite (fun _ => j192) fun n0 => oK.ite (fun _ => j192) fun n1 => oK.ite (fun _ => oK.ix ix (oK.ix iy (oK.ite (fun _ => oK.ix ix (oK.ix iy (oK.ite (fun _ => oK.so) fun _ => oK.so))) fun _ => oK.so))) fun n2 => oK.ite (fun _ => j192) fun n3 => oK.ite (fun _ => j192) fun n4 => oK.ite (fun _ => j192) fun n5 => ?_
  have h6 : 6 ≤ uK α x := by
    have m0 := ne 0 (by decide) n0
    have m1 := ne 1 (by decide) n1
    have m2 := ne 2 (by decide) n2
    have m3 := ne 3 (by decide) n3
    have m4 := ne 4 (by decide) n4
    have m5 := ne 5 (by decide) n5
    omega
  have j318 := same_318 (N := N) hW hk hx hy h6 ek hd
  refine oK.ite (fun _ => j318) fun _ => oK.ite (fun _ => j318) fun _ => oK.ite (fun _ => j318) fun _ => oK.ite (fun h9 => ?_) fun _ => j318
  have h9 : uK α x = 9 := (hW.is hx (m := 9) (by decide)).mp h9
  have dx := hW.dd hx h6
  refine oK.ix ix (oK.ix iy ?_)
  rw [(hW.p3 hx h6).1, (hW.p3 hy (by omega)).1]
  refine (hk _ _ (hW.p3 hx h6).2.2 (hW.p3 hy (by omega)).2.2 (by have := dx.2.2.1 (by omega); omega)).bd fun v => oK.ite (fun _ => oK.so) fun _ => oK.ix ix (oK.ix iy ?_)
  rw [(hW.p4 hx h6).1, (hW.p4 hy (by omega)).1]
  refine (hk _ _ (hW.p4 hx h6).2.2 (hW.p4 hy (by omega)).2.2 (by omega)).bd fun v => oK.ite (fun _ => oK.so) fun _ => oK.ix ix (oK.ix iy ?_)
  rw [(hW.p5 hx h9).1, (hW.p5 hy (by omega)).1]
  exact (hk _ _ (hW.p5 hx h9).2.2 (hW.p5 hy (by omega)).2.2 (by have := dx.2.2.2 h9; omega)).bd fun v => oK.ite (fun _ => oK.so) fun _ => oK.so
theorem same_5 {kk : Int32 → Int32 → mS → Option Int32} (hW : nWf V Lc Lr α) (hk : ∀ x y, V x → V y → uD α x ≤ d → oK (kk (nI x) (nI y) α)) : ∀ (x y nn : Nat), V x → V y → uD α x ≤ d + 1 → x < nn → oK (f_Mod_same_5 N kk α nn (nI y) (nI x)) := by
  intro x
  induction x using Nat.strongRecOn with
  | ind x ih =>
    intro y nn hx hy hd hn
    obtain ⟨nn, rfl⟩ : ∃ n', nn = n' + 1 := ⟨nn - 1, by omega⟩
    have ix := hW.ix hx
    have iy := hW.ix hy
    have j91 := same_91 (N := N) hW hk hx hy hd
    rw [f_Mod_same_5, hW.cl hx, hW.cl hy]
    refine oK.ite (fun _ => j91) fun _ => oK.ix ix (oK.ite (fun hx8 => oK.ix iy (oK.ite (fun hy8 => oK.ix ix (oK.ix iy (oK.ite (fun _ => oK.ix ix (oK.ix iy ?_)) fun _ => j91))) fun _ => j91)) fun _ => j91)
    have hx8 : uK α x = 8 := (hW.is hx (m := 8) (by decide)).mp hx8
    have hy8 : uK α y = 8 := (hW.is hy (m := 8) (by decide)).mp hy8
    have dx := hW.dd hx (by omega)
    rw [(hW.p4 hx (by omega)).1, (hW.p4 hy (by omega)).1]
    refine (hk _ _ (hW.p4 hx (by omega)).2.2 (hW.p4 hy (by omega)).2.2 (by omega)).bd fun v => oK.ite (fun _ => oK.so) fun _ => oK.ix ix (oK.ix iy ?_)
    rw [(hW.p3 hx (by omega)).1, (hW.p3 hy (by omega)).1]
    have q := hW.p3 hx (by omega)
    exact ih _ q.2.1 _ nn q.2.2 (hW.p3 hy (by omega)).2.2 (by omega) (by omega)
theorem same_ok (hN : 400000 < N) (hW : nWf V Lc Lr α) : ∀ (d x y : Nat), V x → V y → uD α x ≤ d → oK (G_same N d (nI x) (nI y) α)
  | 0, x, y, hx, hy, hd => by
    have := (hW x hx).2.2.2.1.2.1
    omega
  | d + 1, x, y, hx, hy, hd => by
    show oK (f_Mod_same N (G_same N d) (nI x) (nI y) α)
    unfold f_Mod_same
    exact same_5 hW (same_ok hN hW d) x y N hx hy hd (by have := (hW x hx).1; omega)
end READS
