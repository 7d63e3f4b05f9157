-- sizeWith, has, bound
section SIZES
variable {N Lc : Nat} {Lr : Nat → Prop} {d : Nat} {V : Nat → Prop} {α : mS}
theorem nWf.ks (hW : nWf V Lc Lr α) {x : Nat} (hx : V x) : (uK α x = 0 ∨ uK α x = 1 ∨ uK α x = 2 ∨ uK α x = 3 ∨ uK α x = 4 ∨ uK α x = 5) ∨ uK α x = 6 ∨ uK α x = 7 ∨ uK α x = 8 ∨ uK α x = 9 := by
  have := hW.k9 hx
  omega
section SZW
variable {kk : Int32 → Int32 → Int32 → mS → Option Int32}
theorem szw_58 (hW : nWf V Lc Lr α) {v : Nat} (hv : V v) (hk : ∀ x a, V x → uD α x ≤ d → oK (kk (nI x) (nI v) a α)) {x : Nat} (hx : V x) (hd : uD α x ≤ d + 1) (n a : Int32) : oK (f_Mod_sizeWith_j58 N kk (nI x) n (nI v) a α) := by
  have ix := hW.ix hx
  have iv := hW.ix hv
  have j231 : oK (f_Mod_sizeWith_j231 N kk n α) := ⟨_, rfl⟩
  have j135 : 6 ≤ uK α x → uK α x ≠ 8 → oK (f_Mod_sizeWith_j135 N kk (nI x) n (nI v) a α) := fun h6 h8 => by
    have dx := hW.dd hx h6
    unfold f_Mod_sizeWith_j135
    rw [hW.cl hx, (hW.p3 hx h6).1, (hW.p4 hx h6).1]
    exact oK.ix ix ((hk _ _ (hW.p3 hx h6).2.2 (by have := dx.2.2.1 h8; omega)).bd fun _ => oK.ix ix ((hk _ _ (hW.p4 hx h6).2.2 (by omega)).bd fun _ => oK.so))
  unfold f_Mod_sizeWith_j58
  rw [hW.cl hx, hW.cl hv, hW.kd hx]
  rcases hW.ks hx with l | e | e | e | e
  · rcases l with e | e | e | e | e | e <;> rw [e]
    all_goals
      repeat' first
        | exact oK.so
        | exact j231
        | refine oK.ix ix ?_
        | refine oK.ix iv ?_
        | refine oK.ite (fun z => absurd z (by decide)) (fun _ => ?_)
        | refine oK.ite (fun _ => ?_) (fun z => absurd rfl z)
        | refine oK.ite (fun _ => ?_) (fun _ => ?_)
  · rw [e]
    exact oK.ix ix (oK.ite (fun z => absurd z (by decide)) fun _ => oK.ite (fun z => absurd z (by decide)) fun _ => oK.ite (fun _ => j135 (by omega) (by omega)) fun z => absurd rfl z)
  · rw [e]
    exact oK.ix ix (oK.ite (fun z => absurd z (by decide)) fun _ => oK.ite (fun z => absurd z (by decide)) fun _ => oK.ite (fun z => absurd z (by decide)) fun _ => oK.ite (fun _ => j135 (by omega) (by omega)) fun z => absurd rfl z)
  · rw [e]
    repeat' first
      | exact oK.so
      | exact j231
      | refine oK.ix ix ?_
      | refine oK.ix iv ?_
      | refine oK.ite (fun z => absurd z (by decide)) (fun _ => ?_)
      | refine oK.ite (fun _ => ?_) (fun z => absurd rfl z)
      | refine oK.ite (fun _ => ?_) (fun _ => ?_)
  · rw [e]
    have dx := hW.dd hx (by omega)
    rw [(hW.p3 hx (by omega)).1, (hW.p4 hx (by omega)).1, (hW.p5 hx e).1]
    have c3 : ∀ a, oK (kk (nI (uA α x)) (nI v) a α) := fun a => hk _ _ (hW.p3 hx (by omega)).2.2 (by have := dx.2.2.1 (by omega); omega)
    have c4 : ∀ a, oK (kk (nI (uC α x)) (nI v) a α) := fun a => hk _ _ (hW.p4 hx (by omega)).2.2 (by omega)
    have c5 : ∀ a, oK (kk (nI (uE α x)) (nI v) a α) := fun a => hk _ _ (hW.p5 hx e).2.2 (by have := dx.2.2.2 e; omega)
    repeat' first
      | exact oK.so
      | refine oK.ix ix ?_
      | refine oK.ite (fun z => absurd z (by decide)) (fun _ => ?_)
      | refine oK.ite (fun _ => ?_) (fun z => absurd rfl z)
      | refine (c3 _).bd fun _ => ?_
      | refine (c4 _).bd fun _ => ?_
      | refine (c5 _).bd fun _ => ?_
theorem szw_6 (hW : nWf V Lc Lr α) {v : Nat} (hv : V v) (hk : ∀ x a, V x → uD α x ≤ d → oK (kk (nI x) (nI v) a α)) (a : Int32) : ∀ (x nn : Nat) (n : Int32), V x → uD α x ≤ d + 1 → x < nn → oK (f_Mod_sizeWith_6 N kk α nn (nI x) n (nI v) a) := by
  intro x
  induction x using Nat.strongRecOn with
  | ind x ih =>
    intro nn n hx hd hn
    obtain ⟨nn, rfl⟩ : ∃ n', nn = n' + 1 := ⟨nn - 1, by omega⟩
    have ix := hW.ix hx
    have j58 := szw_58 (N := N) hW hv hk hx hd n a
    rw [f_Mod_sizeWith_6, hW.cl hx]
    refine oK.ix ix (oK.ite (fun h8 => oK.ite (fun _ => j58) fun _ => oK.ix ix ?_) fun _ => j58)
    have h8 : uK α x = 8 := (hW.is hx (m := 8) (by decide)).mp h8
    have dx := hW.dd hx (by omega)
    have q := hW.p3 hx (by omega)
    rw [(hW.p4 hx (by omega)).1, q.1]
    exact (hk _ _ (hW.p4 hx (by omega)).2.2 (by omega)).bd fun _ => oK.ix ix (ih _ q.2.1 nn _ q.2.2 (by omega) (by omega))
theorem szw_ok (hN : 400000 < N) (hW : nWf V Lc Lr α) {v : Nat} (hv : V v) : ∀ (d x : Nat) (a : Int32), V x → uD α x ≤ d → oK (G_sizeWith N d (nI x) (nI v) a α)
  | 0, x, _, hx, hd => by
    have := (hW x hx).2.2.2.1.2.1
    omega
  | d + 1, x, a, hx, hd => by
    show oK (f_Mod_sizeWith N (G_sizeWith N d) (nI x) (nI v) a α)
    unfold f_Mod_sizeWith
    exact szw_6 hW hv (szw_ok hN hW hv d) a x N 0 hx hd (by have := (hW x hx).1; omega)
end SZW
section R_has
variable {kk : Int32 → Int32 → mS → Option Int32}
theorem hasm_j (hW : nWf V Lc Lr α) (hk : ∀ x a, V x → uD α x ≤ d → oK (kk (nI x) a α)) {x : Nat} (hx : V x) (h6 : 6 ≤ uK α x) (h8 : uK α x ≠ 8) (hd : uD α x ≤ d + 1) (a : Int32) : oK (f_Mod_has_j112 N kk (nI x) a α) := by
  have ix := hW.ix hx
  have dx := hW.dd hx h6
  unfold f_Mod_has_j112
  rw [hW.cl hx, (hW.p3 hx h6).1, (hW.p4 hx h6).1]
  exact oK.ix ix ((hk _ _ (hW.p3 hx h6).2.2 (by have := dx.2.2.1 h8; omega)).bd fun _ => oK.ite (fun _ => oK.ix ix ((hk _ _ (hW.p4 hx h6).2.2 (by omega)).bd fun _ => oK.ite (fun _ => oK.so) fun _ => oK.so)) fun _ => oK.so)
theorem hasm_2 (hW : nWf V Lc Lr α) (hk : ∀ x a, V x → uD α x ≤ d → oK (kk (nI x) a α)) (a : Int32) : ∀ (x nn : Nat), V x → uD α x ≤ d + 1 → x < nn → oK (f_Mod_has_2 N kk α nn (nI x) a) := by
  intro x
  induction x using Nat.strongRecOn with
  | ind x ih =>
    intro nn hx hd hn
    obtain ⟨nn, rfl⟩ : ∃ n', nn = n' + 1 := ⟨nn - 1, by omega⟩
    have ix := hW.ix hx
    rw [f_Mod_has_2, hW.cl hx, hW.kd hx]
    rcases hW.ks hx with l | e | e | e | e
    · rcases l with e | e | e | e | e | e <;> rw [e]
      all_goals
        repeat' first
          | exact oK.so
          | refine oK.ix ix ?_
          | refine oK.ite (fun z => absurd z (by decide)) (fun _ => ?_)
          | refine oK.ite (fun _ => ?_) (fun z => absurd rfl z)
          | refine oK.ite (fun _ => ?_) (fun _ => ?_)
    · rw [e]
      have j := hasm_j (N := N) hW hk hx (by omega) (by omega) hd a
      repeat' first
        | exact j
        | refine oK.ix ix ?_
        | refine oK.ite (fun z => absurd z (by decide)) (fun _ => ?_)
        | refine oK.ite (fun _ => ?_) (fun z => absurd rfl z)
    · rw [e]
      have j := hasm_j (N := N) hW hk hx (by omega) (by omega) hd a
      repeat' first
        | exact j
        | refine oK.ix ix ?_
        | refine oK.ite (fun z => absurd z (by decide)) (fun _ => ?_)
        | refine oK.ite (fun _ => ?_) (fun z => absurd rfl z)
    · rw [e]
      have dx := hW.dd hx (by omega)
      have q := hW.p3 hx (by omega)
      rw [(hW.p4 hx (by omega)).1, q.1]
      exact oK.ix ix (oK.ite (fun _ => oK.ix ix ((hk _ _ (hW.p4 hx (by omega)).2.2 (by omega)).bd fun _ => oK.ite (fun _ => oK.ix ix (ih _ q.2.1 nn q.2.2 (by omega) (by omega))) fun _ => oK.so)) fun z => absurd rfl z)
    · rw [e]
      have dx := hW.dd hx (by omega)
      rw [(hW.p3 hx (by omega)).1, (hW.p4 hx (by omega)).1, (hW.p5 hx e).1]
      have c3 : ∀ a, oK (kk (nI (uA α x)) a α) := fun a => hk _ _ (hW.p3 hx (by omega)).2.2 (by have := dx.2.2.1 (by omega); omega)
      have c4 : ∀ a, oK (kk (nI (uC α x)) a α) := fun a => hk _ _ (hW.p4 hx (by omega)).2.2 (by omega)
      have c5 : ∀ a, oK (kk (nI (uE α x)) a α) := fun a => hk _ _ (hW.p5 hx e).2.2 (by have := dx.2.2.2 e; omega)
      repeat' first
        | exact oK.so
        | refine oK.ix ix ?_
        | refine oK.ite (fun z => absurd z (by decide)) (fun _ => ?_)
        | refine oK.ite (fun _ => ?_) (fun z => absurd rfl z)
        | refine (c3 _).bd fun _ => ?_
        | refine (c4 _).bd fun _ => ?_
        | refine (c5 _).bd fun _ => ?_
        | refine oK.ite (fun _ => ?_) (fun _ => ?_)
theorem hasm_ok (hN : 400000 < N) (hW : nWf V Lc Lr α) : ∀ (d x : Nat) (a : Int32), V x → uD α x ≤ d → oK (G_has N d (nI x) a α)
  | 0, x, _, hx, hd => by
    have := (hW x hx).2.2.2.1.2.1
    omega
  | d + 1, x, a, hx, hd => by
    show oK (f_Mod_has N (G_has N d) (nI x) a α)
    unfold f_Mod_has
    exact hasm_2 hW (hasm_ok hN hW d) a x N hx hd (by have := (hW x hx).1; omega)
end R_has
section R_bound
variable {kk : Int32 → Int32 → mS → Option Int32}
theorem boundm_j (hW : nWf V Lc Lr α) (hk : ∀ x a, V x → uD α x ≤ d → oK (kk (nI x) a α)) {x : Nat} (hx : V x) (h6 : 6 ≤ uK α x) (h8 : uK α x ≠ 8) (hd : uD α x ≤ d + 1) (a : Int32) : oK (f_Mod_bound_j100 N kk (nI x) a α) := by
  have ix := hW.ix hx
  have dx := hW.dd hx h6
  unfold f_Mod_bound_j100
  rw [hW.cl hx, (hW.p3 hx h6).1, (hW.p4 hx h6).1]
  exact oK.ix ix ((hk _ _ (hW.p3 hx h6).2.2 (by have := dx.2.2.1 h8; omega)).bd fun _ => oK.ite (fun _ => oK.ix ix ((hk _ _ (hW.p4 hx h6).2.2 (by omega)).bd fun _ => oK.ite (fun _ => oK.so) fun _ => oK.so)) fun _ => oK.so)
theorem boundm_2 (hW : nWf V Lc Lr α) (hk : ∀ x a, V x → uD α x ≤ d → oK (kk (nI x) a α)) (a : Int32) : ∀ (x nn : Nat), V x → uD α x ≤ d + 1 → x < nn → oK (f_Mod_bound_2 N kk α nn (nI x) a) := by
  intro x
  induction x using Nat.strongRecOn with
  | ind x ih =>
    intro nn hx hd hn
    obtain ⟨nn, rfl⟩ : ∃ n', nn = n' + 1 := ⟨nn - 1, by omega⟩
    have ix := hW.ix hx
    rw [f_Mod_bound_2, hW.cl hx, hW.kd hx]
    rcases hW.ks hx with l | e | e | e | e
    · rcases l with e | e | e | e | e | e <;> rw [e]
      all_goals
        repeat' first
          | exact oK.so
          | refine oK.ix ix ?_
          | refine oK.ite (fun z => absurd z (by decide)) (fun _ => ?_)
          | refine oK.ite (fun _ => ?_) (fun z => absurd rfl z)
          | refine oK.ite (fun _ => ?_) (fun _ => ?_)
    · rw [e]
      have j := boundm_j (N := N) hW hk hx (by omega) (by omega) hd a
      repeat' first
        | exact j
        | refine oK.ix ix ?_
        | refine oK.ite (fun z => absurd z (by decide)) (fun _ => ?_)
        | refine oK.ite (fun _ => ?_) (fun z => absurd rfl z)
    · rw [e]
      have j := boundm_j (N := N) hW hk hx (by omega) (by omega) hd a
      repeat' first
        | exact j
        | refine oK.ix ix ?_
        | refine oK.ite (fun z => absurd z (by decide)) (fun _ => ?_)
        | refine oK.ite (fun _ => ?_) (fun z => absurd rfl z)
    · rw [e]
      have dx := hW.dd hx (by omega)
      have q := hW.p3 hx (by omega)
      rw [(hW.p4 hx (by omega)).1, q.1]
      exact oK.ix ix (oK.ite (fun _ => oK.ix ix ((hk _ _ (hW.p4 hx (by omega)).2.2 (by omega)).bd fun _ => oK.ite (fun _ => oK.ix ix (ih _ q.2.1 nn q.2.2 (by omega) (by omega))) fun _ => oK.so)) fun z => absurd rfl z)
    · rw [e]
      have dx := hW.dd hx (by omega)
      rw [(hW.p3 hx (by omega)).1, (hW.p4 hx (by omega)).1, (hW.p5 hx e).1]
      have c3 : ∀ a, oK (kk (nI (uA α x)) a α) := fun a => hk _ _ (hW.p3 hx (by omega)).2.2 (by have := dx.2.2.1 (by omega); omega)
      have c4 : ∀ a, oK (kk (nI (uC α x)) a α) := fun a => hk _ _ (hW.p4 hx (by omega)).2.2 (by omega)
      have c5 : ∀ a, oK (kk (nI (uE α x)) a α) := fun a => hk _ _ (hW.p5 hx e).2.2 (by have := dx.2.2.2 e; omega)
      repeat' first
        | exact oK.so
        | refine oK.ix ix ?_
        | refine oK.ite (fun z => absurd z (by decide)) (fun _ => ?_)
        | refine oK.ite (fun _ => ?_) (fun z => absurd rfl z)
        | refine (c3 _).bd fun _ => ?_
        | refine (c4 _).bd fun _ => ?_
        | refine (c5 _).bd fun _ => ?_
        | refine oK.ite (fun _ => ?_) (fun _ => ?_)
theorem boundm_ok (hN : 400000 < N) (hW : nWf V Lc Lr α) : ∀ (d x : Nat) (a : Int32), V x → uD α x ≤ d → oK (G_bound N d (nI x) a α)
  | 0, x, _, hx, hd => by
    have := (hW x hx).2.2.2.1.2.1
    omega
  | d + 1, x, a, hx, hd => by
    show oK (f_Mod_bound N (G_bound N d) (nI x) a α)
    unfold f_Mod_bound
    exact boundm_2 hW (boundm_ok hN hW d) a x N hx hd (by have := (hW x hx).1; omega)
end R_bound
end SIZES
