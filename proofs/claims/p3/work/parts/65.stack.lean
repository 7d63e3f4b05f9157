-- the frames as a stack: what each waits for, what it gives
def knd (α : kS) (k : Nat) (p : Int32) : Prop := ∃ j, p = nI j ∧ j < tn α ∧ nK α j = k
def bnd (α : kS) (p : Int32) : Prop := ∃ j, p = nI j ∧ j < tn α ∧ (nK α j = 6 ∨ nK α j = 7)
def arg (α : kS) (l : Nat) (t p : Int32) : Prop := ∃ k, l ≤ k ∧ k < 2 ^ 31 ∧ t = nI k ∧ aP α k p
theorem knd.g {α β : kS} {k : Nat} {p : Int32} (hg : grw α β) (h : knd α k p) : knd β k p := by
  obtain ⟨j, e, h1, h2⟩ := h
  exact ⟨j, e, Nat.lt_of_lt_of_le h1 hg.1, by rw [(g_n hg h1).1]; exact h2⟩
theorem bnd.g {α β : kS} {p : Int32} (hg : grw α β) (h : bnd α p) : bnd β p := by
  obtain ⟨j, e, h1, h2⟩ := h
  exact ⟨j, e, Nat.lt_of_lt_of_le h1 hg.1, by rw [(g_n hg h1).1]; exact h2⟩
theorem kd_g {α β : kS} (hO : kOk α) (hO' : kOk β) (hg : grw α β) {j : Nat} (hj : j < tn α) : f_Terms_kind (nI j) β = f_Terms_kind (nI j) α := by
  rw [kd_at hO hj, kd_at hO' (Nat.lt_of_lt_of_le hj hg.1), (g_n hg hj).1]
theorem lf_g {α β : kS} (hO : kOk α) (hO' : kOk β) (hg : grw α β) {j : Nat} (hj : j < tn α) : f_Terms_left (nI j) β = f_Terms_left (nI j) α := by
  rw [lf_in hO hj, lf_in hO' (Nat.lt_of_lt_of_le hj hg.1), (g_n hg hj).2.2.2.2.1]
theorem aP_g {α β : kS} (hO : kOk α) (hW : tWf α) (hO' : kOk β) (hg : grw α β) : ∀ (k : Nat) {p : Int32}, qP α p → aP α k p → aP β k p
  | 0, _, _, _ => trivial
  | k + 1, p, hp, h => by
    have h1 := (app_parts hO hW hp h.1).1
    obtain ⟨j, rfl, hj⟩ := hp
    refine ⟨by rw [kd_g hO hO' hg hj.1]; exact h.1, ?_⟩
    rw [lf_g hO hO' hg hj.1]
    exact aP_g hO hW hO' hg k h1 h.2
theorem arg.g {α β : kS} {l : Nat} {t p : Int32} (hO : kOk α) (hW : tWf α) (hO' : kOk β) (hg : grw α β) (hp : qP α p) (h : arg α l t p) : arg β l t p := by
  obtain ⟨k, h1, h2, h3, h4⟩ := h
  exact ⟨k, h1, h2, h3, aP_g hO hW hO' hg k hp h4⟩
/-- a TERM without FREE variables -/
def qF (α : kS) (p : Int32) : Prop := ∃ j, p = nI j ∧ qT α j ∧ FL α 0 j
theorem qF.q {α : kS} {p : Int32} (h : qF α p) : qP α p := by
  obtain ⟨j, e, h, -⟩ := h
  exact ⟨j, e, h⟩
theorem qF.g {α β : kS} {p : Int32} (hO : kOk α) (hW : tWf α) (hg : grw α β) (h : qF α p) : qF β p := by
  obtain ⟨j, e, h, hF⟩ := h
  exact ⟨j, e, h.g hg, hF.g hO hW hg h.1⟩
def lv (n : Nat) : Nat := if 28 ≤ n then 0 else if 15 ≤ n ∨ n = 0 then 1 else if 3 ≤ n then 2 else 3
/-- a frame with h others below, when an answer of the sort g comes (1: a TERM, 2: none ever) -/
def fo (α : kS) (n dd h g : Nat) (a b t : Int32) : Prop := match n with
  | 0 => h < 302
  | 1 => qP α a ∧ dd ≤ 60 ∧ h < 423 + dd
  | 2 => qP α a ∧ dd ≤ 59 ∧ h < 423 + dd ∧ g ≠ 0
  | 3 => (qP α a ∧ qP α b) ∧ dd ≤ 121 ∧ h < 302 + dd
  | 4 => qP α b ∧ dd ≤ 120 ∧ h < 302 + dd ∧ g ≠ 0
  | 5 => qP α a ∧ dd ≤ 120 ∧ h < 302 + dd ∧ g ≠ 0
  | 6 => (bnd α a ∧ bnd α b) ∧ dd ≤ 120 ∧ h < 302 + dd
  | 7 => dd ≤ 120 ∧ h < 302 + dd
  | 8 => (qP α a ∧ qP α b ∧ ∃ k, k < 2 ^ 31 ∧ t = nI k ∧ aP α k a ∧ aP α k b) ∧ dd ≤ 120 ∧ h < 302 + dd
  | 9 => qP α a ∧ dd ≤ 121 ∧ h < 302 + dd
  | 10 => dd ≤ 120 ∧ h < 302 + dd ∧ g ≠ 0
  | 11 => bnd α a ∧ dd ≤ 120 ∧ h < 302 + dd ∧ g ≠ 0
  | 12 => (bnd α a ∧ qP α b) ∧ dd ≤ 120 ∧ h < 302 + dd ∧ g ≠ 0
  | 13 => (qP α a ∧ qP α b ∧ arg α 0 t a) ∧ dd ≤ 120 ∧ h < 302 + dd
  | 14 => (qP α a ∧ qP α b ∧ arg α 0 t a) ∧ dd ≤ 120 ∧ h < 302 + dd ∧ g ≠ 0
  | 15 => qP α a ∧ dd ≤ 151 ∧ h < 2 * dd + 1
  | 16 => knd α 6 a ∧ dd ≤ 150 ∧ h < 2 * dd + 1
  | 17 => dd ≤ 150 ∧ h < 2 * dd + 1
  | 18 => knd α 7 a ∧ dd ≤ 150 ∧ h < 2 * dd + 1
  | 19 => knd α 7 a ∧ dd ≤ 150 ∧ h < 2 * dd + 1 ∧ g ≠ 0
  | 20 => knd α 8 a ∧ dd ≤ 150 ∧ h < 2 * dd + 1
  | 21 => knd α 8 a ∧ dd ≤ 150 ∧ h < 2 * dd + 1
  | 22 => (qP α a ∧ ((f_Terms_kind a α = 0 ∧ g = 2) ∨ (g ≠ 0 ∧ arg α 1 t a))) ∧ dd ≤ 150 ∧ h < 2 * dd + 1
  | 23 => (qP α a ∧ arg α 1 t a) ∧ dd ≤ 150 ∧ h < 2 * dd + 1 ∧ g ≠ 0
  | 24 => (qP α a ∧ arg α 1 t a ∧ knd α 6 b) ∧ dd ≤ 150 ∧ h < 2 * dd + 1
  | 25 => h < 302 ∧ g ≠ 0
  | 26 => h < 302 ∧ g ≠ 0
  | 27 => qP α a ∧ h < 302 ∧ g ≠ 0
  | 28 => (qP α a ∧ (b = -1 ∨ qP α b)) ∧ h = 0 ∧ dd = 0
  | 29 => (qP α a ∧ (b = -1 ∨ qP α b)) ∧ h = 0 ∧ dd = 0
  | 30 => qF α b ∧ h = 0 ∧ dd = 0
  | 31 => qF α b ∧ h = 0 ∧ dd = 0
  | 32 => h = 0 ∧ dd = 0
  | 33 => h = 0 ∧ dd = 0
  | 34 => h = 0 ∧ dd = 0
  | 35 => h = 0 ∧ dd = 0
  | 36 => h = 0 ∧ dd = 0
  | _ => False
/-- what sort of answer a frame gives in the end -/
def gv (α : kS) (n g : Nat) (a : Int32) : Nat := match n with
  | 0 => g
  | 3 => 0 | 4 => 0 | 5 => 0 | 6 => 0 | 7 => 0 | 8 => 0
  | 15 => if f_Terms_kind a α = 0 then 2 else 1
  | 22 => if f_Terms_kind a α = 0 then 2 else 1
  | 25 => 0 | 26 => 0 | 27 => 0 | 28 => 0 | 29 => 0
  | 32 => 0 | 33 => 0 | 34 => 0 | 35 => 0 | 36 => 0
  | _ => 1
def lvs (l : Nat) : List F5 → Prop
  | [] => True
  | f :: _ => ∃ n, f.1 = nI n ∧ n ≤ 36 ∧ lv n ≤ l
/-- what holds below a frame: EVAL's own frame is at the bottom -/
def zs (n z : Nat) : Nat := match n with
  | 30 => if z = 1 then 2 else 32
  | 31 => if z = 1 then 2 else 32
  | _ => z
def st (α : kS) : Nat → List F5 → Nat → Prop
  | z, [], g => (z = 1 ∨ z = 2 → z = 2 ∧ g ≠ 0) ∧ ¬ (32 ≤ z ∧ z ≤ 36)
  | z, f :: fs, g => ∃ n dd, f.1 = nI n ∧ (n ≤ 36 ∧ (32 ≤ n → z = n)) ∧ f.2.2.2.2 = nI dd ∧ fo α n dd fs.length g f.2.1 f.2.2.1 f.2.2.2.1 ∧ lvs (lv n) fs ∧ (n ≤ 31 → st α (zs n z) fs (gv α n g f.2.1))
section STG
variable {α β : kS}
theorem fo_g0 (hO : kOk α) (hW : tWf α) (hO' : kOk β) (hg : grw α β) {dd h g : Nat} {a b t : Int32} (q : fo α 0 dd h g a b t) : fo β 0 dd h g a b t := by have e : h < 302 := q; exact e
theorem fo_g1 (hO : kOk α) (hW : tWf α) (hO' : kOk β) (hg : grw α β) {dd h g : Nat} {a b t : Int32} (q : fo α 1 dd h g a b t) : fo β 1 dd h g a b t := ⟨q.1.g hg, q.2⟩
theorem fo_g2 (hO : kOk α) (hW : tWf α) (hO' : kOk β) (hg : grw α β) {dd h g : Nat} {a b t : Int32} (q : fo α 2 dd h g a b t) : fo β 2 dd h g a b t := ⟨q.1.g hg, q.2⟩
theorem fo_g3 (hO : kOk α) (hW : tWf α) (hO' : kOk β) (hg : grw α β) {dd h g : Nat} {a b t : Int32} (q : fo α 3 dd h g a b t) : fo β 3 dd h g a b t := ⟨⟨q.1.1.g hg, q.1.2.g hg⟩, q.2⟩
theorem fo_g4 (hO : kOk α) (hW : tWf α) (hO' : kOk β) (hg : grw α β) {dd h g : Nat} {a b t : Int32} (q : fo α 4 dd h g a b t) : fo β 4 dd h g a b t := ⟨q.1.g hg, q.2⟩
theorem fo_g5 (hO : kOk α) (hW : tWf α) (hO' : kOk β) (hg : grw α β) {dd h g : Nat} {a b t : Int32} (q : fo α 5 dd h g a b t) : fo β 5 dd h g a b t := ⟨q.1.g hg, q.2⟩
theorem fo_g6 (hO : kOk α) (hW : tWf α) (hO' : kOk β) (hg : grw α β) {dd h g : Nat} {a b t : Int32} (q : fo α 6 dd h g a b t) : fo β 6 dd h g a b t := ⟨⟨q.1.1.g hg, q.1.2.g hg⟩, q.2⟩
theorem fo_g7 (hO : kOk α) (hW : tWf α) (hO' : kOk β) (hg : grw α β) {dd h g : Nat} {a b t : Int32} (q : fo α 7 dd h g a b t) : fo β 7 dd h g a b t := ⟨q.1, q.2⟩
theorem fo_g8 (hO : kOk α) (hW : tWf α) (hO' : kOk β) (hg : grw α β) {dd h g : Nat} {a b t : Int32} (q : fo α 8 dd h g a b t) : fo β 8 dd h g a b t := by
    obtain ⟨⟨q1, q2, k, q3, q4, q5, q6⟩, q7⟩ := q
    exact ⟨⟨q1.g hg, q2.g hg, k, q3, q4, aP_g hO hW hO' hg k q1 q5, aP_g hO hW hO' hg k q2 q6⟩, q7⟩
theorem fo_g9 (hO : kOk α) (hW : tWf α) (hO' : kOk β) (hg : grw α β) {dd h g : Nat} {a b t : Int32} (q : fo α 9 dd h g a b t) : fo β 9 dd h g a b t := ⟨q.1.g hg, q.2⟩
theorem fo_g10 (hO : kOk α) (hW : tWf α) (hO' : kOk β) (hg : grw α β) {dd h g : Nat} {a b t : Int32} (q : fo α 10 dd h g a b t) : fo β 10 dd h g a b t := ⟨q.1, q.2⟩
theorem fo_g11 (hO : kOk α) (hW : tWf α) (hO' : kOk β) (hg : grw α β) {dd h g : Nat} {a b t : Int32} (q : fo α 11 dd h g a b t) : fo β 11 dd h g a b t := ⟨q.1.g hg, q.2⟩
theorem fo_g12 (hO : kOk α) (hW : tWf α) (hO' : kOk β) (hg : grw α β) {dd h g : Nat} {a b t : Int32} (q : fo α 12 dd h g a b t) : fo β 12 dd h g a b t := ⟨⟨q.1.1.g hg, q.1.2.g hg⟩, q.2⟩
theorem fo_g13 (hO : kOk α) (hW : tWf α) (hO' : kOk β) (hg : grw α β) {dd h g : Nat} {a b t : Int32} (q : fo α 13 dd h g a b t) : fo β 13 dd h g a b t := ⟨⟨q.1.1.g hg, q.1.2.1.g hg, q.1.2.2.g hO hW hO' hg q.1.1⟩, q.2⟩
theorem fo_g14 (hO : kOk α) (hW : tWf α) (hO' : kOk β) (hg : grw α β) {dd h g : Nat} {a b t : Int32} (q : fo α 14 dd h g a b t) : fo β 14 dd h g a b t := ⟨⟨q.1.1.g hg, q.1.2.1.g hg, q.1.2.2.g hO hW hO' hg q.1.1⟩, q.2⟩
theorem fo_g15 (hO : kOk α) (hW : tWf α) (hO' : kOk β) (hg : grw α β) {dd h g : Nat} {a b t : Int32} (q : fo α 15 dd h g a b t) : fo β 15 dd h g a b t := ⟨q.1.g hg, q.2⟩
theorem fo_g16 (hO : kOk α) (hW : tWf α) (hO' : kOk β) (hg : grw α β) {dd h g : Nat} {a b t : Int32} (q : fo α 16 dd h g a b t) : fo β 16 dd h g a b t := ⟨q.1.g hg, q.2⟩
theorem fo_g17 (hO : kOk α) (hW : tWf α) (hO' : kOk β) (hg : grw α β) {dd h g : Nat} {a b t : Int32} (q : fo α 17 dd h g a b t) : fo β 17 dd h g a b t := ⟨q.1, q.2⟩
theorem fo_g18 (hO : kOk α) (hW : tWf α) (hO' : kOk β) (hg : grw α β) {dd h g : Nat} {a b t : Int32} (q : fo α 18 dd h g a b t) : fo β 18 dd h g a b t := ⟨q.1.g hg, q.2⟩
theorem fo_g19 (hO : kOk α) (hW : tWf α) (hO' : kOk β) (hg : grw α β) {dd h g : Nat} {a b t : Int32} (q : fo α 19 dd h g a b t) : fo β 19 dd h g a b t := ⟨q.1.g hg, q.2⟩
theorem fo_g20 (hO : kOk α) (hW : tWf α) (hO' : kOk β) (hg : grw α β) {dd h g : Nat} {a b t : Int32} (q : fo α 20 dd h g a b t) : fo β 20 dd h g a b t := ⟨q.1.g hg, q.2⟩
theorem fo_g21 (hO : kOk α) (hW : tWf α) (hO' : kOk β) (hg : grw α β) {dd h g : Nat} {a b t : Int32} (q : fo α 21 dd h g a b t) : fo β 21 dd h g a b t := ⟨q.1.g hg, q.2⟩
theorem fo_g22 (hO : kOk α) (hW : tWf α) (hO' : kOk β) (hg : grw α β) {dd h g : Nat} {a b t : Int32} (q : fo α 22 dd h g a b t) : fo β 22 dd h g a b t := by
    obtain ⟨⟨q1, q2⟩, q3⟩ := q
    refine ⟨⟨q1.g hg, ?_⟩, q3⟩
    obtain ⟨j, rfl, hj⟩ := id q1
    rw [kd_g hO hO' hg hj.1]
    rcases q2 with z | ⟨z2, z3⟩
    · exact Or.inl z
    · exact Or.inr ⟨z2, z3.g hO hW hO' hg q1⟩
theorem fo_g23 (hO : kOk α) (hW : tWf α) (hO' : kOk β) (hg : grw α β) {dd h g : Nat} {a b t : Int32} (q : fo α 23 dd h g a b t) : fo β 23 dd h g a b t := ⟨⟨q.1.1.g hg, q.1.2.g hO hW hO' hg q.1.1⟩, q.2⟩
theorem fo_g24 (hO : kOk α) (hW : tWf α) (hO' : kOk β) (hg : grw α β) {dd h g : Nat} {a b t : Int32} (q : fo α 24 dd h g a b t) : fo β 24 dd h g a b t := ⟨⟨q.1.1.g hg, q.1.2.1.g hO hW hO' hg q.1.1, q.1.2.2.g hg⟩, q.2⟩
theorem fo_g25 (hO : kOk α) (hW : tWf α) (hO' : kOk β) (hg : grw α β) {dd h g : Nat} {a b t : Int32} (q : fo α 25 dd h g a b t) : fo β 25 dd h g a b t := ⟨q.1, q.2⟩
theorem fo_g26 (hO : kOk α) (hW : tWf α) (hO' : kOk β) (hg : grw α β) {dd h g : Nat} {a b t : Int32} (q : fo α 26 dd h g a b t) : fo β 26 dd h g a b t := ⟨q.1, q.2⟩
theorem fo_g27 (hO : kOk α) (hW : tWf α) (hO' : kOk β) (hg : grw α β) {dd h g : Nat} {a b t : Int32} (q : fo α 27 dd h g a b t) : fo β 27 dd h g a b t := ⟨q.1.g hg, q.2⟩
theorem fo_g28 (hO : kOk α) (hW : tWf α) (hO' : kOk β) (hg : grw α β) {dd h g : Nat} {a b t : Int32} (q : fo α 28 dd h g a b t) : fo β 28 dd h g a b t := ⟨⟨q.1.1.g hg, q.1.2.imp id (qP.g hg)⟩, q.2⟩
theorem fo_g29 (hO : kOk α) (hW : tWf α) (hO' : kOk β) (hg : grw α β) {dd h g : Nat} {a b t : Int32} (q : fo α 29 dd h g a b t) : fo β 29 dd h g a b t := ⟨⟨q.1.1.g hg, q.1.2.imp id (qP.g hg)⟩, q.2⟩
theorem fo_g30 (hO : kOk α) (hW : tWf α) (hO' : kOk β) (hg : grw α β) {dd h g : Nat} {a b t : Int32} (q : fo α 30 dd h g a b t) : fo β 30 dd h g a b t := ⟨q.1.g hO hW hg, q.2⟩
theorem fo_g31 (hO : kOk α) (hW : tWf α) (hO' : kOk β) (hg : grw α β) {dd h g : Nat} {a b t : Int32} (q : fo α 31 dd h g a b t) : fo β 31 dd h g a b t := ⟨q.1.g hO hW hg, q.2⟩
theorem fo_g32 (hO : kOk α) (hW : tWf α) (hO' : kOk β) (hg : grw α β) {dd h g : Nat} {a b t : Int32} (q : fo α 32 dd h g a b t) : fo β 32 dd h g a b t := ⟨q.1, q.2⟩
theorem fo_g33 (hO : kOk α) (hW : tWf α) (hO' : kOk β) (hg : grw α β) {dd h g : Nat} {a b t : Int32} (q : fo α 33 dd h g a b t) : fo β 33 dd h g a b t := ⟨q.1, q.2⟩
theorem fo_g34 (hO : kOk α) (hW : tWf α) (hO' : kOk β) (hg : grw α β) {dd h g : Nat} {a b t : Int32} (q : fo α 34 dd h g a b t) : fo β 34 dd h g a b t := ⟨q.1, q.2⟩
theorem fo_g35 (hO : kOk α) (hW : tWf α) (hO' : kOk β) (hg : grw α β) {dd h g : Nat} {a b t : Int32} (q : fo α 35 dd h g a b t) : fo β 35 dd h g a b t := ⟨q.1, q.2⟩
theorem fo_g36 (hO : kOk α) (hW : tWf α) (hO' : kOk β) (hg : grw α β) {dd h g : Nat} {a b t : Int32} (q : fo α 36 dd h g a b t) : fo β 36 dd h g a b t := ⟨q.1, q.2⟩
theorem fo_g (hO : kOk α) (hW : tWf α) (hO' : kOk β) (hg : grw α β) (n : Nat) {dd h g : Nat} {a b t : Int32} (q : fo α n dd h g a b t) : fo β n dd h g a b t := by
  by_cases e0 : n = 0
  · subst e0; exact fo_g0 hO hW hO' hg q
  by_cases e1 : n = 1
  · subst e1; exact fo_g1 hO hW hO' hg q
  by_cases e2 : n = 2
  · subst e2; exact fo_g2 hO hW hO' hg q
  by_cases e3 : n = 3
  · subst e3; exact fo_g3 hO hW hO' hg q
  by_cases e4 : n = 4
  · subst e4; exact fo_g4 hO hW hO' hg q
  by_cases e5 : n = 5
  · subst e5; exact fo_g5 hO hW hO' hg q
  by_cases e6 : n = 6
  · subst e6; exact fo_g6 hO hW hO' hg q
  by_cases e7 : n = 7
  · subst e7; exact fo_g7 hO hW hO' hg q
  by_cases e8 : n = 8
  · subst e8; exact fo_g8 hO hW hO' hg q
  by_cases e9 : n = 9
  · subst e9; exact fo_g9 hO hW hO' hg q
  by_cases e10 : n = 10
  · subst e10; exact fo_g10 hO hW hO' hg q
  by_cases e11 : n = 11
  · subst e11; exact fo_g11 hO hW hO' hg q
  by_cases e12 : n = 12
  · subst e12; exact fo_g12 hO hW hO' hg q
  by_cases e13 : n = 13
  · subst e13; exact fo_g13 hO hW hO' hg q
  by_cases e14 : n = 14
  · subst e14; exact fo_g14 hO hW hO' hg q
  by_cases e15 : n = 15
  · subst e15; exact fo_g15 hO hW hO' hg q
  by_cases e16 : n = 16
  · subst e16; exact fo_g16 hO hW hO' hg q
  by_cases e17 : n = 17
  · subst e17; exact fo_g17 hO hW hO' hg q
  by_cases e18 : n = 18
  · subst e18; exact fo_g18 hO hW hO' hg q
  by_cases e19 : n = 19
  · subst e19; exact fo_g19 hO hW hO' hg q
  by_cases e20 : n = 20
  · subst e20; exact fo_g20 hO hW hO' hg q
  by_cases e21 : n = 21
  · subst e21; exact fo_g21 hO hW hO' hg q
  by_cases e22 : n = 22
  · subst e22; exact fo_g22 hO hW hO' hg q
  by_cases e23 : n = 23
  · subst e23; exact fo_g23 hO hW hO' hg q
  by_cases e24 : n = 24
  · subst e24; exact fo_g24 hO hW hO' hg q
  by_cases e25 : n = 25
  · subst e25; exact fo_g25 hO hW hO' hg q
  by_cases e26 : n = 26
  · subst e26; exact fo_g26 hO hW hO' hg q
  by_cases e27 : n = 27
  · subst e27; exact fo_g27 hO hW hO' hg q
  by_cases e28 : n = 28
  · subst e28; exact fo_g28 hO hW hO' hg q
  by_cases e29 : n = 29
  · subst e29; exact fo_g29 hO hW hO' hg q
  by_cases e30 : n = 30
  · subst e30; exact fo_g30 hO hW hO' hg q
  by_cases e31 : n = 31
  · subst e31; exact fo_g31 hO hW hO' hg q
  by_cases e32 : n = 32
  · subst e32; exact fo_g32 hO hW hO' hg q
  by_cases e33 : n = 33
  · subst e33; exact fo_g33 hO hW hO' hg q
  by_cases e34 : n = 34
  · subst e34; exact fo_g34 hO hW hO' hg q
  by_cases e35 : n = 35
  · subst e35; exact fo_g35 hO hW hO' hg q
  by_cases e36 : n = 36
  · subst e36; exact fo_g36 hO hW hO' hg q
  obtain ⟨k, rfl⟩ : ∃ k, n = k + 37 := ⟨n - 37, by omega⟩
  exact q.elim
theorem gv_g (hO : kOk α) (hO' : kOk β) (hg : grw α β) : ∀ (n : Nat) {dd h g : Nat} {a b t : Int32}, fo α n dd h g a b t → gv β n g a = gv α n g a := by
  intro n dd h g a b t q
  by_cases h15 : n = 15 ∨ n = 22
  · have qa : qP α a := by
      rcases h15 with rfl | rfl
      · exact q.1
      · exact q.1.1
    obtain ⟨j, rfl, hj⟩ := qa
    rcases h15 with rfl | rfl
    · show (if _ then 2 else 1) = (if _ then 2 else 1)
      rw [kd_g hO hO' hg hj.1]
    · show (if _ then 2 else 1) = (if _ then 2 else 1)
      rw [kd_g hO hO' hg hj.1]
  · unfold gv
    split <;> first | rfl | (exfalso; apply h15; omega)
theorem st.g (hO : kOk α) (hW : tWf α) (hO' : kOk β) (hg : grw α β) : ∀ (fs : List F5) {z g : Nat}, st α z fs g → st β z fs g
  | [], _, _, h => h
  | f :: fs, z, g, h => by
    obtain ⟨n, dd, h1, h2, h3, h4, h5, h6⟩ := h
    refine ⟨n, dd, h1, h2, h3, fo_g hO hW hO' hg n h4, h5, fun hn => ?_⟩
    rw [gv_g hO hO' hg n h4]
    exact st.g hO hW hO' hg fs (h6 hn)
end STG
def vc : List F5 → Nat
  | [] => 0
  | f :: fs => (if f.1 = 7 ∨ f.1 = 12 ∨ f.1 = 17 ∨ f.1 = 19 then 1 else 0) + vc fs
def vc1 : List F5 → Nat
  | [] => 0
  | f :: fs => (if f.1 = 7 ∨ f.1 = 12 then 1 else 0) + vc1 fs
theorem vc_le : ∀ fs, vc fs ≤ fs.length
  | [] => Nat.le_refl _
  | f :: fs => by
    have := vc_le fs
    show (if _ then 1 else 0) + vc fs ≤ fs.length + 1
    split <;> omega
set_option maxRecDepth 100000 in
theorem fo_cap : ∀ (n : Nat) {α : kS} {dd h g : Nat} {a b t : Int32}, fo α n dd h g a b t → h < 484
  | 0, _, _, _, _, _, _, _, q => by have : _ < 302 := q; omega
  | 1, _, _, _, _, _, _, _, q => by have := q.2; omega
  | 2, _, _, _, _, _, _, _, q => by have := q.2; omega
  | 3, _, _, _, _, _, _, _, q => by have := q.2; omega
  | 4, _, _, _, _, _, _, _, q => by have := q.2; omega
  | 5, _, _, _, _, _, _, _, q => by have := q.2; omega
  | 6, _, _, _, _, _, _, _, q => by have := q.2; omega
  | 7, _, _, _, _, _, _, _, q => by have := q.1; have := q.2; omega
  | 8, _, _, _, _, _, _, _, q => by have := q.2; omega
  | 9, _, _, _, _, _, _, _, q => by have := q.2; omega
  | 10, _, _, _, _, _, _, _, q => by have := q.1; have := q.2; omega
  | 11, _, _, _, _, _, _, _, q => by have := q.2; omega
  | 12, _, _, _, _, _, _, _, q => by have := q.2; omega
  | 13, _, _, _, _, _, _, _, q => by have := q.2; omega
  | 14, _, _, _, _, _, _, _, q => by have := q.2; omega
  | 15, _, _, _, _, _, _, _, q => by have := q.2; omega
  | 16, _, _, _, _, _, _, _, q => by have := q.2; omega
  | 17, _, _, _, _, _, _, _, q => by have := q.1; have := q.2; omega
  | 18, _, _, _, _, _, _, _, q => by have := q.2; omega
  | 19, _, _, _, _, _, _, _, q => by have := q.2; omega
  | 20, _, _, _, _, _, _, _, q => by have := q.2; omega
  | 21, _, _, _, _, _, _, _, q => by have := q.2; omega
  | 22, _, _, _, _, _, _, _, q => by have := q.2; omega
  | 23, _, _, _, _, _, _, _, q => by have := q.2; omega
  | 24, _, _, _, _, _, _, _, q => by have := q.2; omega
  | 25, _, _, _, _, _, _, _, q => by have := q.1; omega
  | 26, _, _, _, _, _, _, _, q => by have := q.1; omega
  | 27, _, _, _, _, _, _, _, q => by have := q.2; omega
  | 28, _, _, _, _, _, _, _, q => by have := q.2; omega
  | 29, _, _, _, _, _, _, _, q => by have := q.2; omega
  | 30, _, _, _, _, _, _, _, q => by have := q.2; omega
  | 31, _, _, _, _, _, _, _, q => by have := q.2; omega
  | 32, _, _, _, _, _, _, _, q => by have := q.1; omega
  | 33, _, _, _, _, _, _, _, q => by have := q.1; omega
  | 34, _, _, _, _, _, _, _, q => by have := q.1; omega
  | 35, _, _, _, _, _, _, _, q => by have := q.1; omega
  | 36, _, _, _, _, _, _, _, q => by have := q.1; omega
  | n + 37, _, _, _, _, _, _, _, q => q.elim
theorem st_len {α : kS} : ∀ (fs : List F5) {z g : Nat}, st α z fs g → fs.length ≤ 484
  | [], _, _, _ => Nat.zero_le _
  | f :: fs, z, g, h => by
    obtain ⟨n, dd, h1, h2, h3, h4, h5, h6⟩ := h
    have := fo_cap n h4
    show fs.length + 1 ≤ 484
    omega
theorem fo_bot {α : kS} {n dd h g : Nat} {a b t : Int32} (hn : 32 ≤ n) (q : fo α n dd h g a b t) : h = 0 := by
  by_cases e2 : n = 32
  · subst e2; exact q.1
  by_cases e3 : n = 33
  · subst e3; exact q.1
  by_cases e4 : n = 34
  · subst e4; exact q.1
  by_cases e5 : n = 35
  · subst e5; exact q.1
  by_cases e6 : n = 36
  · subst e6; exact q.1
  obtain ⟨k, rfl⟩ : ∃ k, n = k + 37 := ⟨n - 37, by omega⟩
  exact q.elim
/-- below a frame of the levels 0 and 1 no VARIABLE of CONV or NORMAL stands -/
theorem vc1_0 {α : kS} : ∀ (fs : List F5) {z g : Nat}, st α z fs g → lvs 1 fs → vc1 fs = 0
  | [], _, _, _, _ => rfl
  | f :: fs, z, g, h, hl => by
    obtain ⟨n, dd, h1, h2, h3, h4, h5, h6⟩ := h
    obtain ⟨n', a1, a2, a3⟩ := hl
    have h2 := h2.1
    have e : n' = n := (nI_eq (by omega) (by omega)).mp (a1.symm.trans h1)
    subst e
    have hl' : lvs 1 fs := by
      cases fs with
      | nil => trivial
      | cons f' fs =>
        obtain ⟨n2, b1, b2, b3⟩ := h5
        exact ⟨n2, b1, b2, by omega⟩
    have hn : ¬ (f.1 = 7 ∨ f.1 = 12) := by
      rw [h1]
      rintro (q | q)
      · have := (nI_eq (a := n') (b := 7) (by omega) (by omega)).mp q
        subst this
        exact absurd a3 (by decide)
      · have := (nI_eq (a := n') (b := 12) (by omega) (by omega)).mp q
        subst this
        exact absurd a3 (by decide)
    show (if _ then 1 else 0) + vc1 fs = 0
    rcases Nat.lt_or_ge n' 32 with z31 | z32
    · rw [if_neg hn, vc1_0 fs (h6 (by omega)) hl']
    · have := fo_bot z32 h4
      cases fs with
      | nil => rw [if_neg hn]; rfl
      | cons f' fs => exact absurd this (by show fs.length + 1 ≠ 0; omega)
/-- the types of VARIABLES: those of CONV and NORMAL lie above the others -/
def tvp (y : Nat) (α : kS) (fs : List F5) (ty : List Int32) : Prop := (y ≤ 420 ∧ ty.length = y + vc fs) ∧ vc1 fs ≤ ty.length ∧ ∀ i, i < ty.length - vc1 fs → qP α (ty.getD i 0)
theorem tvp.g {y : Nat} {α β : kS} {fs : List F5} {ty : List Int32} (hg : grw α β) (h : tvp y α fs ty) : tvp y β fs ty := ⟨h.1, h.2.1, fun i hi => (h.2.2 i hi).g hg⟩
theorem tvp.same {y : Nat} {α : kS} {fs fs' : List F5} {ty : List Int32} (h : tvp y α fs ty) (h1 : vc fs' = vc fs) (h2 : vc1 fs' = vc1 fs) : tvp y α fs' ty := by
  unfold tvp
  rw [h1, h2]
  exact h
set_option maxRecDepth 100000 in
theorem fo_up {α : kS} : ∀ (n : Nat) {dd h : Nat} {a b t : Int32}, fo α n dd h 1 a b t → fo α n dd h 2 a b t
  | 0, _, _, _, _, _, q => by have e : _ < 302 := q; exact e
  | 1, _, _, _, _, _, q => ⟨q.1, q.2⟩
  | 2, _, _, _, _, _, q => ⟨q.1, q.2.1, q.2.2.1, by decide⟩
  | 3, _, _, _, _, _, q => ⟨q.1, q.2⟩
  | 4, _, _, _, _, _, q => ⟨q.1, q.2.1, q.2.2.1, by decide⟩
  | 5, _, _, _, _, _, q => ⟨q.1, q.2.1, q.2.2.1, by decide⟩
  | 6, _, _, _, _, _, q => ⟨q.1, q.2⟩
  | 7, _, _, _, _, _, q => ⟨q.1, q.2⟩
  | 8, _, _, _, _, _, q => ⟨q.1, q.2⟩
  | 9, _, _, _, _, _, q => ⟨q.1, q.2⟩
  | 10, _, _, _, _, _, q => ⟨q.1, q.2.1, by decide⟩
  | 11, _, _, _, _, _, q => ⟨q.1, q.2.1, q.2.2.1, by decide⟩
  | 12, _, _, _, _, _, q => ⟨q.1, q.2.1, q.2.2.1, by decide⟩
  | 13, _, _, _, _, _, q => ⟨q.1, q.2⟩
  | 14, _, _, _, _, _, q => ⟨q.1, q.2.1, q.2.2.1, by decide⟩
  | 15, _, _, _, _, _, q => ⟨q.1, q.2⟩
  | 16, _, _, _, _, _, q => ⟨q.1, q.2⟩
  | 17, _, _, _, _, _, q => ⟨q.1, q.2⟩
  | 18, _, _, _, _, _, q => ⟨q.1, q.2⟩
  | 19, _, _, _, _, _, q => ⟨q.1, q.2.1, q.2.2.1, by decide⟩
  | 20, _, _, _, _, _, q => ⟨q.1, q.2⟩
  | 21, _, _, _, _, _, q => ⟨q.1, q.2⟩
  | 22, _, _, _, _, _, q => ⟨⟨q.1.1, q.1.2.elim (fun y => absurd y.2 (by decide)) (fun y => Or.inr ⟨by decide, y.2⟩)⟩, q.2⟩
  | 23, _, _, _, _, _, q => ⟨q.1, q.2.1, q.2.2.1, by decide⟩
  | 24, _, _, _, _, _, q => ⟨q.1, q.2⟩
  | 25, _, _, _, _, _, q => ⟨q.1, by decide⟩
  | 26, _, _, _, _, _, q => ⟨q.1, by decide⟩
  | 27, _, _, _, _, _, q => ⟨q.1, q.2.1, by decide⟩
  | 28, _, _, _, _, _, q => ⟨q.1, q.2⟩
  | 29, _, _, _, _, _, q => ⟨q.1, q.2⟩
  | 30, _, _, _, _, _, q => ⟨q.1, q.2⟩
  | 31, _, _, _, _, _, q => ⟨q.1, q.2⟩
  | 32, _, _, _, _, _, q => ⟨q.1, q.2⟩
  | 33, _, _, _, _, _, q => ⟨q.1, q.2⟩
  | 34, _, _, _, _, _, q => ⟨q.1, q.2⟩
  | 35, _, _, _, _, _, q => ⟨q.1, q.2⟩
  | 36, _, _, _, _, _, q => ⟨q.1, q.2⟩
  | n + 37, _, _, _, _, _, q => q.elim
theorem gv_ng {α : kS} {n g g' : Nat} {a : Int32} (h : n ≠ 0) : gv α n g a = gv α n g' a := by
  unfold gv
  split <;> first | rfl | (exfalso; exact h rfl)
/-- a frame above that never answers does for one that gives a TERM -/
theorem st.up {α : kS} : ∀ (fs : List F5) {z : Nat}, st α z fs 1 → st α z fs 2
  | [], _, h => ⟨fun y => ⟨(h.1 y).1, by decide⟩, h.2⟩
  | f :: fs, z, h => by
    obtain ⟨n, dd, h1, h2, h3, h4, h5, h6⟩ := h
    refine ⟨n, dd, h1, h2, h3, fo_up n h4, h5, fun hn => ?_⟩
    by_cases h0 : n = 0
    · subst h0
      exact st.up fs (h6 hn)
    · rw [gv_ng (g' := 1) h0]
      exact h6 hn
theorem one0 : (1 : Nat) ≠ 0 := by decide
