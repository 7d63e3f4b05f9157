-- the kernel's world: what its objects hold, as numbers, rows (lists) with their rooms, and the arrays of TERMS; where the arrays lie is said apart
abbrev kG : Type := (Nat → ClassId) × (Nat → Nat → Nat) × (Nat → Nat) × (ClassId × ClassId) × (Nat → Nat) × (Nat → Nat)
abbrev kD (g : kG) : va_G := (g.1, g.2.1)
abbrev kad (g : kG) (k : Nat) : Nat := g.2.2.1 k
abbrev kcI (g : kG) : ClassId := g.2.2.2.1.1
abbrev kcJ (g : kG) : ClassId := g.2.2.2.1.2
abbrev kst (g : kG) (i : Nat) : Nat := g.2.2.2.2.1 i
abbrev ksv (g : kG) (i : Nat) : Nat := g.2.2.2.2.2 i
abbrev kTy (g : kG) : List (ClassId × FieldType) := [(kcI g, .int), (kcJ g, .long)]
/-- numbers, rows, rooms, infos, the other arrays of TERMS (lefts, rights, links, heads) -/
abbrev kS : Type := (Nat → Int32) × (Nat → List Int32) × (Nat → Nat) × (Nat → Int64) × (Nat → Nat → Int32)
/-- where the arrays lie, what the rows' arrays hold -/
abbrev kZ : Type := (Nat → Nat) × (Nat → Nat → Int32)
abbrev kMost (r : Nat) : Int32 := if r < 2 then 65536 else 16777216
def kBase (r : Nat) : Nat := ([256, 256, 64, 64, 64, 96, 64, 64, 48, 32, 32, 32, 160, 32, 32, 16, 16, 16, 16, 16, 96, 256, 256, 256, 256, 256] : List Nat).getD r 0
def kK (r : Nat) : Nat := ([6, 8, 6, 6, 3, 6, 8, 8, 4, 7, 7, 7, 4, 5, 6, 4, 4, 4, 4, 5, 7, 11, 11, 11, 11, 11] : List Nat).getD r 0
def kMx (r : Nat) : Nat := kBase r * 2 ^ kK r
def sLen : List Nat := [5, 3, 7, 5, 4, 3, 3, 4, 4, 2, 9, 3, 6, 1, 1, 4, 3, 5, 4, 4, 4, 5, 4, 5, 3, 9, 6, 5, 3, 7, 9, 5, 4, 3, 6, 3, 2, 3, 4, 4, 5, 4, 9, 3, 3, 4, 6, 5, 5, 4, 4]
def sByt : List (List Int32) := [[97, 120, 105, 111, 109], [100, 101, 102], [116, 104, 101, 111, 114, 101, 109], [99, 104, 101, 99, 107], [101, 118, 97, 108], [108, 101, 116], [114, 101, 99], [80, 114, 111, 112], [84, 121, 112, 101], [105, 110], [105, 110, 100, 117, 99, 116, 105, 118, 101], [102, 117, 110], [102, 111, 114, 97, 108, 108], [41], [32], [32, 45, 62, 32], [41, 44, 32], [41, 32, 61, 62, 32], [32, 58, 61, 32], [32, 105, 110, 32], [80, 114, 111, 112], [84, 121, 112, 101, 32], [114, 101, 99, 32], [108, 101, 116, 32, 120], [32, 58, 32], [102, 111, 114, 97, 108, 108, 32, 40, 120], [102, 117, 110, 32, 40, 120], [97, 120, 105, 111, 109], [100, 101, 102], [116, 104, 101, 111, 114, 101, 109], [105, 110, 100, 117, 99, 116, 105, 118, 101], [99, 104, 101, 99, 107], [101, 118, 97, 108], [102, 117, 110], [102, 111, 114, 97, 108, 108], [108, 101, 116], [105, 110], [114, 101, 99], [80, 114, 111, 112], [84, 121, 112, 101], [84, 121, 112, 101, 32], [114, 101, 99, 32], [102, 111, 114, 97, 108, 108, 32, 40, 120], [32, 58, 32], [41, 44, 32], [32, 45, 62, 32], [102, 117, 110, 32, 40, 120], [41, 32, 61, 62, 32], [108, 101, 116, 32, 120], [32, 58, 61, 32], [32, 105, 110, 32]]
def sRef : List (String × Nat × String) := [("FamilyKernel$Lexer", 99, "axiom"), ("FamilyKernel$Lexer", 105, "def"), ("FamilyKernel$Lexer", 107, "theorem"), ("FamilyKernel$Lexer", 109, "check"), ("FamilyKernel$Lexer", 111, "eval"), ("FamilyKernel$Lexer", 113, "let"), ("FamilyKernel$Lexer", 115, "rec"), ("FamilyKernel$Lexer", 117, "Prop"), ("FamilyKernel$Lexer", 119, "Type"), ("FamilyKernel$Lexer", 121, "in"), ("FamilyKernel$Lexer", 123, "inductive"), ("FamilyKernel$Lexer", 125, "fun"), ("FamilyKernel$Lexer", 127, "forall"), ("FamilyKernel$Printer", 98, ")"), ("FamilyKernel$Printer", 100, " "), ("FamilyKernel$Printer", 102, " -> "), ("FamilyKernel$Printer", 104, "), "), ("FamilyKernel$Printer", 106, ") => "), ("FamilyKernel$Printer", 108, " := "), ("FamilyKernel$Printer", 110, " in "), ("FamilyKernel$Printer", 87, "Prop"), ("FamilyKernel$Printer", 93, "Type "), ("FamilyKernel$Printer", 118, "rec "), ("FamilyKernel$Printer", 139, "let x"), ("FamilyKernel$Printer", 137, " : "), ("FamilyKernel$Printer", 133, "forall (x"), ("FamilyKernel$Printer", 135, "fun (x"), ("FamilyKernelModel", 297, "axiom"), ("FamilyKernelModel", 299, "def"), ("FamilyKernelModel", 301, "theorem"), ("FamilyKernelModel", 303, "inductive"), ("FamilyKernelModel", 305, "check"), ("FamilyKernelModel", 307, "eval"), ("FamilyKernelModel", 309, "fun"), ("FamilyKernelModel", 311, "forall"), ("FamilyKernelModel", 313, "let"), ("FamilyKernelModel", 315, "in"), ("FamilyKernelModel", 317, "rec"), ("FamilyKernelModel", 319, "Prop"), ("FamilyKernelModel", 321, "Type"), ("FamilyKernelModel", 587, "Type "), ("FamilyKernelModel", 595, "rec "), ("FamilyKernelModel", 604, "forall (x"), ("FamilyKernelModel", 624, " : "), ("FamilyKernelModel", 610, "), "), ("FamilyKernelModel", 612, " -> "), ("FamilyKernelModel", 614, "fun (x"), ("FamilyKernelModel", 616, ") => "), ("FamilyKernelModel", 618, "let x"), ("FamilyKernelModel", 620, " := "), ("FamilyKernelModel", 622, " in ")]
def kW (g : kG) (α : kS) (z : kZ) : va_W := [
  (kad g 0, .inr (11, [.ref (kad g 11), .ref (kad g 12), .ref (kad g 1), .ref (kad g 2), .ref (kad g 3), .ref (kad g 4), .ref (kad g 5), .ref (kad g 6), .ref (kad g 7), .ref (kad g 8), .ref (kad g 9), .ref (kad g 10), .int (α.1 0), .int (α.1 1)])),
  (kad g 1, .inr (1, [.int (α.1 2), .int (α.1 3), .int (α.1 4), .int (α.1 5)])),
  (kad g 2, .inr (2, [.ref (kad g 1), .ref (kad g 13), .ref (kad g 14), .ref (kad g 15), .ref (z.1 21), .ref (z.1 22), .ref (z.1 23), .ref (z.1 24), .ref (z.1 25), .int (α.1 6)])),
  (kad g 3, .inr (3, [.ref (kad g 16), .ref (kad g 17), .int (α.1 7)])),
  (kad g 4, .inr (4, [.ref (kad g 11), .ref (kad g 18), .int (α.1 8), .int (α.1 9), .int (α.1 10), .int (α.1 11), .int (α.1 12)])),
  (kad g 5, .inr (5, [.ref (kad g 11), .ref (kad g 4), .ref (kad g 1), .ref (kad g 2), .ref (kad g 3), .ref (kad g 19), .ref (kad g 20), .ref (kad g 21), .ref (kad g 22), .int (α.1 13), .int (α.1 14), .int (α.1 15), .int (α.1 16), .int (α.1 17), .int (α.1 18), .int (α.1 19), .int (α.1 20), .int (α.1 21), .int (α.1 22), .int (α.1 23)])),
  (kad g 6, .inr (6, [.ref (kad g 23), .ref (kad g 24), .int (α.1 24)])),
  (kad g 7, .inr (7, [.ref (kad g 6), .ref (kad g 1), .ref (kad g 2), .ref (kad g 3), .ref (kad g 25)])),
  (kad g 8, .inr (8, [.ref (kad g 6), .ref (kad g 1), .ref (kad g 2), .ref (kad g 3)])),
  (kad g 9, .inr (9, [.ref (kad g 6), .ref (kad g 1), .ref (kad g 2), .ref (kad g 3), .ref (kad g 5), .ref (kad g 26), .ref (kad g 27), .ref (kad g 28), .ref (kad g 29), .ref (kad g 30), .int (α.1 25), .int (α.1 26), .int (α.1 27), .int (α.1 28), .int (α.1 29), .int (α.1 30), .int (α.1 31), .int (α.1 32)])),
  (kad g 10, .inr (10, [.ref (kad g 12), .ref (kad g 2), .ref (kad g 3), .ref (kad g 31)])),
  (kad g 11, .inr (0, [.int (kMost 0), .ref (z.1 0), .int (nI (α.2.1 0).length)])),
  (kad g 12, .inr (0, [.int (kMost 1), .ref (z.1 1), .int (nI (α.2.1 1).length)])),
  (kad g 13, .inr (0, [.int (kMost 2), .ref (z.1 2), .int (nI (α.2.1 2).length)])),
  (kad g 14, .inr (0, [.int (kMost 3), .ref (z.1 3), .int (nI (α.2.1 3).length)])),
  (kad g 15, .inr (0, [.int (kMost 4), .ref (z.1 4), .int (nI (α.2.1 4).length)])),
  (kad g 16, .inr (0, [.int (kMost 5), .ref (z.1 5), .int (nI (α.2.1 5).length)])),
  (kad g 17, .inr (0, [.int (kMost 6), .ref (z.1 6), .int (nI (α.2.1 6).length)])),
  (kad g 18, .inr (0, [.int (kMost 7), .ref (z.1 7), .int (nI (α.2.1 7).length)])),
  (kad g 19, .inr (0, [.int (kMost 8), .ref (z.1 8), .int (nI (α.2.1 8).length)])),
  (kad g 20, .inr (0, [.int (kMost 9), .ref (z.1 9), .int (nI (α.2.1 9).length)])),
  (kad g 21, .inr (0, [.int (kMost 10), .ref (z.1 10), .int (nI (α.2.1 10).length)])),
  (kad g 22, .inr (0, [.int (kMost 11), .ref (z.1 11), .int (nI (α.2.1 11).length)])),
  (kad g 23, .inr (0, [.int (kMost 12), .ref (z.1 12), .int (nI (α.2.1 12).length)])),
  (kad g 24, .inr (0, [.int (kMost 13), .ref (z.1 13), .int (nI (α.2.1 13).length)])),
  (kad g 25, .inr (0, [.int (kMost 14), .ref (z.1 14), .int (nI (α.2.1 14).length)])),
  (kad g 26, .inr (0, [.int (kMost 15), .ref (z.1 15), .int (nI (α.2.1 15).length)])),
  (kad g 27, .inr (0, [.int (kMost 16), .ref (z.1 16), .int (nI (α.2.1 16).length)])),
  (kad g 28, .inr (0, [.int (kMost 17), .ref (z.1 17), .int (nI (α.2.1 17).length)])),
  (kad g 29, .inr (0, [.int (kMost 18), .ref (z.1 18), .int (nI (α.2.1 18).length)])),
  (kad g 30, .inr (0, [.int (kMost 19), .ref (z.1 19), .int (nI (α.2.1 19).length)])),
  (kad g 31, .inr (0, [.int (kMost 20), .ref (z.1 20), .int (nI (α.2.1 20).length)])),
  (z.1 0, .inl (kcI g, α.2.2.1 0, .inl (z.2 0))),
  (z.1 1, .inl (kcI g, α.2.2.1 1, .inl (z.2 1))),
  (z.1 2, .inl (kcI g, α.2.2.1 2, .inl (z.2 2))),
  (z.1 3, .inl (kcI g, α.2.2.1 3, .inl (z.2 3))),
  (z.1 4, .inl (kcI g, α.2.2.1 4, .inl (z.2 4))),
  (z.1 5, .inl (kcI g, α.2.2.1 5, .inl (z.2 5))),
  (z.1 6, .inl (kcI g, α.2.2.1 6, .inl (z.2 6))),
  (z.1 7, .inl (kcI g, α.2.2.1 7, .inl (z.2 7))),
  (z.1 8, .inl (kcI g, α.2.2.1 8, .inl (z.2 8))),
  (z.1 9, .inl (kcI g, α.2.2.1 9, .inl (z.2 9))),
  (z.1 10, .inl (kcI g, α.2.2.1 10, .inl (z.2 10))),
  (z.1 11, .inl (kcI g, α.2.2.1 11, .inl (z.2 11))),
  (z.1 12, .inl (kcI g, α.2.2.1 12, .inl (z.2 12))),
  (z.1 13, .inl (kcI g, α.2.2.1 13, .inl (z.2 13))),
  (z.1 14, .inl (kcI g, α.2.2.1 14, .inl (z.2 14))),
  (z.1 15, .inl (kcI g, α.2.2.1 15, .inl (z.2 15))),
  (z.1 16, .inl (kcI g, α.2.2.1 16, .inl (z.2 16))),
  (z.1 17, .inl (kcI g, α.2.2.1 17, .inl (z.2 17))),
  (z.1 18, .inl (kcI g, α.2.2.1 18, .inl (z.2 18))),
  (z.1 19, .inl (kcI g, α.2.2.1 19, .inl (z.2 19))),
  (z.1 20, .inl (kcI g, α.2.2.1 20, .inl (z.2 20))),
  (z.1 21, .inl (kcJ g, α.2.2.1 21, .inr (.inl α.2.2.2.1))),
  (z.1 22, .inl (kcI g, α.2.2.1 22, .inl (α.2.2.2.2 0))),
  (z.1 23, .inl (kcI g, α.2.2.1 23, .inl (α.2.2.2.2 1))),
  (z.1 24, .inl (kcI g, α.2.2.1 24, .inl (α.2.2.2.2 2))),
  (z.1 25, .inl (kcI g, α.2.2.1 25, .inl (α.2.2.2.2 3)))]
def ko (g : kG) (α : kS) (z : kZ) (k : Nat) : Nat × va_E := match k with
  | 0 => (kad g 0, .inr (11, [.ref (kad g 11), .ref (kad g 12), .ref (kad g 1), .ref (kad g 2), .ref (kad g 3), .ref (kad g 4), .ref (kad g 5), .ref (kad g 6), .ref (kad g 7), .ref (kad g 8), .ref (kad g 9), .ref (kad g 10), .int (α.1 0), .int (α.1 1)]))
  | 1 => (kad g 1, .inr (1, [.int (α.1 2), .int (α.1 3), .int (α.1 4), .int (α.1 5)]))
  | 2 => (kad g 2, .inr (2, [.ref (kad g 1), .ref (kad g 13), .ref (kad g 14), .ref (kad g 15), .ref (z.1 21), .ref (z.1 22), .ref (z.1 23), .ref (z.1 24), .ref (z.1 25), .int (α.1 6)]))
  | 3 => (kad g 3, .inr (3, [.ref (kad g 16), .ref (kad g 17), .int (α.1 7)]))
  | 4 => (kad g 4, .inr (4, [.ref (kad g 11), .ref (kad g 18), .int (α.1 8), .int (α.1 9), .int (α.1 10), .int (α.1 11), .int (α.1 12)]))
  | 5 => (kad g 5, .inr (5, [.ref (kad g 11), .ref (kad g 4), .ref (kad g 1), .ref (kad g 2), .ref (kad g 3), .ref (kad g 19), .ref (kad g 20), .ref (kad g 21), .ref (kad g 22), .int (α.1 13), .int (α.1 14), .int (α.1 15), .int (α.1 16), .int (α.1 17), .int (α.1 18), .int (α.1 19), .int (α.1 20), .int (α.1 21), .int (α.1 22), .int (α.1 23)]))
  | 6 => (kad g 6, .inr (6, [.ref (kad g 23), .ref (kad g 24), .int (α.1 24)]))
  | 7 => (kad g 7, .inr (7, [.ref (kad g 6), .ref (kad g 1), .ref (kad g 2), .ref (kad g 3), .ref (kad g 25)]))
  | 8 => (kad g 8, .inr (8, [.ref (kad g 6), .ref (kad g 1), .ref (kad g 2), .ref (kad g 3)]))
  | 9 => (kad g 9, .inr (9, [.ref (kad g 6), .ref (kad g 1), .ref (kad g 2), .ref (kad g 3), .ref (kad g 5), .ref (kad g 26), .ref (kad g 27), .ref (kad g 28), .ref (kad g 29), .ref (kad g 30), .int (α.1 25), .int (α.1 26), .int (α.1 27), .int (α.1 28), .int (α.1 29), .int (α.1 30), .int (α.1 31), .int (α.1 32)]))
  | _ => (kad g 10, .inr (10, [.ref (kad g 12), .ref (kad g 2), .ref (kad g 3), .ref (kad g 31)]))
def kro (g : kG) (α : kS) (z : kZ) (r : Nat) : Nat × va_E := (kad g (11 + r), .inr (0, [.int (kMost r), .ref (z.1 r), .int (nI (α.2.1 r).length)]))
def kra (g : kG) (α : kS) (z : kZ) (r : Nat) : Nat × va_E := (z.1 r, .inl (kcI g, α.2.2.1 r, .inl (z.2 r)))
def kta (g : kG) (α : kS) (z : kZ) (k : Nat) : Nat × va_E := match k with
  | 0 => (z.1 21, .inl (kcJ g, α.2.2.1 21, .inr (.inl α.2.2.2.1)))
  | 1 => (z.1 22, .inl (kcI g, α.2.2.1 22, .inl (α.2.2.2.2 0)))
  | 2 => (z.1 23, .inl (kcI g, α.2.2.1 23, .inl (α.2.2.2.2 1)))
  | 3 => (z.1 24, .inl (kcI g, α.2.2.1 24, .inl (α.2.2.2.2 2)))
  | _ => (z.1 25, .inl (kcI g, α.2.2.1 25, .inl (α.2.2.2.2 3)))
def kc (g : kG) (α : kS) (z : kZ) (k : Nat) : Nat × va_E := if k < 11 then ko g α z k else if k < 32 then kro g α z (k - 11) else if k < 53 then kra g α z (k - 32) else kta g α z (k - 53)
theorem kW_get (g : kG) (α : kS) (z : kZ) : ∀ k, k < 58 → (kW g α z)[k]? = some (kc g α z k)
  | 0, _ => rfl
  | 1, _ => rfl
  | 2, _ => rfl
  | 3, _ => rfl
  | 4, _ => rfl
  | 5, _ => rfl
  | 6, _ => rfl
  | 7, _ => rfl
  | 8, _ => rfl
  | 9, _ => rfl
  | 10, _ => rfl
  | 11, _ => rfl
  | 12, _ => rfl
  | 13, _ => rfl
  | 14, _ => rfl
  | 15, _ => rfl
  | 16, _ => rfl
  | 17, _ => rfl
  | 18, _ => rfl
  | 19, _ => rfl
  | 20, _ => rfl
  | 21, _ => rfl
  | 22, _ => rfl
  | 23, _ => rfl
  | 24, _ => rfl
  | 25, _ => rfl
  | 26, _ => rfl
  | 27, _ => rfl
  | 28, _ => rfl
  | 29, _ => rfl
  | 30, _ => rfl
  | 31, _ => rfl
  | 32, _ => rfl
  | 33, _ => rfl
  | 34, _ => rfl
  | 35, _ => rfl
  | 36, _ => rfl
  | 37, _ => rfl
  | 38, _ => rfl
  | 39, _ => rfl
  | 40, _ => rfl
  | 41, _ => rfl
  | 42, _ => rfl
  | 43, _ => rfl
  | 44, _ => rfl
  | 45, _ => rfl
  | 46, _ => rfl
  | 47, _ => rfl
  | 48, _ => rfl
  | 49, _ => rfl
  | 50, _ => rfl
  | 51, _ => rfl
  | 52, _ => rfl
  | 53, _ => rfl
  | 54, _ => rfl
  | 55, _ => rfl
  | 56, _ => rfl
  | 57, _ => rfl
  | k + 58, h => absurd h (by omega)
theorem ko_1 (g : kG) (α : kS) (z : kZ) : ∀ k, k < 11 → (ko g α z k).1 = kad g k
  | 0, _ => rfl
  | 1, _ => rfl
  | 2, _ => rfl
  | 3, _ => rfl
  | 4, _ => rfl
  | 5, _ => rfl
  | 6, _ => rfl
  | 7, _ => rfl
  | 8, _ => rfl
  | 9, _ => rfl
  | 10, _ => rfl
  | k + 11, h => absurd h (by omega)
theorem kta_1 (g : kG) (α : kS) (z : kZ) : ∀ k, k < 5 → (kta g α z k).1 = z.1 (21 + k)
  | 0, _ => rfl
  | 1, _ => rfl
  | 2, _ => rfl
  | 3, _ => rfl
  | 4, _ => rfl
  | k + 5, h => absurd h (by omega)
/-- the address of the k-th cell -/
def ka (g : kG) (z : kZ) (k : Nat) : Nat := if k < 32 then kad g k else z.1 (k - 32)
theorem kc_1 (g : kG) (α : kS) (z : kZ) {k : Nat} (hk : k < 58) : (kc g α z k).1 = ka g z k := by
  unfold kc ka
  by_cases h1 : k < 11
  · rw [if_pos h1, if_pos (by omega)]; exact ko_1 g α z k h1
  · rw [if_neg h1]
    by_cases h2 : k < 32
    · rw [if_pos h2, if_pos h2]; show kad g (11 + (k - 11)) = kad g k; rw [show 11 + (k - 11) = k by omega]
    · rw [if_neg h2, if_neg h2]
      by_cases h3 : k < 53
      · rw [if_pos h3]; rfl
      · rw [if_neg h3, kta_1 g α z _ (by omega), show 21 + (k - 53) = k - 32 by omega]
theorem kP_of {g : kG} {α : kS} {z : kZ} {H : Heap} (h : ∀ k, k < 58 → va_at (kD g) classes (kc g α z k) H) : va_P (kD g) classes (kW g α z) H := fun k q hq => by
  have hk : k < 58 := (List.getElem?_eq_some_iff.mp hq).1
  rw [kW_get g α z k hk] at hq
  cases hq
  exact h k hk
theorem kP_at {g : kG} {α : kS} {z : kZ} {H : Heap} (hP : va_P (kD g) classes (kW g α z) H) {k : Nat} (hk : k < 58) : va_at (kD g) classes (kc g α z k) H := hP k _ (kW_get g α z k hk)
theorem kD_of {g : kG} {A : Nat → Prop} {α : kS} {z : kZ} (h1 : ∀ i j, i < 58 → j < 58 → ka g z i = ka g z j → i = j) (h2 : ∀ k, k < 58 → A (ka g z k)) : va_D A (kW g α z) := by
  refine ⟨fun i j p q hi hj e => ?_, fun k q hq => ?_⟩
  · have hi' : i < 58 := (List.getElem?_eq_some_iff.mp hi).1
    have hj' : j < 58 := (List.getElem?_eq_some_iff.mp hj).1
    rw [kW_get g α z i hi'] at hi
    rw [kW_get g α z j hj'] at hj
    cases hi; cases hj
    rw [kc_1 g α z hi', kc_1 g α z hj'] at e
    exact h1 i j hi' hj' e
  · have hk : k < 58 := (List.getElem?_eq_some_iff.mp hq).1
    rw [kW_get g α z k hk] at hq
    cases hq
    rw [kc_1 g α z hk]
    exact h2 k hk
theorem kD_to {g : kG} {A : Nat → Prop} {α : kS} {z : kZ} (h : va_D A (kW g α z)) : (∀ i j, i < 58 → j < 58 → ka g z i = ka g z j → i = j) ∧ ∀ k, k < 58 → A (ka g z k) := by
  refine ⟨fun i j hi hj e => ?_, fun k hk => ?_⟩
  · exact h.1 i j _ _ (kW_get g α z i hi) (kW_get g α z j hj) (by rw [kc_1 g α z hi, kc_1 g α z hj]; exact e)
  · have := h.2 k _ (kW_get g α z k hk)
    rw [kc_1 g α z hk] at this
    exact this
/-- rows lie within their rooms, rooms are what doubling makes of the first -/
def kOk (α : kS) : Prop := (∀ r, r < 21 → (α.2.1 r).length ≤ α.2.2.1 r) ∧ (∀ r, r < 26 → ∃ k, k ≤ kK r ∧ α.2.2.1 r = kBase r * 2 ^ k) ∧ ¬ α.1 6 < 0 ∧ ∀ r, 21 ≤ r → r < 26 → (α.1 6).toNatClampNeg ≤ α.2.2.1 r
/-- the heap holds the kernel -/
def kHp (g : kG) (A : Nat → Prop) (α : kS) (ad : Nat → Nat) (H : Heap) : Prop := ∃ zf : Nat → Nat → Int32, va_P (kD g) classes (kW g α (ad, zf)) H ∧ va_D A (kW g α (ad, zf)) ∧ ∀ r, r < 21 → ∀ (j : Nat) (v : Int32), (α.2.1 r)[j]? = some v → zf r j = v
/-- what is paid for: twice the rooms -/
def kSum (f : Nat → Nat) : Nat → Nat
  | 0 => 0
  | n + 1 => kSum f n + f n
def kF (α : kS) : Nat := 2 * kSum α.2.2.1 26
def kM : Nat := 2 * kSum kMx 26
theorem kM_is : kM = 5566976 := by decide +kernel
theorem kSum_le {f h : Nat → Nat} : ∀ n, (∀ i, i < n → f i ≤ h i) → kSum f n ≤ kSum h n
  | 0, _ => Nat.le_refl _
  | n + 1, hh => Nat.add_le_add (kSum_le n fun i hi => hh i (by omega)) (hh n (by omega))
theorem kSum_up {f : Nat → Nat} {r v : Nat} : ∀ n, r < n → kSum (va_up f r v) n + f r = kSum f n + v
  | 0, h => absurd h (by omega)
  | n + 1, h => by
    show kSum (va_up f r v) n + va_up f r v n + f r = kSum f n + f n + v
    by_cases hr : r = n
    · subst hr
      have e : kSum (va_up f r v) r = kSum f r := by
        have : ∀ k, k ≤ r → kSum (va_up f r v) k = kSum f k := fun k => by
          induction k with
          | zero => intro _; rfl
          | succ k ih => intro hk; show kSum _ k + va_up f r v k = kSum f k + f k; rw [ih (by omega)]; unfold va_up; rw [if_neg (by omega)]
        exact this r (Nat.le_refl _)
      rw [e]
      have : va_up f r v r = v := if_pos rfl
      rw [this]; omega
    · have := kSum_up (f := f) (r := r) (v := v) n (by omega)
      have e : va_up f r v n = f n := if_neg (fun q => hr q.symm)
      rw [e]; omega
theorem kOk.mx {α : kS} (h : kOk α) {r : Nat} (hr : r < 26) : α.2.2.1 r ≤ kMx r := by
  obtain ⟨k, hk, e⟩ := h.2.1 r hr
  rw [e]
  exact Nat.mul_le_mul_left _ (Nat.pow_le_pow_right (by decide) hk)
theorem kOk.F {α : kS} (h : kOk α) : kF α ≤ kM := by
  have h1 : kSum α.2.2.1 26 ≤ kSum kMx 26 := kSum_le 26 fun i hi => h.mx hi
  unfold kF kM
  omega
/-- where the rows for throwing lie -/
abbrev kISE : String := "java/lang/IllegalStateException"
def kNo (A : Nat → Prop) (U : State) : Prop := ∀ (n d : String), (n = "UNASSIGNED_STACK" ∧ d = "[Ljava/lang/StackTraceElement;") ∨ (n = "SUPPRESSED_SENTINEL" ∧ d = "Ljava/util/List;") → ∀ (cc : ClassId) (k : Class) (i : Nat) (f : Field) (a : Addr), U.fieldFound? "java/lang/Throwable" n d = some (cc, k, i, f) → k.statics = some a → ¬ A a ∧ a < U.heap.size
/-- the texts of the program -/
def kSt (g : kG) (A : Nat → Prop) (U : State) : Prop :=
  (∀ i : Nat, i < 51 → va_O "java/lang/String" (kst g i) A U U.heap ∧ va_OF "java/lang/String" "coder" "B" (.int 0) (kst g i) A U U.heap ∧ va_OF "java/lang/String" "value" "[B" (.ref (ksv g i)) (kst g i) A U U.heap ∧ va_T .byte (ksv g i) (sLen.getD i 0) (fun j => .int ((sByt.getD i []).getD j 0)) A U U.heap) ∧
  (∀ i : Nat, i < 51 → vk_R (sRef.getD i ("", 0, "")).1 (sRef.getD i ("", 0, "")).2.1 (sRef.getD i ("", 0, "")).2.2 (kst g i) U) ∧ va_Z "java/lang/String" "COMPACT_STRINGS" "Z" (.int 1) A U U.heap ∧ va_Zq "jdk/internal/util/Preconditions" "SIOOBE_FORMATTER" "Ljava/util/function/BiFunction;" A U U.heap
/-- what holds of the whole state, whatever the kernel does -/
def kE (g : kG) (A : Nat → Prop) (U : State) : Prop := va_K (kD g) classes (kTy g) U ∧ (∀ q, U.heap.size ≤ q → A q) ∧ vx_X kISE U ∧ kNo A U ∧ kSt g A U
def kB (g : kG) (A : Nat → Prop) (α : kS) (ad : Nat → Nat) (U : State) : Prop := kHp g A α ad U.heap ∧ kOk α ∧ kE g A U
