-- names: classes, fields, methods, the words that every contract carries (vT), their places
abbrev R_Row : String := "FamilyKernel$Row"
def T_Row : u_T := fun k => match k with
  | 0 => ("FamilyKernel$Row", "most", "I", true)
  | 1 => ("FamilyKernel$Row", "cells", "[I", false)
  | _ => ("FamilyKernel$Row", "length", "I", false)
def ty_Row : Nat → FieldType := fun k => match k with
  | 0 => .int
  | 1 => .array .int
  | _ => .int
theorem nm_Row : ∀ a, a < 3 → ∀ b, b < 3 → a ≠ b → (T_Row a).2.1 ≠ (T_Row b).2.1 := by decide +kernel
theorem tyo_Row : ∀ k, k < 3 → parseFieldDescriptor (T_Row k).2.2.1 = some (ty_Row k) := by decide +kernel
theorem df_Row : ∀ j, j < 3 → defaultValue (ty_Row j) = vp_V [.int 0, .null, .int 0] j := by decide +kernel
abbrev R_Meter : String := "FamilyKernel$Meter"
def T_Meter : u_T := fun k => match k with
  | 0 => ("FamilyKernel$Meter", "work", "I", false)
  | 1 => ("FamilyKernel$Meter", "code", "I", false)
  | 2 => ("FamilyKernel$Meter", "place", "I", false)
  | _ => ("FamilyKernel$Meter", "start", "I", false)
def ty_Meter : Nat → FieldType := fun k => match k with
  | 0 => .int
  | 1 => .int
  | 2 => .int
  | _ => .int
theorem nm_Meter : ∀ a, a < 4 → ∀ b, b < 4 → a ≠ b → (T_Meter a).2.1 ≠ (T_Meter b).2.1 := by decide +kernel
theorem tyo_Meter : ∀ k, k < 4 → parseFieldDescriptor (T_Meter k).2.2.1 = some (ty_Meter k) := by decide +kernel
theorem df_Meter : ∀ j, j < 4 → defaultValue (ty_Meter j) = vp_V [.int 0, .int 0, .int 0, .int 0] j := by decide +kernel
abbrev R_Terms : String := "FamilyKernel$Terms"
def T_Terms : u_T := fun k => match k with
  | 0 => ("FamilyKernel$Terms", "meter", "LFamilyKernel$Meter;", true)
  | 1 => ("FamilyKernel$Terms", "todo", "LFamilyKernel$Row;", true)
  | 2 => ("FamilyKernel$Terms", "offsets", "LFamilyKernel$Row;", true)
  | 3 => ("FamilyKernel$Terms", "built", "LFamilyKernel$Row;", true)
  | 4 => ("FamilyKernel$Terms", "infos", "[J", false)
  | 5 => ("FamilyKernel$Terms", "lefts", "[I", false)
  | 6 => ("FamilyKernel$Terms", "rights", "[I", false)
  | 7 => ("FamilyKernel$Terms", "links", "[I", false)
  | 8 => ("FamilyKernel$Terms", "heads", "[I", false)
  | _ => ("FamilyKernel$Terms", "length", "I", false)
def ty_Terms : Nat → FieldType := fun k => match k with
  | 0 => .object "FamilyKernel$Meter"
  | 1 => .object "FamilyKernel$Row"
  | 2 => .object "FamilyKernel$Row"
  | 3 => .object "FamilyKernel$Row"
  | 4 => .array .long
  | 5 => .array .int
  | 6 => .array .int
  | 7 => .array .int
  | 8 => .array .int
  | _ => .int
theorem nm_Terms : ∀ a, a < 10 → ∀ b, b < 10 → a ≠ b → (T_Terms a).2.1 ≠ (T_Terms b).2.1 := by decide +kernel
theorem tyo_Terms : ∀ k, k < 10 → parseFieldDescriptor (T_Terms k).2.2.1 = some (ty_Terms k) := by decide +kernel
theorem df_Terms : ∀ j, j < 10 → defaultValue (ty_Terms j) = vp_V [.null, .null, .null, .null, .null, .null, .null, .null, .null, .int 0] j := by decide +kernel
abbrev R_Env : String := "FamilyKernel$Environment"
def T_Env : u_T := fun k => match k with
  | 0 => ("FamilyKernel$Environment", "facts", "LFamilyKernel$Row;", true)
  | 1 => ("FamilyKernel$Environment", "names", "LFamilyKernel$Row;", true)
  | _ => ("FamilyKernel$Environment", "sizes", "I", false)
def ty_Env : Nat → FieldType := fun k => match k with
  | 0 => .object "FamilyKernel$Row"
  | 1 => .object "FamilyKernel$Row"
  | _ => .int
theorem nm_Env : ∀ a, a < 3 → ∀ b, b < 3 → a ≠ b → (T_Env a).2.1 ≠ (T_Env b).2.1 := by decide +kernel
theorem tyo_Env : ∀ k, k < 3 → parseFieldDescriptor (T_Env k).2.2.1 = some (ty_Env k) := by decide +kernel
theorem df_Env : ∀ j, j < 3 → defaultValue (ty_Env j) = vp_V [.null, .null, .int 0] j := by decide +kernel
abbrev R_Lex : String := "FamilyKernel$Lexer"
def T_Lex : u_T := fun k => match k with
  | 0 => ("FamilyKernel$Lexer", "text", "LFamilyKernel$Row;", true)
  | 1 => ("FamilyKernel$Lexer", "tokens", "LFamilyKernel$Row;", true)
  | 2 => ("FamilyKernel$Lexer", "place", "I", false)
  | 3 => ("FamilyKernel$Lexer", "at", "I", false)
  | 4 => ("FamilyKernel$Lexer", "kind", "I", false)
  | 5 => ("FamilyKernel$Lexer", "start", "I", false)
  | _ => ("FamilyKernel$Lexer", "length", "I", false)
def ty_Lex : Nat → FieldType := fun k => match k with
  | 0 => .object "FamilyKernel$Row"
  | 1 => .object "FamilyKernel$Row"
  | 2 => .int
  | 3 => .int
  | 4 => .int
  | 5 => .int
  | _ => .int
theorem nm_Lex : ∀ a, a < 7 → ∀ b, b < 7 → a ≠ b → (T_Lex a).2.1 ≠ (T_Lex b).2.1 := by decide +kernel
theorem tyo_Lex : ∀ k, k < 7 → parseFieldDescriptor (T_Lex k).2.2.1 = some (ty_Lex k) := by decide +kernel
theorem df_Lex : ∀ j, j < 7 → defaultValue (ty_Lex j) = vp_V [.null, .null, .int 0, .int 0, .int 0, .int 0, .int 0] j := by decide +kernel
abbrev R_Par : String := "FamilyKernel$Parser"
def T_Par : u_T := fun k => match k with
  | 0 => ("FamilyKernel$Parser", "text", "LFamilyKernel$Row;", true)
  | 1 => ("FamilyKernel$Parser", "lexer", "LFamilyKernel$Lexer;", true)
  | 2 => ("FamilyKernel$Parser", "meter", "LFamilyKernel$Meter;", true)
  | 3 => ("FamilyKernel$Parser", "terms", "LFamilyKernel$Terms;", true)
  | 4 => ("FamilyKernel$Parser", "environment", "LFamilyKernel$Environment;", true)
  | 5 => ("FamilyKernel$Parser", "open", "LFamilyKernel$Row;", true)
  | 6 => ("FamilyKernel$Parser", "scope", "LFamilyKernel$Row;", true)
  | 7 => ("FamilyKernel$Parser", "pending", "LFamilyKernel$Row;", true)
  | 8 => ("FamilyKernel$Parser", "binders", "LFamilyKernel$Row;", true)
  | 9 => ("FamilyKernel$Parser", "state", "I", false)
  | 10 => ("FamilyKernel$Parser", "nest", "I", false)
  | 11 => ("FamilyKernel$Parser", "current", "I", false)
  | 12 => ("FamilyKernel$Parser", "copies", "I", false)
  | 13 => ("FamilyKernel$Parser", "textSize", "I", false)
  | 14 => ("FamilyKernel$Parser", "known", "I", false)
  | 15 => ("FamilyKernel$Parser", "constant", "I", false)
  | 16 => ("FamilyKernel$Parser", "task", "I", false)
  | 17 => ("FamilyKernel$Parser", "type", "I", false)
  | 18 => ("FamilyKernel$Parser", "value", "I", false)
  | _ => ("FamilyKernel$Parser", "nodes", "I", false)
def ty_Par : Nat → FieldType := fun k => match k with
  | 0 => .object "FamilyKernel$Row"
  | 1 => .object "FamilyKernel$Lexer"
  | 2 => .object "FamilyKernel$Meter"
  | 3 => .object "FamilyKernel$Terms"
  | 4 => .object "FamilyKernel$Environment"
  | 5 => .object "FamilyKernel$Row"
  | 6 => .object "FamilyKernel$Row"
  | 7 => .object "FamilyKernel$Row"
  | 8 => .object "FamilyKernel$Row"
  | 9 => .int
  | 10 => .int
  | 11 => .int
  | 12 => .int
  | 13 => .int
  | 14 => .int
  | 15 => .int
  | 16 => .int
  | 17 => .int
  | 18 => .int
  | _ => .int
theorem nm_Par : ∀ a, a < 20 → ∀ b, b < 20 → a ≠ b → (T_Par a).2.1 ≠ (T_Par b).2.1 := by decide +kernel
theorem tyo_Par : ∀ k, k < 20 → parseFieldDescriptor (T_Par k).2.2.1 = some (ty_Par k) := by decide +kernel
theorem df_Par : ∀ j, j < 20 → defaultValue (ty_Par j) = vp_V [.null, .null, .null, .null, .null, .null, .null, .null, .null, .int 0, .int 0, .int 0, .int 0, .int 0, .int 0, .int 0, .int 0, .int 0, .int 0, .int 0] j := by decide +kernel
abbrev R_Fra : String := "FamilyKernel$Frames"
def T_Fra : u_T := fun k => match k with
  | 0 => ("FamilyKernel$Frames", "cells", "LFamilyKernel$Row;", true)
  | 1 => ("FamilyKernel$Frames", "types", "LFamilyKernel$Row;", true)
  | _ => ("FamilyKernel$Frames", "result", "I", false)
def ty_Fra : Nat → FieldType := fun k => match k with
  | 0 => .object "FamilyKernel$Row"
  | 1 => .object "FamilyKernel$Row"
  | _ => .int
theorem nm_Fra : ∀ a, a < 3 → ∀ b, b < 3 → a ≠ b → (T_Fra a).2.1 ≠ (T_Fra b).2.1 := by decide +kernel
theorem tyo_Fra : ∀ k, k < 3 → parseFieldDescriptor (T_Fra k).2.2.1 = some (ty_Fra k) := by decide +kernel
theorem df_Fra : ∀ j, j < 3 → defaultValue (ty_Fra j) = vp_V [.null, .null, .int 0] j := by decide +kernel
abbrev R_Red : String := "FamilyKernel$Reducer"
def T_Red : u_T := fun k => match k with
  | 0 => ("FamilyKernel$Reducer", "frames", "LFamilyKernel$Frames;", true)
  | 1 => ("FamilyKernel$Reducer", "meter", "LFamilyKernel$Meter;", true)
  | 2 => ("FamilyKernel$Reducer", "terms", "LFamilyKernel$Terms;", true)
  | 3 => ("FamilyKernel$Reducer", "environment", "LFamilyKernel$Environment;", true)
  | _ => ("FamilyKernel$Reducer", "given", "LFamilyKernel$Row;", true)
def ty_Red : Nat → FieldType := fun k => match k with
  | 0 => .object "FamilyKernel$Frames"
  | 1 => .object "FamilyKernel$Meter"
  | 2 => .object "FamilyKernel$Terms"
  | 3 => .object "FamilyKernel$Environment"
  | _ => .object "FamilyKernel$Row"
theorem nm_Red : ∀ a, a < 5 → ∀ b, b < 5 → a ≠ b → (T_Red a).2.1 ≠ (T_Red b).2.1 := by decide +kernel
theorem tyo_Red : ∀ k, k < 5 → parseFieldDescriptor (T_Red k).2.2.1 = some (ty_Red k) := by decide +kernel
theorem df_Red : ∀ j, j < 5 → defaultValue (ty_Red j) = vp_V [.null, .null, .null, .null, .null] j := by decide +kernel
abbrev R_Typ : String := "FamilyKernel$Typer"
def T_Typ : u_T := fun k => match k with
  | 0 => ("FamilyKernel$Typer", "frames", "LFamilyKernel$Frames;", true)
  | 1 => ("FamilyKernel$Typer", "meter", "LFamilyKernel$Meter;", true)
  | 2 => ("FamilyKernel$Typer", "terms", "LFamilyKernel$Terms;", true)
  | _ => ("FamilyKernel$Typer", "environment", "LFamilyKernel$Environment;", true)
def ty_Typ : Nat → FieldType := fun k => match k with
  | 0 => .object "FamilyKernel$Frames"
  | 1 => .object "FamilyKernel$Meter"
  | 2 => .object "FamilyKernel$Terms"
  | _ => .object "FamilyKernel$Environment"
theorem nm_Typ : ∀ a, a < 4 → ∀ b, b < 4 → a ≠ b → (T_Typ a).2.1 ≠ (T_Typ b).2.1 := by decide +kernel
theorem tyo_Typ : ∀ k, k < 4 → parseFieldDescriptor (T_Typ k).2.2.1 = some (ty_Typ k) := by decide +kernel
theorem df_Typ : ∀ j, j < 4 → defaultValue (ty_Typ j) = vp_V [.null, .null, .null, .null] j := by decide +kernel
abbrev R_Fam : String := "FamilyKernel$Families"
def T_Fam : u_T := fun k => match k with
  | 0 => ("FamilyKernel$Families", "frames", "LFamilyKernel$Frames;", true)
  | 1 => ("FamilyKernel$Families", "meter", "LFamilyKernel$Meter;", true)
  | 2 => ("FamilyKernel$Families", "terms", "LFamilyKernel$Terms;", true)
  | 3 => ("FamilyKernel$Families", "environment", "LFamilyKernel$Environment;", true)
  | 4 => ("FamilyKernel$Families", "parser", "LFamilyKernel$Parser;", true)
  | 5 => ("FamilyKernel$Families", "sorts", "LFamilyKernel$Row;", true)
  | 6 => ("FamilyKernel$Families", "domains", "LFamilyKernel$Row;", true)
  | 7 => ("FamilyKernel$Families", "hypotheses", "LFamilyKernel$Row;", true)
  | 8 => ("FamilyKernel$Families", "within", "LFamilyKernel$Row;", true)
  | 9 => ("FamilyKernel$Families", "minors", "LFamilyKernel$Row;", true)
  | 10 => ("FamilyKernel$Families", "family", "I", false)
  | 11 => ("FamilyKernel$Families", "parameters", "I", false)
  | 12 => ("FamilyKernel$Families", "indices", "I", false)
  | 13 => ("FamilyKernel$Families", "members", "I", false)
  | 14 => ("FamilyKernel$Families", "sort", "I", false)
  | 15 => ("FamilyKernel$Families", "motive", "I", false)
  | 16 => ("FamilyKernel$Families", "at", "I", false)
  | _ => ("FamilyKernel$Families", "rest", "I", false)
def ty_Fam : Nat → FieldType := fun k => match k with
  | 0 => .object "FamilyKernel$Frames"
  | 1 => .object "FamilyKernel$Meter"
  | 2 => .object "FamilyKernel$Terms"
  | 3 => .object "FamilyKernel$Environment"
  | 4 => .object "FamilyKernel$Parser"
  | 5 => .object "FamilyKernel$Row"
  | 6 => .object "FamilyKernel$Row"
  | 7 => .object "FamilyKernel$Row"
  | 8 => .object "FamilyKernel$Row"
  | 9 => .object "FamilyKernel$Row"
  | 10 => .int
  | 11 => .int
  | 12 => .int
  | 13 => .int
  | 14 => .int
  | 15 => .int
  | 16 => .int
  | _ => .int
theorem nm_Fam : ∀ a, a < 18 → ∀ b, b < 18 → a ≠ b → (T_Fam a).2.1 ≠ (T_Fam b).2.1 := by decide +kernel
theorem tyo_Fam : ∀ k, k < 18 → parseFieldDescriptor (T_Fam k).2.2.1 = some (ty_Fam k) := by decide +kernel
theorem df_Fam : ∀ j, j < 18 → defaultValue (ty_Fam j) = vp_V [.null, .null, .null, .null, .null, .null, .null, .null, .null, .null, .int 0, .int 0, .int 0, .int 0, .int 0, .int 0, .int 0, .int 0] j := by decide +kernel
abbrev R_Pri : String := "FamilyKernel$Printer"
def T_Pri : u_T := fun k => match k with
  | 0 => ("FamilyKernel$Printer", "shown", "LFamilyKernel$Row;", true)
  | 1 => ("FamilyKernel$Printer", "terms", "LFamilyKernel$Terms;", true)
  | 2 => ("FamilyKernel$Printer", "environment", "LFamilyKernel$Environment;", true)
  | _ => ("FamilyKernel$Printer", "todo", "LFamilyKernel$Row;", true)
def ty_Pri : Nat → FieldType := fun k => match k with
  | 0 => .object "FamilyKernel$Row"
  | 1 => .object "FamilyKernel$Terms"
  | 2 => .object "FamilyKernel$Environment"
  | _ => .object "FamilyKernel$Row"
theorem nm_Pri : ∀ a, a < 4 → ∀ b, b < 4 → a ≠ b → (T_Pri a).2.1 ≠ (T_Pri b).2.1 := by decide +kernel
theorem tyo_Pri : ∀ k, k < 4 → parseFieldDescriptor (T_Pri k).2.2.1 = some (ty_Pri k) := by decide +kernel
theorem df_Pri : ∀ j, j < 4 → defaultValue (ty_Pri j) = vp_V [.null, .null, .null, .null] j := by decide +kernel
abbrev R_Ker : String := "FamilyKernel"
def T_Ker : u_T := fun k => match k with
  | 0 => ("FamilyKernel", "tape", "LFamilyKernel$Row;", true)
  | 1 => ("FamilyKernel", "shown", "LFamilyKernel$Row;", true)
  | 2 => ("FamilyKernel", "meter", "LFamilyKernel$Meter;", true)
  | 3 => ("FamilyKernel", "terms", "LFamilyKernel$Terms;", true)
  | 4 => ("FamilyKernel", "environment", "LFamilyKernel$Environment;", true)
  | 5 => ("FamilyKernel", "lexer", "LFamilyKernel$Lexer;", true)
  | 6 => ("FamilyKernel", "parser", "LFamilyKernel$Parser;", true)
  | 7 => ("FamilyKernel", "frames", "LFamilyKernel$Frames;", true)
  | 8 => ("FamilyKernel", "reducer", "LFamilyKernel$Reducer;", true)
  | 9 => ("FamilyKernel", "typer", "LFamilyKernel$Typer;", true)
  | 10 => ("FamilyKernel", "families", "LFamilyKernel$Families;", true)
  | 11 => ("FamilyKernel", "printer", "LFamilyKernel$Printer;", true)
  | 12 => ("FamilyKernel", "declared", "I", false)
  | _ => ("FamilyKernel", "latestWork", "I", false)
def ty_Ker : Nat → FieldType := fun k => match k with
  | 0 => .object "FamilyKernel$Row"
  | 1 => .object "FamilyKernel$Row"
  | 2 => .object "FamilyKernel$Meter"
  | 3 => .object "FamilyKernel$Terms"
  | 4 => .object "FamilyKernel$Environment"
  | 5 => .object "FamilyKernel$Lexer"
  | 6 => .object "FamilyKernel$Parser"
  | 7 => .object "FamilyKernel$Frames"
  | 8 => .object "FamilyKernel$Reducer"
  | 9 => .object "FamilyKernel$Typer"
  | 10 => .object "FamilyKernel$Families"
  | 11 => .object "FamilyKernel$Printer"
  | 12 => .int
  | _ => .int
theorem nm_Ker : ∀ a, a < 14 → ∀ b, b < 14 → a ≠ b → (T_Ker a).2.1 ≠ (T_Ker b).2.1 := by decide +kernel
theorem tyo_Ker : ∀ k, k < 14 → parseFieldDescriptor (T_Ker k).2.2.1 = some (ty_Ker k) := by decide +kernel
theorem df_Ker : ∀ j, j < 14 → defaultValue (ty_Ker j) = vp_V [.null, .null, .null, .null, .null, .null, .null, .null, .null, .null, .null, .null, .int 0, .int 0] j := by decide +kernel
abbrev R_Mod : String := "FamilyKernelModel"
def T_Mod : u_T := fun k => match k with
  | 0 => ("FamilyKernelModel", "tape", "[B", true)
  | 1 => ("FamilyKernelModel", "out", "[B", true)
  | 2 => ("FamilyKernelModel", "size", "I", false)
  | 3 => ("FamilyKernelModel", "outSize", "I", false)
  | 4 => ("FamilyKernelModel", "thrown", "I", false)
  | 5 => ("FamilyKernelModel", "faultKind", "I", false)
  | 6 => ("FamilyKernelModel", "faultPlace", "I", false)
  | 7 => ("FamilyKernelModel", "pos", "I", false)
  | 8 => ("FamilyKernelModel", "token", "I", false)
  | 9 => ("FamilyKernelModel", "tokenAt", "I", false)
  | 10 => ("FamilyKernelModel", "tokenEnd", "I", false)
  | 11 => ("FamilyKernelModel", "seen", "Z", false)
  | 12 => ("FamilyKernelModel", "kind", "[B", true)
  | 13 => ("FamilyKernelModel", "one", "[I", true)
  | 14 => ("FamilyKernelModel", "two", "[I", true)
  | 15 => ("FamilyKernelModel", "three", "[I", true)
  | 16 => ("FamilyKernelModel", "big", "[I", true)
  | 17 => ("FamilyKernelModel", "deep", "[I", true)
  | 18 => ("FamilyKernelModel", "top", "I", false)
  | 19 => ("FamilyKernelModel", "spine", "[I", true)
  | 20 => ("FamilyKernelModel", "spineTop", "I", false)
  | 21 => ("FamilyKernelModel", "mapHow", "I", false)
  | 22 => ("FamilyKernelModel", "mapWhat", "I", false)
  | 23 => ("FamilyKernelModel", "mapTo", "I", false)
  | 24 => ("FamilyKernelModel", "words", "[B", true)
  | 25 => ("FamilyKernelModel", "wordAt", "[I", true)
  | 26 => ("FamilyKernelModel", "wordSize", "[I", true)
  | 27 => ("FamilyKernelModel", "wordsUsed", "I", false)
  | 28 => ("FamilyKernelModel", "constants", "I", false)
  | 29 => ("FamilyKernelModel", "sortOf", "[I", true)
  | 30 => ("FamilyKernelModel", "typeOf", "[I", true)
  | 31 => ("FamilyKernelModel", "valueOf", "[I", true)
  | 32 => ("FamilyKernelModel", "parameters", "[I", true)
  | 33 => ("FamilyKernelModel", "indices", "[I", true)
  | 34 => ("FamilyKernelModel", "constructors", "[I", true)
  | 35 => ("FamilyKernelModel", "arguments", "[I", true)
  | 36 => ("FamilyKernelModel", "recursive", "[I", true)
  | 37 => ("FamilyKernelModel", "level", "[I", true)
  | 38 => ("FamilyKernelModel", "recType", "[I", true)
  | 39 => ("FamilyKernelModel", "rule", "[I", true)
  | 40 => ("FamilyKernelModel", "family", "[I", true)
  | 41 => ("FamilyKernelModel", "large", "[Z", true)
  | 42 => ("FamilyKernelModel", "kept", "I", false)
  | 43 => ("FamilyKernelModel", "sizes", "I", false)
  | 44 => ("FamilyKernelModel", "scopeAt", "[I", true)
  | 45 => ("FamilyKernelModel", "scopeSize", "[I", true)
  | 46 => ("FamilyKernelModel", "scopes", "I", false)
  | 47 => ("FamilyKernelModel", "typeStack", "[I", true)
  | 48 => ("FamilyKernelModel", "pendingAt", "[I", true)
  | 49 => ("FamilyKernelModel", "pendingSize", "[I", true)
  | 50 => ("FamilyKernelModel", "heldAt", "[I", true)
  | 51 => ("FamilyKernelModel", "heldSize", "[I", true)
  | 52 => ("FamilyKernelModel", "pendingHeld", "I", false)
  | 53 => ("FamilyKernelModel", "copies", "I", false)
  | 54 => ("FamilyKernelModel", "work", "I", false)
  | 55 => ("FamilyKernelModel", "variables", "I", false)
  | 56 => ("FamilyKernelModel", "typeOfVariable", "[I", true)
  | 57 => ("FamilyKernelModel", "majors", "I", false)
  | 58 => ("FamilyKernelModel", "declarationAt", "I", false)
  | 59 => ("FamilyKernelModel", "accepted", "I", false)
  | 60 => ("FamilyKernelModel", "lastWork", "I", false)
  | 61 => ("FamilyKernelModel", "known", "I", false)
  | 62 => ("FamilyKernelModel", "are", "[I", true)
  | 63 => ("FamilyKernelModel", "texts", "[I", true)
  | 64 => ("FamilyKernelModel", "wholes", "[I", true)
  | 65 => ("FamilyKernelModel", "firstArgument", "[I", true)
  | 66 => ("FamilyKernelModel", "endAt", "[I", true)
  | 67 => ("FamilyKernelModel", "argument", "[I", true)
  | 68 => ("FamilyKernelModel", "isRecursive", "[Z", true)
  | 69 => ("FamilyKernelModel", "isProof", "[Z", true)
  | 70 => ("FamilyKernelModel", "argumentCount", "I", false)
  | 71 => ("FamilyKernelModel", "list", "[I", true)
  | 72 => ("FamilyKernelModel", "listed", "I", false)
  | 73 => ("FamilyKernelModel", "minors", "[I", true)
  | 74 => ("FamilyKernelModel", "openCost", "[I", true)
  | _ => ("FamilyKernelModel", "xs", "I", false)
def ty_Mod : Nat → FieldType := fun k => match k with
  | 0 => .array .byte
  | 1 => .array .byte
  | 2 => .int
  | 3 => .int
  | 4 => .int
  | 5 => .int
  | 6 => .int
  | 7 => .int
  | 8 => .int
  | 9 => .int
  | 10 => .int
  | 11 => .boolean
  | 12 => .array .byte
  | 13 => .array .int
  | 14 => .array .int
  | 15 => .array .int
  | 16 => .array .int
  | 17 => .array .int
  | 18 => .int
  | 19 => .array .int
  | 20 => .int
  | 21 => .int
  | 22 => .int
  | 23 => .int
  | 24 => .array .byte
  | 25 => .array .int
  | 26 => .array .int
  | 27 => .int
  | 28 => .int
  | 29 => .array .int
  | 30 => .array .int
  | 31 => .array .int
  | 32 => .array .int
  | 33 => .array .int
  | 34 => .array .int
  | 35 => .array .int
  | 36 => .array .int
  | 37 => .array .int
  | 38 => .array .int
  | 39 => .array .int
  | 40 => .array .int
  | 41 => .array .boolean
  | 42 => .int
  | 43 => .int
  | 44 => .array .int
  | 45 => .array .int
  | 46 => .int
  | 47 => .array .int
  | 48 => .array .int
  | 49 => .array .int
  | 50 => .array .int
  | 51 => .array .int
  | 52 => .int
  | 53 => .int
  | 54 => .int
  | 55 => .int
  | 56 => .array .int
  | 57 => .int
  | 58 => .int
  | 59 => .int
  | 60 => .int
  | 61 => .int
  | 62 => .array .int
  | 63 => .array .int
  | 64 => .array .int
  | 65 => .array .int
  | 66 => .array .int
  | 67 => .array .int
  | 68 => .array .boolean
  | 69 => .array .boolean
  | 70 => .int
  | 71 => .array .int
  | 72 => .int
  | 73 => .array .int
  | 74 => .array .int
  | _ => .int
theorem nm_Mod : ∀ a, a < 76 → ∀ b, b < 76 → a ≠ b → (T_Mod a).2.1 ≠ (T_Mod b).2.1 := by decide +kernel
theorem tyo_Mod : ∀ k, k < 76 → parseFieldDescriptor (T_Mod k).2.2.1 = some (ty_Mod k) := by decide +kernel
theorem df_Mod : ∀ j, j < 76 → defaultValue (ty_Mod j) = vp_V [.null, .null, .int 0, .int 0, .int 0, .int 0, .int 0, .int 0, .int 0, .int 0, .int 0, .int 0, .null, .null, .null, .null, .null, .null, .int 0, .null, .int 0, .int 0, .int 0, .int 0, .null, .null, .null, .int 0, .int 0, .null, .null, .null, .null, .null, .null, .null, .null, .null, .null, .null, .null, .null, .int 0, .int 0, .null, .null, .int 0, .null, .null, .null, .null, .null, .int 0, .int 0, .int 0, .int 0, .null, .int 0, .int 0, .int 0, .int 0, .int 0, .null, .null, .null, .null, .null, .null, .null, .null, .int 0, .null, .int 0, .null, .null, .int 0] j := by decide +kernel
abbrev R_Law : String := "FamilyKernelLaw"
abbrev classes : List vw_C := [(R_Row, T_Row, 3), (R_Meter, T_Meter, 4), (R_Terms, T_Terms, 10), (R_Env, T_Env, 3), (R_Lex, T_Lex, 7), (R_Par, T_Par, 20), (R_Fra, T_Fra, 3), (R_Red, T_Red, 5), (R_Typ, T_Typ, 4), (R_Fam, T_Fam, 18), (R_Pri, T_Pri, 4), (R_Ker, T_Ker, 14), (R_Mod, T_Mod, 76)]
def vR_0 : List Cond := [.methodLink "FamilyKernel$Row" 1 ⟨"java/lang/Object", "<init>", "()V"⟩,
  .instanceMethod ⟨"java/lang/Object", "<init>", "()V"⟩,
  .code ⟨"java/lang/Object", "<init>", "()V"⟩ object_method_1_code 1 none,
  .arrayClass .int,
  .fieldLink "FamilyKernel$Row" 7 "FamilyKernel$Row" "cells" "[I",
  .fieldLink "FamilyKernel$Row" 13 "FamilyKernel$Row" "most" "I",
  .fieldLink "FamilyKernel$Row" 17 "FamilyKernel$Row" "length" "I",
  .methodLink "FamilyKernel$Meter" 3 ⟨"java/lang/Object", "<init>", "()V"⟩,
  .methodLink "FamilyKernel$Environment" 3 ⟨"java/lang/Object", "<init>", "()V"⟩,
  .classLink "FamilyKernel$Environment" 9 "FamilyKernel$Row",
  .instantiable "FamilyKernel$Row" 3,
  .initialized "FamilyKernel$Row",
  .constant "FamilyKernel$Environment" 11 16777216,
  .code ⟨"FamilyKernel$Row", "<init>", "(II)V"⟩ prog_10_method_1_code 3 none,
  .methodLink "FamilyKernel$Environment" 12 ⟨"FamilyKernel$Row", "<init>", "(II)V"⟩,
  .instanceMethod ⟨"FamilyKernel$Row", "<init>", "(II)V"⟩,
  .fieldLink "FamilyKernel$Environment" 15 "FamilyKernel$Environment" "facts" "LFamilyKernel$Row;",
  .fieldLink "FamilyKernel$Environment" 21 "FamilyKernel$Environment" "names" "LFamilyKernel$Row;",
  .methodLink "FamilyKernel$Lexer" 3 ⟨"java/lang/Object", "<init>", "()V"⟩,
  .fieldLink "FamilyKernel$Lexer" 9 "FamilyKernel$Lexer" "text" "LFamilyKernel$Row;",
  .classLink "FamilyKernel$Lexer" 15 "FamilyKernel$Row",
  .constant "FamilyKernel$Lexer" 17 16777216,
  .methodLink "FamilyKernel$Lexer" 18 ⟨"FamilyKernel$Row", "<init>", "(II)V"⟩,
  .fieldLink "FamilyKernel$Lexer" 21 "FamilyKernel$Lexer" "tokens" "LFamilyKernel$Row;",
  .methodLink "FamilyKernel$Terms" 3 ⟨"java/lang/Object", "<init>", "()V"⟩,
  .fieldLink "FamilyKernel$Terms" 9 "FamilyKernel$Terms" "meter" "LFamilyKernel$Meter;",
  .classLink "FamilyKernel$Terms" 15 "FamilyKernel$Row",
  .constant "FamilyKernel$Terms" 17 16777216,
  .methodLink "FamilyKernel$Terms" 18 ⟨"FamilyKernel$Row", "<init>", "(II)V"⟩,
  .fieldLink "FamilyKernel$Terms" 21 "FamilyKernel$Terms" "todo" "LFamilyKernel$Row;",
  .fieldLink "FamilyKernel$Terms" 25 "FamilyKernel$Terms" "offsets" "LFamilyKernel$Row;",
  .fieldLink "FamilyKernel$Terms" 28 "FamilyKernel$Terms" "built" "LFamilyKernel$Row;",
  .arrayClass .long,
  .fieldLink "FamilyKernel$Terms" 31 "FamilyKernel$Terms" "infos" "[J",
  .fieldLink "FamilyKernel$Terms" 35 "FamilyKernel$Terms" "lefts" "[I",
  .fieldLink "FamilyKernel$Terms" 39 "FamilyKernel$Terms" "rights" "[I",
  .fieldLink "FamilyKernel$Terms" 42 "FamilyKernel$Terms" "links" "[I",
  .fieldLink "FamilyKernel$Terms" 45 "FamilyKernel$Terms" "heads" "[I",
  .methodLink "FamilyKernel$Parser" 3 ⟨"java/lang/Object", "<init>", "()V"⟩,
  .fieldLink "FamilyKernel$Parser" 9 "FamilyKernel$Parser" "text" "LFamilyKernel$Row;"]
def vR_1 : List Cond := [.fieldLink "FamilyKernel$Parser" 15 "FamilyKernel$Parser" "lexer" "LFamilyKernel$Lexer;",
  .fieldLink "FamilyKernel$Parser" 19 "FamilyKernel$Parser" "meter" "LFamilyKernel$Meter;",
  .fieldLink "FamilyKernel$Parser" 23 "FamilyKernel$Parser" "terms" "LFamilyKernel$Terms;",
  .fieldLink "FamilyKernel$Parser" 27 "FamilyKernel$Parser" "environment" "LFamilyKernel$Environment;",
  .classLink "FamilyKernel$Parser" 31 "FamilyKernel$Row",
  .constant "FamilyKernel$Parser" 33 16777216,
  .methodLink "FamilyKernel$Parser" 34 ⟨"FamilyKernel$Row", "<init>", "(II)V"⟩,
  .fieldLink "FamilyKernel$Parser" 37 "FamilyKernel$Parser" "open" "LFamilyKernel$Row;",
  .fieldLink "FamilyKernel$Parser" 40 "FamilyKernel$Parser" "scope" "LFamilyKernel$Row;",
  .fieldLink "FamilyKernel$Parser" 43 "FamilyKernel$Parser" "pending" "LFamilyKernel$Row;",
  .fieldLink "FamilyKernel$Parser" 46 "FamilyKernel$Parser" "binders" "LFamilyKernel$Row;",
  .methodLink "FamilyKernel$Frames" 3 ⟨"java/lang/Object", "<init>", "()V"⟩,
  .classLink "FamilyKernel$Frames" 9 "FamilyKernel$Row",
  .constant "FamilyKernel$Frames" 13 16777216,
  .methodLink "FamilyKernel$Frames" 14 ⟨"FamilyKernel$Row", "<init>", "(II)V"⟩,
  .fieldLink "FamilyKernel$Frames" 17 "FamilyKernel$Frames" "cells" "LFamilyKernel$Row;",
  .fieldLink "FamilyKernel$Frames" 21 "FamilyKernel$Frames" "types" "LFamilyKernel$Row;",
  .methodLink "FamilyKernel$Reducer" 3 ⟨"java/lang/Object", "<init>", "()V"⟩,
  .fieldLink "FamilyKernel$Reducer" 9 "FamilyKernel$Reducer" "frames" "LFamilyKernel$Frames;",
  .fieldLink "FamilyKernel$Reducer" 15 "FamilyKernel$Reducer" "meter" "LFamilyKernel$Meter;",
  .fieldLink "FamilyKernel$Reducer" 19 "FamilyKernel$Reducer" "terms" "LFamilyKernel$Terms;",
  .fieldLink "FamilyKernel$Reducer" 23 "FamilyKernel$Reducer" "environment" "LFamilyKernel$Environment;",
  .classLink "FamilyKernel$Reducer" 27 "FamilyKernel$Row",
  .constant "FamilyKernel$Reducer" 29 16777216,
  .methodLink "FamilyKernel$Reducer" 30 ⟨"FamilyKernel$Row", "<init>", "(II)V"⟩,
  .fieldLink "FamilyKernel$Reducer" 33 "FamilyKernel$Reducer" "given" "LFamilyKernel$Row;",
  .methodLink "FamilyKernel$Typer" 3 ⟨"java/lang/Object", "<init>", "()V"⟩,
  .fieldLink "FamilyKernel$Typer" 9 "FamilyKernel$Typer" "frames" "LFamilyKernel$Frames;",
  .fieldLink "FamilyKernel$Typer" 15 "FamilyKernel$Typer" "meter" "LFamilyKernel$Meter;",
  .fieldLink "FamilyKernel$Typer" 19 "FamilyKernel$Typer" "terms" "LFamilyKernel$Terms;",
  .fieldLink "FamilyKernel$Typer" 23 "FamilyKernel$Typer" "environment" "LFamilyKernel$Environment;",
  .methodLink "FamilyKernel$Families" 3 ⟨"java/lang/Object", "<init>", "()V"⟩,
  .fieldLink "FamilyKernel$Families" 9 "FamilyKernel$Families" "frames" "LFamilyKernel$Frames;",
  .fieldLink "FamilyKernel$Families" 15 "FamilyKernel$Families" "meter" "LFamilyKernel$Meter;",
  .fieldLink "FamilyKernel$Families" 19 "FamilyKernel$Families" "terms" "LFamilyKernel$Terms;",
  .fieldLink "FamilyKernel$Families" 23 "FamilyKernel$Families" "environment" "LFamilyKernel$Environment;",
  .fieldLink "FamilyKernel$Families" 27 "FamilyKernel$Families" "parser" "LFamilyKernel$Parser;",
  .classLink "FamilyKernel$Families" 31 "FamilyKernel$Row",
  .constant "FamilyKernel$Families" 33 16777216,
  .methodLink "FamilyKernel$Families" 34 ⟨"FamilyKernel$Row", "<init>", "(II)V"⟩]
def vR_2 : List Cond := [.fieldLink "FamilyKernel$Families" 37 "FamilyKernel$Families" "sorts" "LFamilyKernel$Row;",
  .fieldLink "FamilyKernel$Families" 41 "FamilyKernel$Families" "domains" "LFamilyKernel$Row;",
  .fieldLink "FamilyKernel$Families" 44 "FamilyKernel$Families" "hypotheses" "LFamilyKernel$Row;",
  .fieldLink "FamilyKernel$Families" 47 "FamilyKernel$Families" "within" "LFamilyKernel$Row;",
  .fieldLink "FamilyKernel$Families" 50 "FamilyKernel$Families" "minors" "LFamilyKernel$Row;",
  .methodLink "FamilyKernel$Printer" 3 ⟨"java/lang/Object", "<init>", "()V"⟩,
  .fieldLink "FamilyKernel$Printer" 9 "FamilyKernel$Printer" "shown" "LFamilyKernel$Row;",
  .fieldLink "FamilyKernel$Printer" 15 "FamilyKernel$Printer" "terms" "LFamilyKernel$Terms;",
  .fieldLink "FamilyKernel$Printer" 19 "FamilyKernel$Printer" "environment" "LFamilyKernel$Environment;",
  .classLink "FamilyKernel$Printer" 23 "FamilyKernel$Row",
  .constant "FamilyKernel$Printer" 25 16777216,
  .methodLink "FamilyKernel$Printer" 26 ⟨"FamilyKernel$Row", "<init>", "(II)V"⟩,
  .fieldLink "FamilyKernel$Printer" 29 "FamilyKernel$Printer" "todo" "LFamilyKernel$Row;",
  .methodLink "FamilyKernel" 1 ⟨"java/lang/Object", "<init>", "()V"⟩,
  .classLink "FamilyKernel" 7 "FamilyKernel$Row",
  .constant "FamilyKernel" 11 65536,
  .methodLink "FamilyKernel" 12 ⟨"FamilyKernel$Row", "<init>", "(II)V"⟩,
  .fieldLink "FamilyKernel" 15 "FamilyKernel" "tape" "LFamilyKernel$Row;",
  .fieldLink "FamilyKernel" 19 "FamilyKernel" "shown" "LFamilyKernel$Row;",
  .classLink "FamilyKernel" 22 "FamilyKernel$Meter",
  .instantiable "FamilyKernel$Meter" 4,
  .initialized "FamilyKernel$Meter",
  .code ⟨"FamilyKernel$Meter", "<init>", "()V"⟩ prog_6_method_1_code 1 none,
  .instanceMethod ⟨"FamilyKernel$Meter", "<init>", "()V"⟩,
  .fieldLink "FamilyKernel" 25 "FamilyKernel" "meter" "LFamilyKernel$Meter;",
  .classLink "FamilyKernel" 29 "FamilyKernel$Terms",
  .instantiable "FamilyKernel$Terms" 10,
  .initialized "FamilyKernel$Terms",
  .code ⟨"FamilyKernel$Terms", "<init>", "(LFamilyKernel$Meter;)V"⟩ prog_11_method_1_code 2 none,
  .methodLink "FamilyKernel" 31 ⟨"FamilyKernel$Terms", "<init>", "(LFamilyKernel$Meter;)V"⟩,
  .instanceMethod ⟨"FamilyKernel$Terms", "<init>", "(LFamilyKernel$Meter;)V"⟩,
  .fieldLink "FamilyKernel" 34 "FamilyKernel" "terms" "LFamilyKernel$Terms;",
  .classLink "FamilyKernel" 38 "FamilyKernel$Environment",
  .instantiable "FamilyKernel$Environment" 3,
  .initialized "FamilyKernel$Environment",
  .code ⟨"FamilyKernel$Environment", "<init>", "()V"⟩ prog_2_method_1_code 1 none,
  .methodLink "FamilyKernel" 40 ⟨"FamilyKernel$Environment", "<init>", "()V"⟩,
  .instanceMethod ⟨"FamilyKernel$Environment", "<init>", "()V"⟩,
  .fieldLink "FamilyKernel" 41 "FamilyKernel" "environment" "LFamilyKernel$Environment;",
  .classLink "FamilyKernel" 45 "FamilyKernel$Lexer"]
def vR_3 : List Cond := [.instantiable "FamilyKernel$Lexer" 7,
  .initialized "FamilyKernel$Lexer",
  .code ⟨"FamilyKernel$Lexer", "<init>", "(LFamilyKernel$Row;)V"⟩ prog_5_method_1_code 2 none,
  .methodLink "FamilyKernel" 47 ⟨"FamilyKernel$Lexer", "<init>", "(LFamilyKernel$Row;)V"⟩,
  .instanceMethod ⟨"FamilyKernel$Lexer", "<init>", "(LFamilyKernel$Row;)V"⟩,
  .fieldLink "FamilyKernel" 50 "FamilyKernel" "lexer" "LFamilyKernel$Lexer;",
  .classLink "FamilyKernel" 54 "FamilyKernel$Parser",
  .instantiable "FamilyKernel$Parser" 20,
  .initialized "FamilyKernel$Parser",
  .code ⟨"FamilyKernel$Parser", "<init>", "(LFamilyKernel$Row;LFamilyKernel$Lexer;LFamilyKernel$Meter;LFamilyKernel$Terms;LFamilyKernel$Environment;)V"⟩ prog_7_method_1_code 6 none,
  .methodLink "FamilyKernel" 56 ⟨"FamilyKernel$Parser", "<init>", "(LFamilyKernel$Row;LFamilyKernel$Lexer;LFamilyKernel$Meter;LFamilyKernel$Terms;LFamilyKernel$Environment;)V"⟩,
  .instanceMethod ⟨"FamilyKernel$Parser", "<init>", "(LFamilyKernel$Row;LFamilyKernel$Lexer;LFamilyKernel$Meter;LFamilyKernel$Terms;LFamilyKernel$Environment;)V"⟩,
  .fieldLink "FamilyKernel" 59 "FamilyKernel" "parser" "LFamilyKernel$Parser;",
  .classLink "FamilyKernel" 63 "FamilyKernel$Frames",
  .instantiable "FamilyKernel$Frames" 3,
  .initialized "FamilyKernel$Frames",
  .code ⟨"FamilyKernel$Frames", "<init>", "()V"⟩ prog_4_method_1_code 1 none,
  .methodLink "FamilyKernel" 65 ⟨"FamilyKernel$Frames", "<init>", "()V"⟩,
  .instanceMethod ⟨"FamilyKernel$Frames", "<init>", "()V"⟩,
  .fieldLink "FamilyKernel" 66 "FamilyKernel" "frames" "LFamilyKernel$Frames;",
  .classLink "FamilyKernel" 70 "FamilyKernel$Reducer",
  .instantiable "FamilyKernel$Reducer" 5,
  .initialized "FamilyKernel$Reducer",
  .code ⟨"FamilyKernel$Reducer", "<init>", "(LFamilyKernel$Frames;LFamilyKernel$Meter;LFamilyKernel$Terms;LFamilyKernel$Environment;)V"⟩ prog_9_method_1_code 5 none,
  .methodLink "FamilyKernel" 72 ⟨"FamilyKernel$Reducer", "<init>", "(LFamilyKernel$Frames;LFamilyKernel$Meter;LFamilyKernel$Terms;LFamilyKernel$Environment;)V"⟩,
  .instanceMethod ⟨"FamilyKernel$Reducer", "<init>", "(LFamilyKernel$Frames;LFamilyKernel$Meter;LFamilyKernel$Terms;LFamilyKernel$Environment;)V"⟩,
  .fieldLink "FamilyKernel" 75 "FamilyKernel" "reducer" "LFamilyKernel$Reducer;",
  .classLink "FamilyKernel" 79 "FamilyKernel$Typer",
  .instantiable "FamilyKernel$Typer" 4,
  .initialized "FamilyKernel$Typer",
  .code ⟨"FamilyKernel$Typer", "<init>", "(LFamilyKernel$Frames;LFamilyKernel$Meter;LFamilyKernel$Terms;LFamilyKernel$Environment;)V"⟩ prog_12_method_1_code 5 none,
  .methodLink "FamilyKernel" 81 ⟨"FamilyKernel$Typer", "<init>", "(LFamilyKernel$Frames;LFamilyKernel$Meter;LFamilyKernel$Terms;LFamilyKernel$Environment;)V"⟩,
  .instanceMethod ⟨"FamilyKernel$Typer", "<init>", "(LFamilyKernel$Frames;LFamilyKernel$Meter;LFamilyKernel$Terms;LFamilyKernel$Environment;)V"⟩,
  .fieldLink "FamilyKernel" 82 "FamilyKernel" "typer" "LFamilyKernel$Typer;",
  .classLink "FamilyKernel" 86 "FamilyKernel$Families",
  .instantiable "FamilyKernel$Families" 18,
  .initialized "FamilyKernel$Families",
  .code ⟨"FamilyKernel$Families", "<init>", "(LFamilyKernel$Frames;LFamilyKernel$Meter;LFamilyKernel$Terms;LFamilyKernel$Environment;LFamilyKernel$Parser;)V"⟩ prog_3_method_1_code 6 none,
  .methodLink "FamilyKernel" 88 ⟨"FamilyKernel$Families", "<init>", "(LFamilyKernel$Frames;LFamilyKernel$Meter;LFamilyKernel$Terms;LFamilyKernel$Environment;LFamilyKernel$Parser;)V"⟩,
  .instanceMethod ⟨"FamilyKernel$Families", "<init>", "(LFamilyKernel$Frames;LFamilyKernel$Meter;LFamilyKernel$Terms;LFamilyKernel$Environment;LFamilyKernel$Parser;)V"⟩]
def vR_4 : List Cond := [.fieldLink "FamilyKernel" 91 "FamilyKernel" "families" "LFamilyKernel$Families;",
  .classLink "FamilyKernel" 95 "FamilyKernel$Printer",
  .instantiable "FamilyKernel$Printer" 4,
  .initialized "FamilyKernel$Printer",
  .code ⟨"FamilyKernel$Printer", "<init>", "(LFamilyKernel$Row;LFamilyKernel$Terms;LFamilyKernel$Environment;)V"⟩ prog_8_method_1_code 4 none,
  .methodLink "FamilyKernel" 97 ⟨"FamilyKernel$Printer", "<init>", "(LFamilyKernel$Row;LFamilyKernel$Terms;LFamilyKernel$Environment;)V"⟩,
  .instanceMethod ⟨"FamilyKernel$Printer", "<init>", "(LFamilyKernel$Row;LFamilyKernel$Terms;LFamilyKernel$Environment;)V"⟩,
  .fieldLink "FamilyKernel" 100 "FamilyKernel" "printer" "LFamilyKernel$Printer;",
  .methodLink "FamilyKernelModel" 7 ⟨"java/lang/Object", "<init>", "()V"⟩,
  .constant "FamilyKernelModel" 12 65536,
  .arrayClass .byte,
  .fieldLink "FamilyKernelModel" 13 "FamilyKernelModel" "tape" "[B",
  .fieldLink "FamilyKernelModel" 19 "FamilyKernelModel" "out" "[B",
  .fieldLink "FamilyKernelModel" 22 "FamilyKernelModel" "size" "I",
  .fieldLink "FamilyKernelModel" 26 "FamilyKernelModel" "outSize" "I",
  .fieldLink "FamilyKernelModel" 29 "FamilyKernelModel" "thrown" "I",
  .fieldLink "FamilyKernelModel" 32 "FamilyKernelModel" "faultKind" "I",
  .fieldLink "FamilyKernelModel" 35 "FamilyKernelModel" "faultPlace" "I",
  .fieldLink "FamilyKernelModel" 38 "FamilyKernelModel" "pos" "I",
  .fieldLink "FamilyKernelModel" 41 "FamilyKernelModel" "token" "I",
  .fieldLink "FamilyKernelModel" 44 "FamilyKernelModel" "tokenAt" "I",
  .fieldLink "FamilyKernelModel" 47 "FamilyKernelModel" "tokenEnd" "I",
  .fieldLink "FamilyKernelModel" 50 "FamilyKernelModel" "seen" "Z",
  .constant "FamilyKernelModel" 54 400000,
  .fieldLink "FamilyKernelModel" 55 "FamilyKernelModel" "kind" "[B",
  .fieldLink "FamilyKernelModel" 58 "FamilyKernelModel" "one" "[I",
  .fieldLink "FamilyKernelModel" 62 "FamilyKernelModel" "two" "[I",
  .fieldLink "FamilyKernelModel" 65 "FamilyKernelModel" "three" "[I",
  .fieldLink "FamilyKernelModel" 68 "FamilyKernelModel" "big" "[I",
  .fieldLink "FamilyKernelModel" 71 "FamilyKernelModel" "deep" "[I",
  .fieldLink "FamilyKernelModel" 74 "FamilyKernelModel" "top" "I",
  .fieldLink "FamilyKernelModel" 77 "FamilyKernelModel" "spine" "[I",
  .fieldLink "FamilyKernelModel" 80 "FamilyKernelModel" "spineTop" "I",
  .fieldLink "FamilyKernelModel" 83 "FamilyKernelModel" "mapHow" "I",
  .fieldLink "FamilyKernelModel" 86 "FamilyKernelModel" "mapWhat" "I",
  .fieldLink "FamilyKernelModel" 89 "FamilyKernelModel" "mapTo" "I",
  .fieldLink "FamilyKernelModel" 92 "FamilyKernelModel" "words" "[B",
  .fieldLink "FamilyKernelModel" 95 "FamilyKernelModel" "wordAt" "[I",
  .fieldLink "FamilyKernelModel" 98 "FamilyKernelModel" "wordSize" "[I",
  .fieldLink "FamilyKernelModel" 101 "FamilyKernelModel" "wordsUsed" "I"]
def vR_5 : List Cond := [.fieldLink "FamilyKernelModel" 104 "FamilyKernelModel" "constants" "I",
  .fieldLink "FamilyKernelModel" 107 "FamilyKernelModel" "sortOf" "[I",
  .fieldLink "FamilyKernelModel" 110 "FamilyKernelModel" "typeOf" "[I",
  .fieldLink "FamilyKernelModel" 113 "FamilyKernelModel" "valueOf" "[I",
  .fieldLink "FamilyKernelModel" 116 "FamilyKernelModel" "parameters" "[I",
  .fieldLink "FamilyKernelModel" 119 "FamilyKernelModel" "indices" "[I",
  .fieldLink "FamilyKernelModel" 122 "FamilyKernelModel" "constructors" "[I",
  .fieldLink "FamilyKernelModel" 125 "FamilyKernelModel" "arguments" "[I",
  .fieldLink "FamilyKernelModel" 128 "FamilyKernelModel" "recursive" "[I",
  .fieldLink "FamilyKernelModel" 131 "FamilyKernelModel" "level" "[I",
  .fieldLink "FamilyKernelModel" 134 "FamilyKernelModel" "recType" "[I",
  .fieldLink "FamilyKernelModel" 137 "FamilyKernelModel" "rule" "[I",
  .fieldLink "FamilyKernelModel" 140 "FamilyKernelModel" "family" "[I",
  .arrayClass .boolean,
  .fieldLink "FamilyKernelModel" 143 "FamilyKernelModel" "large" "[Z",
  .fieldLink "FamilyKernelModel" 147 "FamilyKernelModel" "kept" "I",
  .fieldLink "FamilyKernelModel" 150 "FamilyKernelModel" "sizes" "I",
  .fieldLink "FamilyKernelModel" 153 "FamilyKernelModel" "scopeAt" "[I",
  .fieldLink "FamilyKernelModel" 156 "FamilyKernelModel" "scopeSize" "[I",
  .fieldLink "FamilyKernelModel" 159 "FamilyKernelModel" "scopes" "I",
  .fieldLink "FamilyKernelModel" 162 "FamilyKernelModel" "typeStack" "[I",
  .fieldLink "FamilyKernelModel" 165 "FamilyKernelModel" "pendingAt" "[I",
  .fieldLink "FamilyKernelModel" 168 "FamilyKernelModel" "pendingSize" "[I",
  .fieldLink "FamilyKernelModel" 171 "FamilyKernelModel" "heldAt" "[I",
  .fieldLink "FamilyKernelModel" 174 "FamilyKernelModel" "heldSize" "[I",
  .fieldLink "FamilyKernelModel" 177 "FamilyKernelModel" "pendingHeld" "I",
  .fieldLink "FamilyKernelModel" 180 "FamilyKernelModel" "copies" "I",
  .fieldLink "FamilyKernelModel" 183 "FamilyKernelModel" "work" "I",
  .fieldLink "FamilyKernelModel" 186 "FamilyKernelModel" "variables" "I",
  .constant "FamilyKernelModel" 189 66000,
  .fieldLink "FamilyKernelModel" 190 "FamilyKernelModel" "typeOfVariable" "[I",
  .fieldLink "FamilyKernelModel" 193 "FamilyKernelModel" "majors" "I",
  .fieldLink "FamilyKernelModel" 196 "FamilyKernelModel" "declarationAt" "I",
  .fieldLink "FamilyKernelModel" 199 "FamilyKernelModel" "accepted" "I",
  .fieldLink "FamilyKernelModel" 202 "FamilyKernelModel" "lastWork" "I",
  .fieldLink "FamilyKernelModel" 205 "FamilyKernelModel" "known" "I",
  .fieldLink "FamilyKernelModel" 208 "FamilyKernelModel" "are" "[I",
  .fieldLink "FamilyKernelModel" 211 "FamilyKernelModel" "texts" "[I",
  .fieldLink "FamilyKernelModel" 214 "FamilyKernelModel" "wholes" "[I",
  .fieldLink "FamilyKernelModel" 217 "FamilyKernelModel" "firstArgument" "[I"]
def vR_6 : List Cond := [.fieldLink "FamilyKernelModel" 220 "FamilyKernelModel" "endAt" "[I",
  .fieldLink "FamilyKernelModel" 223 "FamilyKernelModel" "argument" "[I",
  .fieldLink "FamilyKernelModel" 226 "FamilyKernelModel" "isRecursive" "[Z",
  .fieldLink "FamilyKernelModel" 229 "FamilyKernelModel" "isProof" "[Z",
  .fieldLink "FamilyKernelModel" 232 "FamilyKernelModel" "argumentCount" "I",
  .fieldLink "FamilyKernelModel" 235 "FamilyKernelModel" "list" "[I",
  .fieldLink "FamilyKernelModel" 238 "FamilyKernelModel" "listed" "I",
  .fieldLink "FamilyKernelModel" 241 "FamilyKernelModel" "minors" "[I",
  .fieldLink "FamilyKernelModel" 244 "FamilyKernelModel" "openCost" "[I",
  .fieldLink "FamilyKernelModel" 247 "FamilyKernelModel" "xs" "I",
  .fieldLink "FamilyKernel$Meter" 9 "FamilyKernel$Meter" "code" "I",
  .fieldLink "FamilyKernel$Meter" 15 "FamilyKernel$Meter" "place" "I",
  .methodLink "FamilyKernel$Environment" 24 ⟨"FamilyKernel$Row", "size", "()I"⟩,
  .instanceMethod ⟨"FamilyKernel$Row", "size", "()I"⟩,
  .selects "FamilyKernel$Row" ⟨"FamilyKernel$Row", "size", "()I"⟩ ⟨"FamilyKernel$Row", "size", "()I"⟩,
  .code ⟨"FamilyKernel$Row", "size", "()I"⟩ prog_10_method_2_code 1 (some .int),
  .fieldLink "FamilyKernel$Environment" 28 "FamilyKernel$Environment" "sizes" "I",
  .methodLink "FamilyKernel$Environment" 43 ⟨"FamilyKernel$Environment", "length", "()I"⟩,
  .instanceMethod ⟨"FamilyKernel$Environment", "length", "()I"⟩,
  .selects "FamilyKernel$Environment" ⟨"FamilyKernel$Environment", "length", "()I"⟩ ⟨"FamilyKernel$Environment", "length", "()I"⟩,
  .code ⟨"FamilyKernel$Environment", "length", "()I"⟩ prog_2_method_2_code 1 (some .int),
  .methodLink "FamilyKernel$Environment" 32 ⟨"FamilyKernel$Environment", "cut", "(I)V"⟩,
  .instanceMethod ⟨"FamilyKernel$Environment", "cut", "(I)V"⟩,
  .selects "FamilyKernel$Environment" ⟨"FamilyKernel$Environment", "cut", "(I)V"⟩ ⟨"FamilyKernel$Environment", "cut", "(I)V"⟩,
  .code ⟨"FamilyKernel$Environment", "cut", "(I)V"⟩ prog_2_method_9_code 2 none,
  .fieldLink "FamilyKernel$Terms" 48 "FamilyKernel$Terms" "length" "I",
  .fieldLink "FamilyKernel$Lexer" 32 "FamilyKernel$Lexer" "kind" "I",
  .fieldLink "FamilyKernel$Lexer" 28 "FamilyKernel$Lexer" "place" "I",
  .methodLink "FamilyKernel$Lexer" 73 ⟨"FamilyKernel$Row", "size", "()I"⟩,
  .methodLink "FamilyKernel$Lexer" 70 ⟨"FamilyKernel$Lexer", "skip", "()V"⟩,
  .instanceMethod ⟨"FamilyKernel$Lexer", "skip", "()V"⟩,
  .selects "FamilyKernel$Lexer" ⟨"FamilyKernel$Lexer", "skip", "()V"⟩ ⟨"FamilyKernel$Lexer", "skip", "()V"⟩,
  .code ⟨"FamilyKernel$Lexer", "skip", "()V"⟩ prog_5_method_15_code 3 none,
  .fieldLink "FamilyKernel$Lexer" 39 "FamilyKernel$Lexer" "start" "I",
  .fieldLink "FamilyKernel$Lexer" 42 "FamilyKernel$Lexer" "length" "I",
  .methodLink "FamilyKernel$Lexer" 58 ⟨"FamilyKernel$Row", "at", "(I)I"⟩,
  .instanceMethod ⟨"FamilyKernel$Row", "at", "(I)I"⟩,
  .selects "FamilyKernel$Row" ⟨"FamilyKernel$Row", "at", "(I)I"⟩ ⟨"FamilyKernel$Row", "at", "(I)I"⟩,
  .code ⟨"FamilyKernel$Row", "at", "(I)I"⟩ prog_10_method_3_code 2 (some .int),
  .fieldLink "FamilyKernel$Lexer" 52 "FamilyKernel$Lexer" "at" "I"]
def vR_7 : List Cond := [.methodLink "FamilyKernel$Lexer" 24 ⟨"FamilyKernel$Row", "cut", "(I)V"⟩,
  .instanceMethod ⟨"FamilyKernel$Row", "cut", "(I)V"⟩,
  .selects "FamilyKernel$Row" ⟨"FamilyKernel$Row", "cut", "(I)V"⟩ ⟨"FamilyKernel$Row", "cut", "(I)V"⟩,
  .code ⟨"FamilyKernel$Row", "cut", "(I)V"⟩ prog_10_method_7_code 2 none,
  .constant "FamilyKernel$Lexer" 35 65536,
  .methodLink "FamilyKernel$Lexer" 36 ⟨"FamilyKernel$Lexer", "scan", "()V"⟩,
  .instanceMethod ⟨"FamilyKernel$Lexer", "scan", "()V"⟩,
  .selects "FamilyKernel$Lexer" ⟨"FamilyKernel$Lexer", "scan", "()V"⟩ ⟨"FamilyKernel$Lexer", "scan", "()V"⟩,
  .code ⟨"FamilyKernel$Lexer", "scan", "()V"⟩ prog_5_method_14_code 2 none,
  .methodLink "FamilyKernel$Lexer" 45 ⟨"FamilyKernel$Lexer", "named", "(II)I"⟩,
  .static ⟨"FamilyKernel$Lexer", "named", "(II)I"⟩,
  .code ⟨"FamilyKernel$Lexer", "named", "(II)I"⟩ prog_5_method_7_code 2 (some .int),
  .methodLink "FamilyKernel$Lexer" 49 ⟨"FamilyKernel$Row", "push", "(I)V"⟩,
  .instanceMethod ⟨"FamilyKernel$Row", "push", "(I)V"⟩,
  .selects "FamilyKernel$Row" ⟨"FamilyKernel$Row", "push", "(I)V"⟩ ⟨"FamilyKernel$Row", "push", "(I)V"⟩,
  .code ⟨"FamilyKernel$Row", "push", "(I)V"⟩ prog_10_method_5_code 2 none,
  .methodLink "FamilyKernel$Lexer" 55 ⟨"FamilyKernel$Lexer", "advance", "()V"⟩,
  .instanceMethod ⟨"FamilyKernel$Lexer", "advance", "()V"⟩,
  .selects "FamilyKernel$Lexer" ⟨"FamilyKernel$Lexer", "advance", "()V"⟩ ⟨"FamilyKernel$Lexer", "advance", "()V"⟩,
  .code ⟨"FamilyKernel$Lexer", "advance", "()V"⟩ prog_5_method_3_code 2 none,
  .methodLink "FamilyKernel" 124 ⟨"FamilyKernel$Meter", "forget", "()V"⟩,
  .instanceMethod ⟨"FamilyKernel$Meter", "forget", "()V"⟩,
  .selects "FamilyKernel$Meter" ⟨"FamilyKernel$Meter", "forget", "()V"⟩ ⟨"FamilyKernel$Meter", "forget", "()V"⟩,
  .code ⟨"FamilyKernel$Meter", "forget", "()V"⟩ prog_6_method_2_code 1 none,
  .methodLink "FamilyKernel" 127 ⟨"FamilyKernel$Lexer", "begin", "()V"⟩,
  .instanceMethod ⟨"FamilyKernel$Lexer", "begin", "()V"⟩,
  .selects "FamilyKernel$Lexer" ⟨"FamilyKernel$Lexer", "begin", "()V"⟩ ⟨"FamilyKernel$Lexer", "begin", "()V"⟩,
  .code ⟨"FamilyKernel$Lexer", "begin", "()V"⟩ prog_5_method_2_code 2 none,
  .methodLink "FamilyKernel" 130 ⟨"FamilyKernel$Lexer", "kind", "()I"⟩,
  .instanceMethod ⟨"FamilyKernel$Lexer", "kind", "()I"⟩,
  .selects "FamilyKernel$Lexer" ⟨"FamilyKernel$Lexer", "kind", "()I"⟩ ⟨"FamilyKernel$Lexer", "kind", "()I"⟩,
  .code ⟨"FamilyKernel$Lexer", "kind", "()I"⟩ prog_5_method_4_code 1 (some .int),
  .methodLink "FamilyKernel" 121 ⟨"FamilyKernel$Row", "cut", "(I)V"⟩,
  .methodLink "FamilyKernel" 115 ⟨"FamilyKernel$Row", "push", "(I)V"⟩,
  .methodLink "FamilyKernel" 104 ⟨"FamilyKernel$Row", "size", "()I"⟩,
  .methodLink "FamilyKernel" 111 ⟨"FamilyKernel", "takeBytes", "(I)V"⟩,
  .instanceMethod ⟨"FamilyKernel", "takeBytes", "(I)V"⟩,
  .selects "FamilyKernel" ⟨"FamilyKernel", "takeBytes", "(I)V"⟩ ⟨"FamilyKernel", "takeBytes", "(I)V"⟩,
  .initialized "FamilyKernel",
  .code ⟨"FamilyKernel", "takeBytes", "(I)V"⟩ prog_1_method_3_code 3 none]
def vR_8 : List Cond := [.methodLink "FamilyKernel" 327 ⟨"FamilyKernel$Meter", "code", "()I"⟩,
  .instanceMethod ⟨"FamilyKernel$Meter", "code", "()I"⟩,
  .selects "FamilyKernel$Meter" ⟨"FamilyKernel$Meter", "code", "()I"⟩ ⟨"FamilyKernel$Meter", "code", "()I"⟩,
  .code ⟨"FamilyKernel$Meter", "code", "()I"⟩ prog_6_method_5_code 1 (some .int),
  .methodLink "FamilyKernel" 330 ⟨"FamilyKernel$Meter", "place", "()I"⟩,
  .instanceMethod ⟨"FamilyKernel$Meter", "place", "()I"⟩,
  .selects "FamilyKernel$Meter" ⟨"FamilyKernel$Meter", "place", "()I"⟩ ⟨"FamilyKernel$Meter", "place", "()I"⟩,
  .code ⟨"FamilyKernel$Meter", "place", "()I"⟩ prog_6_method_6_code 1 (some .int),
  .methodLink "FamilyKernel" 133 ⟨"FamilyKernel$Environment", "length", "()I"⟩,
  .fieldLink "FamilyKernel" 161 "FamilyKernel" "declared" "I",
  .fieldLink "FamilyKernel" 167 "FamilyKernel" "latestWork" "I",
  .methodLink "FamilyKernel" 315 ⟨"FamilyKernel$Environment", "sizes", "()I"⟩,
  .instanceMethod ⟨"FamilyKernel$Environment", "sizes", "()I"⟩,
  .selects "FamilyKernel$Environment" ⟨"FamilyKernel$Environment", "sizes", "()I"⟩ ⟨"FamilyKernel$Environment", "sizes", "()I"⟩,
  .code ⟨"FamilyKernel$Environment", "sizes", "()I"⟩ prog_2_method_3_code 1 (some .int),
  .methodLink "FamilyKernel" 333 ⟨"FamilyKernel$Environment", "clear", "()V"⟩,
  .instanceMethod ⟨"FamilyKernel$Environment", "clear", "()V"⟩,
  .selects "FamilyKernel$Environment" ⟨"FamilyKernel$Environment", "clear", "()V"⟩ ⟨"FamilyKernel$Environment", "clear", "()V"⟩,
  .code ⟨"FamilyKernel$Environment", "clear", "()V"⟩ prog_2_method_5_code 1 none,
  .methodLink "FamilyKernel" 158 ⟨"FamilyKernel$Terms", "release", "(I)V"⟩,
  .instanceMethod ⟨"FamilyKernel$Terms", "release", "(I)V"⟩,
  .selects "FamilyKernel$Terms" ⟨"FamilyKernel$Terms", "release", "(I)V"⟩ ⟨"FamilyKernel$Terms", "release", "(I)V"⟩,
  .code ⟨"FamilyKernel$Terms", "release", "(I)V"⟩ prog_11_method_17_code 3 none,
  .classLink "FamilyKernel" 118 "java/lang/IllegalArgumentException",
  .initialized "java/lang/IllegalArgumentException",
  .classLink "FamilyKernel" 336 "java/util/NoSuchElementException",
  .initialized "java/util/NoSuchElementException",
  .classLink "FamilyKernel" 350 "java/lang/IndexOutOfBoundsException",
  .initialized "java/lang/IndexOutOfBoundsException",
  .methodLink "FamilyKernelModel" 251 ⟨"FamilyKernelModel", "refuse", "(IZ)Z"⟩,
  .instanceMethod ⟨"FamilyKernelModel", "refuse", "(IZ)Z"⟩,
  .selects "FamilyKernelModel" ⟨"FamilyKernelModel", "refuse", "(IZ)Z"⟩ ⟨"FamilyKernelModel", "refuse", "(IZ)Z"⟩,
  .initialized "FamilyKernelModel",
  .code ⟨"FamilyKernelModel", "refuse", "(IZ)Z"⟩ prog_14_method_4_code 3 (some .boolean),
  .methodLink "FamilyKernelModel" 577 ⟨"FamilyKernelModel", "none", "(I)Z"⟩,
  .instanceMethod ⟨"FamilyKernelModel", "none", "(I)Z"⟩,
  .selects "FamilyKernelModel" ⟨"FamilyKernelModel", "none", "(I)Z"⟩ ⟨"FamilyKernelModel", "none", "(I)Z"⟩,
  .code ⟨"FamilyKernelModel", "none", "(I)Z"⟩ prog_14_method_93_code 2 (some .boolean),
  .methodLink "FamilyKernelModel" 255 ⟨"FamilyKernelModel", "parts", "()V"⟩,
  .instanceMethod ⟨"FamilyKernelModel", "parts", "()V"⟩]
def vR_9 : List Cond := [.selects "FamilyKernelModel" ⟨"FamilyKernelModel", "parts", "()V"⟩ ⟨"FamilyKernelModel", "parts", "()V"⟩,
  .code ⟨"FamilyKernelModel", "parts", "()V"⟩ prog_14_method_10_code 2 none,
  .methodLink "FamilyKernelModel" 273 ⟨"FamilyKernelModel", "peek", "()I"⟩,
  .instanceMethod ⟨"FamilyKernelModel", "peek", "()I"⟩,
  .selects "FamilyKernelModel" ⟨"FamilyKernelModel", "peek", "()I"⟩ ⟨"FamilyKernelModel", "peek", "()I"⟩,
  .code ⟨"FamilyKernelModel", "peek", "()I"⟩ prog_14_method_11_code 2 (some .int),
  .constant "FamilyKernelModel" 250 65516,
  .methodLink "FamilyKernelLaw" 15 ⟨"FamilyKernel", "end", "(I)I"⟩,
  .instanceMethod ⟨"FamilyKernel", "end", "(I)I"⟩,
  .selects "FamilyKernel" ⟨"FamilyKernel", "end", "(I)I"⟩ ⟨"FamilyKernel", "end", "(I)I"⟩,
  .code ⟨"FamilyKernel", "end", "(I)I"⟩ prog_1_method_4_code 2 (some .int),
  .classLink "FamilyKernelLaw" 19 "java/lang/IllegalArgumentException",
  .methodLink "FamilyKernelLaw" 21 ⟨"FamilyKernel", "constant", "(II)I"⟩,
  .instanceMethod ⟨"FamilyKernel", "constant", "(II)I"⟩,
  .selects "FamilyKernel" ⟨"FamilyKernel", "constant", "(II)I"⟩ ⟨"FamilyKernel", "constant", "(II)I"⟩,
  .code ⟨"FamilyKernel", "constant", "(II)I"⟩ prog_1_method_11_code 4 (some .int),
  .classLink "FamilyKernelLaw" 25 "java/util/NoSuchElementException",
  .methodLink "FamilyKernelLaw" 27 ⟨"FamilyKernel", "show", "(II)I"⟩,
  .instanceMethod ⟨"FamilyKernel", "show", "(II)I"⟩,
  .selects "FamilyKernel" ⟨"FamilyKernel", "show", "(II)I"⟩ ⟨"FamilyKernel", "show", "(II)I"⟩,
  .code ⟨"FamilyKernel", "show", "(II)I"⟩ prog_1_method_12_code 3 (some .int),
  .methodLink "FamilyKernelLaw" 30 ⟨"FamilyKernel", "showRec", "(II)I"⟩,
  .instanceMethod ⟨"FamilyKernel", "showRec", "(II)I"⟩,
  .selects "FamilyKernel" ⟨"FamilyKernel", "showRec", "(II)I"⟩ ⟨"FamilyKernel", "showRec", "(II)I"⟩,
  .code ⟨"FamilyKernel", "showRec", "(II)I"⟩ prog_1_method_13_code 4 (some .int),
  .methodLink "FamilyKernelLaw" 33 ⟨"FamilyKernel", "out", "(I)I"⟩,
  .instanceMethod ⟨"FamilyKernel", "out", "(I)I"⟩,
  .selects "FamilyKernel" ⟨"FamilyKernel", "out", "(I)I"⟩ ⟨"FamilyKernel", "out", "(I)I"⟩,
  .code ⟨"FamilyKernel", "out", "(I)I"⟩ prog_1_method_14_code 2 (some .int),
  .classLink "FamilyKernelLaw" 36 "java/lang/IndexOutOfBoundsException",
  .methodLink "FamilyKernelLaw" 7 ⟨"FamilyKernel", "feed", "(IIIII)I"⟩,
  .instanceMethod ⟨"FamilyKernel", "feed", "(IIIII)I"⟩,
  .selects "FamilyKernel" ⟨"FamilyKernel", "feed", "(IIIII)I"⟩ ⟨"FamilyKernel", "feed", "(IIIII)I"⟩,
  .code ⟨"FamilyKernel", "feed", "(IIIII)I"⟩ prog_1_method_2_code 6 (some .int),
  .methodLink "FamilyKernelLaw" 42 ⟨"FamilyKernelLaw", "feed", "(LFamilyKernel;IIIII[J)I"⟩,
  .static ⟨"FamilyKernelLaw", "feed", "(LFamilyKernel;IIIII[J)I"⟩,
  .initialized "FamilyKernelLaw",
  .codeWith ⟨"FamilyKernelLaw", "feed", "(LFamilyKernel;IIIII[J)I"⟩ method_3_code 8 (some .int) [(0, 16, 19, 13)],
  .methodLink "FamilyKernelLaw" 47 ⟨"FamilyKernelModel", "feed", "(IIIII)I"⟩,
  .instanceMethod ⟨"FamilyKernelModel", "feed", "(IIIII)I"⟩]
def vR_10 : List Cond := [.selects "FamilyKernelModel" ⟨"FamilyKernelModel", "feed", "(IIIII)I"⟩ ⟨"FamilyKernelModel", "feed", "(IIIII)I"⟩,
  .code ⟨"FamilyKernelModel", "feed", "(IIIII)I"⟩ prog_14_method_5_code 8 (some .int),
  .methodLink "FamilyKernelLaw" 48 ⟨"FamilyKernelModel", "thrown", "()I"⟩,
  .instanceMethod ⟨"FamilyKernelModel", "thrown", "()I"⟩,
  .selects "FamilyKernelModel" ⟨"FamilyKernelModel", "thrown", "()I"⟩ ⟨"FamilyKernelModel", "thrown", "()I"⟩,
  .code ⟨"FamilyKernelModel", "thrown", "()I"⟩ prog_14_method_3_code 1 (some .int),
  .methodLink "FamilyKernelLaw" 52 ⟨"FamilyKernelLaw", "end", "(LFamilyKernel;I[J)I"⟩,
  .static ⟨"FamilyKernelLaw", "end", "(LFamilyKernel;I[J)I"⟩,
  .codeWith ⟨"FamilyKernelLaw", "end", "(LFamilyKernel;I[J)I"⟩ method_4_code 4 (some .int) [(0, 9, 12, 19)],
  .methodLink "FamilyKernelLaw" 55 ⟨"FamilyKernelModel", "end", "(I)I"⟩,
  .instanceMethod ⟨"FamilyKernelModel", "end", "(I)I"⟩,
  .selects "FamilyKernelModel" ⟨"FamilyKernelModel", "end", "(I)I"⟩ ⟨"FamilyKernelModel", "end", "(I)I"⟩,
  .code ⟨"FamilyKernelModel", "end", "(I)I"⟩ prog_14_method_6_code 2 (some .int),
  .methodLink "FamilyKernelLaw" 68 ⟨"FamilyKernelLaw", "constant", "(LFamilyKernel;II[J)I"⟩,
  .static ⟨"FamilyKernelLaw", "constant", "(LFamilyKernel;II[J)I"⟩,
  .codeWith ⟨"FamilyKernelLaw", "constant", "(LFamilyKernel;II[J)I"⟩ method_5_code 5 (some .int) [(0, 10, 13, 25), (0, 10, 17, 19)],
  .methodLink "FamilyKernelLaw" 71 ⟨"FamilyKernelModel", "constant", "(II)I"⟩,
  .instanceMethod ⟨"FamilyKernelModel", "constant", "(II)I"⟩,
  .selects "FamilyKernelModel" ⟨"FamilyKernelModel", "constant", "(II)I"⟩ ⟨"FamilyKernelModel", "constant", "(II)I"⟩,
  .code ⟨"FamilyKernelModel", "constant", "(II)I"⟩ prog_14_method_94_code 4 (some .int),
  .methodLink "FamilyKernelLaw" 72 ⟨"FamilyKernelLaw", "show", "(LFamilyKernel;II[J)I"⟩,
  .static ⟨"FamilyKernelLaw", "show", "(LFamilyKernel;II[J)I"⟩,
  .codeWith ⟨"FamilyKernelLaw", "show", "(LFamilyKernel;II[J)I"⟩ method_6_code 5 (some .int) [(0, 10, 13, 25), (0, 10, 17, 19)],
  .methodLink "FamilyKernelLaw" 74 ⟨"FamilyKernelModel", "show", "(II)I"⟩,
  .instanceMethod ⟨"FamilyKernelModel", "show", "(II)I"⟩,
  .selects "FamilyKernelModel" ⟨"FamilyKernelModel", "show", "(II)I"⟩ ⟨"FamilyKernelModel", "show", "(II)I"⟩,
  .code ⟨"FamilyKernelModel", "show", "(II)I"⟩ prog_14_method_104_code 3 (some .int),
  .methodLink "FamilyKernelLaw" 75 ⟨"FamilyKernelLaw", "showRec", "(LFamilyKernel;II[J)I"⟩,
  .static ⟨"FamilyKernelLaw", "showRec", "(LFamilyKernel;II[J)I"⟩,
  .codeWith ⟨"FamilyKernelLaw", "showRec", "(LFamilyKernel;II[J)I"⟩ method_7_code 5 (some .int) [(0, 10, 13, 25)],
  .methodLink "FamilyKernelLaw" 77 ⟨"FamilyKernelModel", "showRec", "(II)I"⟩,
  .instanceMethod ⟨"FamilyKernelModel", "showRec", "(II)I"⟩,
  .selects "FamilyKernelModel" ⟨"FamilyKernelModel", "showRec", "(II)I"⟩ ⟨"FamilyKernelModel", "showRec", "(II)I"⟩,
  .code ⟨"FamilyKernelModel", "showRec", "(II)I"⟩ prog_14_method_105_code 4 (some .int),
  .methodLink "FamilyKernelLaw" 78 ⟨"FamilyKernelLaw", "out", "(LFamilyKernel;I[J)I"⟩,
  .static ⟨"FamilyKernelLaw", "out", "(LFamilyKernel;I[J)I"⟩,
  .codeWith ⟨"FamilyKernelLaw", "out", "(LFamilyKernel;I[J)I"⟩ method_8_code 4 (some .int) [(0, 9, 12, 36)],
  .methodLink "FamilyKernelLaw" 80 ⟨"FamilyKernelModel", "out", "(I)I"⟩,
  .instanceMethod ⟨"FamilyKernelModel", "out", "(I)I"⟩,
  .selects "FamilyKernelModel" ⟨"FamilyKernelModel", "out", "(I)I"⟩ ⟨"FamilyKernelModel", "out", "(I)I"⟩]
def vR_11 : List Cond := [.code ⟨"FamilyKernelModel", "out", "(I)I"⟩ prog_14_method_106_code 2 (some .int),
  .methodLink "FamilyKernelLaw" 56 ⟨"FamilyKernel", "read", "()I"⟩,
  .instanceMethod ⟨"FamilyKernel", "read", "()I"⟩,
  .selects "FamilyKernel" ⟨"FamilyKernel", "read", "()I"⟩ ⟨"FamilyKernel", "read", "()I"⟩,
  .codeWith ⟨"FamilyKernel", "read", "()I"⟩ prog_1_method_5_code 6 (some .int) [(65, 104, 107, 108)],
  .methodLink "FamilyKernelLaw" 59 ⟨"FamilyKernelModel", "read", "()I"⟩,
  .instanceMethod ⟨"FamilyKernelModel", "read", "()I"⟩,
  .selects "FamilyKernelModel" ⟨"FamilyKernelModel", "read", "()I"⟩ ⟨"FamilyKernelModel", "read", "()I"⟩,
  .codeWith ⟨"FamilyKernelModel", "read", "()I"⟩ prog_14_method_69_code 7 (some .int) [(49, 114, 117, 1)],
  .methodLink "FamilyKernelLaw" 60 ⟨"FamilyKernel", "fault", "(I)I"⟩,
  .instanceMethod ⟨"FamilyKernel", "fault", "(I)I"⟩,
  .selects "FamilyKernel" ⟨"FamilyKernel", "fault", "(I)I"⟩ ⟨"FamilyKernel", "fault", "(I)I"⟩,
  .code ⟨"FamilyKernel", "fault", "(I)I"⟩ prog_1_method_9_code 2 (some .int),
  .methodLink "FamilyKernelLaw" 63 ⟨"FamilyKernelModel", "fault", "(I)I"⟩,
  .instanceMethod ⟨"FamilyKernelModel", "fault", "(I)I"⟩,
  .selects "FamilyKernelModel" ⟨"FamilyKernelModel", "fault", "(I)I"⟩ ⟨"FamilyKernelModel", "fault", "(I)I"⟩,
  .code ⟨"FamilyKernelModel", "fault", "(I)I"⟩ prog_14_method_91_code 2 (some .int),
  .methodLink "FamilyKernelLaw" 81 ⟨"FamilyKernel", "count", "(I)I"⟩,
  .instanceMethod ⟨"FamilyKernel", "count", "(I)I"⟩,
  .selects "FamilyKernel" ⟨"FamilyKernel", "count", "(I)I"⟩ ⟨"FamilyKernel", "count", "(I)I"⟩,
  .code ⟨"FamilyKernel", "count", "(I)I"⟩ prog_1_method_15_code 2 (some .int),
  .methodLink "FamilyKernelLaw" 84 ⟨"FamilyKernelModel", "count", "(I)I"⟩,
  .instanceMethod ⟨"FamilyKernelModel", "count", "(I)I"⟩,
  .selects "FamilyKernelModel" ⟨"FamilyKernelModel", "count", "(I)I"⟩ ⟨"FamilyKernelModel", "count", "(I)I"⟩,
  .code ⟨"FamilyKernelModel", "count", "(I)I"⟩ prog_14_method_107_code 2 (some .int),
  .methodLink "FamilyKernelLaw" 64 ⟨"FamilyKernel", "reset", "()I"⟩,
  .instanceMethod ⟨"FamilyKernel", "reset", "()I"⟩,
  .selects "FamilyKernel" ⟨"FamilyKernel", "reset", "()I"⟩ ⟨"FamilyKernel", "reset", "()I"⟩,
  .code ⟨"FamilyKernel", "reset", "()I"⟩ prog_1_method_10_code 2 (some .int),
  .methodLink "FamilyKernelLaw" 67 ⟨"FamilyKernelModel", "reset", "()I"⟩,
  .instanceMethod ⟨"FamilyKernelModel", "reset", "()I"⟩,
  .selects "FamilyKernelModel" ⟨"FamilyKernelModel", "reset", "()I"⟩ ⟨"FamilyKernelModel", "reset", "()I"⟩,
  .code ⟨"FamilyKernelModel", "reset", "()I"⟩ prog_14_method_92_code 2 (some .int),
  .instantiable "FamilyKernel" 14,
  .instantiable "FamilyKernelModel" 76,
  .classLink "FamilyKernelLaw" 8 "FamilyKernel",
  .code ⟨"FamilyKernel", "<init>", "()V"⟩ prog_1_method_1_code 1 none,
  .methodLink "FamilyKernelLaw" 38 ⟨"FamilyKernel", "<init>", "()V"⟩,
  .instanceMethod ⟨"FamilyKernel", "<init>", "()V"⟩,
  .classLink "FamilyKernelLaw" 39 "FamilyKernelModel"]
def vR_12 : List Cond := [.code ⟨"FamilyKernelModel", "<init>", "()V"⟩ prog_14_method_2_code 1 none,
  .methodLink "FamilyKernelLaw" 41 ⟨"FamilyKernelModel", "<init>", "()V"⟩,
  .instanceMethod ⟨"FamilyKernelModel", "<init>", "()V"⟩,
  .initialized "java/lang/Throwable",
  .initialized "java/lang/Exception",
  .initialized "java/lang/RuntimeException",
  .lays "java/lang/Throwable" "java/lang/Throwable" "cause" "Ljava/lang/Throwable;",
  .lays "java/lang/Throwable" "java/lang/Throwable" "stackTrace" "[Ljava/lang/StackTraceElement;",
  .lays "java/lang/Throwable" "java/lang/Throwable" "suppressedExceptions" "Ljava/util/List;",
  .lays "java/lang/Throwable" "java/lang/Throwable" "detailMessage" "Ljava/lang/String;",
  .lays "java/lang/Throwable" "java/lang/Throwable" "backtrace" "Ljava/lang/Object;",
  .fieldLink "java/lang/Throwable" 198 "java/lang/Throwable" "backtrace" "Ljava/lang/Object;",
  .superclass "java/lang/Throwable" "java/lang/Object",
  .instanceMethod ⟨"java/lang/Throwable", "<init>", "()V"⟩,
  .code ⟨"java/lang/Throwable", "<init>", "()V"⟩ prog_27_method_1_code 1 none,
  .methodLink "java/lang/Throwable" 1 ⟨"java/lang/Object", "<init>", "()V"⟩,
  .fieldLink "java/lang/Throwable" 13 "java/lang/Throwable" "UNASSIGNED_STACK" "[Ljava/lang/StackTraceElement;",
  .fieldLink "java/lang/Throwable" 20 "java/lang/Throwable" "SUPPRESSED_SENTINEL" "Ljava/util/List;",
  .methodLink "java/lang/Throwable" 27 ⟨"java/lang/Throwable", "fillInStackTrace", "()Ljava/lang/Throwable;"⟩,
  .instanceMethod ⟨"java/lang/Throwable", "fillInStackTrace", "()Ljava/lang/Throwable;"⟩,
  .sameMethod "java/lang/Throwable" "java/lang/Throwable" "fillInStackTrace" "()Ljava/lang/Throwable;",
  .selects "java/lang/IllegalArgumentException" ⟨"java/lang/Throwable", "fillInStackTrace", "()Ljava/lang/Throwable;"⟩ ⟨"java/lang/Throwable", "fillInStackTrace", "()Ljava/lang/Throwable;"⟩,
  .selects "java/lang/IndexOutOfBoundsException" ⟨"java/lang/Throwable", "fillInStackTrace", "()Ljava/lang/Throwable;"⟩ ⟨"java/lang/Throwable", "fillInStackTrace", "()Ljava/lang/Throwable;"⟩,
  .selects "java/util/NoSuchElementException" ⟨"java/lang/Throwable", "fillInStackTrace", "()Ljava/lang/Throwable;"⟩ ⟨"java/lang/Throwable", "fillInStackTrace", "()Ljava/lang/Throwable;"⟩,
  .codeSync ⟨"java/lang/Throwable", "fillInStackTrace", "()Ljava/lang/Throwable;"⟩ prog_27_method_18_code 1 (some (.object "java/lang/Throwable")),
  .methodLink "java/lang/Throwable" 202 ⟨"java/lang/Throwable", "fillInStackTrace", "(I)Ljava/lang/Throwable;"⟩,
  .instanceMethod ⟨"java/lang/Throwable", "fillInStackTrace", "(I)Ljava/lang/Throwable;"⟩,
  .instantiable "java/lang/Throwable" 6,
  .native ⟨"java/lang/Throwable", "fillInStackTrace", "(I)Ljava/lang/Throwable;"⟩,
  .instanceMethod ⟨"java/lang/RuntimeException", "<init>", "()V"⟩,
  .code ⟨"java/lang/RuntimeException", "<init>", "()V"⟩ prog_22_method_1_code 1 none,
  .methodLink "java/lang/RuntimeException" 1 ⟨"java/lang/Exception", "<init>", "()V"⟩,
  .instanceMethod ⟨"java/lang/Exception", "<init>", "()V"⟩,
  .code ⟨"java/lang/Exception", "<init>", "()V"⟩ prog_17_method_1_code 1 none,
  .methodLink "java/lang/Exception" 1 ⟨"java/lang/Throwable", "<init>", "()V"⟩,
  .fieldLink "java/lang/Throwable" 31 "java/lang/Throwable" "detailMessage" "Ljava/lang/String;",
  .fieldLink "java/lang/Throwable" 7 "java/lang/Throwable" "cause" "Ljava/lang/Throwable;",
  .fieldLink "java/lang/Throwable" 17 "java/lang/Throwable" "stackTrace" "[Ljava/lang/StackTraceElement;",
  .fieldLink "java/lang/Throwable" 24 "java/lang/Throwable" "suppressedExceptions" "Ljava/util/List;",
  .soleField "java/lang/Throwable" "backtrace"]
def vR_13 : List Cond := [.soleField "java/lang/Throwable" "detailMessage",
  .soleField "java/lang/Throwable" "cause",
  .soleField "java/lang/Throwable" "stackTrace",
  .soleField "java/lang/Throwable" "depth",
  .soleField "java/lang/Throwable" "suppressedExceptions",
  .instantiable "java/lang/IllegalArgumentException" 6,
  .selects "java/lang/IllegalArgumentException" ⟨"java/lang/Throwable", "fillInStackTrace", "(I)Ljava/lang/Throwable;"⟩ ⟨"java/lang/Throwable", "fillInStackTrace", "(I)Ljava/lang/Throwable;"⟩,
  .lays "java/lang/IllegalArgumentException" "java/lang/Throwable" "cause" "Ljava/lang/Throwable;",
  .lays "java/lang/IllegalArgumentException" "java/lang/Throwable" "stackTrace" "[Ljava/lang/StackTraceElement;",
  .lays "java/lang/IllegalArgumentException" "java/lang/Throwable" "suppressedExceptions" "Ljava/util/List;",
  .lays "java/lang/IllegalArgumentException" "java/lang/Throwable" "detailMessage" "Ljava/lang/String;",
  .lays "java/lang/IllegalArgumentException" "java/lang/Throwable" "backtrace" "Ljava/lang/Object;",
  .methodLink "FamilyKernel" 120 ⟨"java/lang/IllegalArgumentException", "<init>", "()V"⟩,
  .instanceMethod ⟨"java/lang/IllegalArgumentException", "<init>", "()V"⟩,
  .code ⟨"java/lang/IllegalArgumentException", "<init>", "()V"⟩ prog_18_method_1_code 1 none,
  .methodLink "java/lang/IllegalArgumentException" 1 ⟨"java/lang/RuntimeException", "<init>", "()V"⟩,
  .lays "java/lang/IllegalArgumentException" "java/lang/Throwable" "depth" "I",
  .superclass "java/lang/IllegalArgumentException" "java/lang/RuntimeException",
  .instantiable "java/util/NoSuchElementException" 6,
  .selects "java/util/NoSuchElementException" ⟨"java/lang/Throwable", "fillInStackTrace", "(I)Ljava/lang/Throwable;"⟩ ⟨"java/lang/Throwable", "fillInStackTrace", "(I)Ljava/lang/Throwable;"⟩,
  .lays "java/util/NoSuchElementException" "java/lang/Throwable" "cause" "Ljava/lang/Throwable;",
  .lays "java/util/NoSuchElementException" "java/lang/Throwable" "stackTrace" "[Ljava/lang/StackTraceElement;",
  .lays "java/util/NoSuchElementException" "java/lang/Throwable" "suppressedExceptions" "Ljava/util/List;",
  .lays "java/util/NoSuchElementException" "java/lang/Throwable" "detailMessage" "Ljava/lang/String;",
  .lays "java/util/NoSuchElementException" "java/lang/Throwable" "backtrace" "Ljava/lang/Object;",
  .methodLink "FamilyKernel" 338 ⟨"java/util/NoSuchElementException", "<init>", "()V"⟩,
  .instanceMethod ⟨"java/util/NoSuchElementException", "<init>", "()V"⟩,
  .code ⟨"java/util/NoSuchElementException", "<init>", "()V"⟩ prog_29_method_1_code 1 none,
  .methodLink "java/util/NoSuchElementException" 1 ⟨"java/lang/RuntimeException", "<init>", "()V"⟩,
  .lays "java/util/NoSuchElementException" "java/lang/Throwable" "depth" "I",
  .superclass "java/util/NoSuchElementException" "java/lang/RuntimeException",
  .instantiable "java/lang/IndexOutOfBoundsException" 6,
  .selects "java/lang/IndexOutOfBoundsException" ⟨"java/lang/Throwable", "fillInStackTrace", "(I)Ljava/lang/Throwable;"⟩ ⟨"java/lang/Throwable", "fillInStackTrace", "(I)Ljava/lang/Throwable;"⟩,
  .lays "java/lang/IndexOutOfBoundsException" "java/lang/Throwable" "cause" "Ljava/lang/Throwable;",
  .lays "java/lang/IndexOutOfBoundsException" "java/lang/Throwable" "stackTrace" "[Ljava/lang/StackTraceElement;",
  .lays "java/lang/IndexOutOfBoundsException" "java/lang/Throwable" "suppressedExceptions" "Ljava/util/List;",
  .lays "java/lang/IndexOutOfBoundsException" "java/lang/Throwable" "detailMessage" "Ljava/lang/String;",
  .lays "java/lang/IndexOutOfBoundsException" "java/lang/Throwable" "backtrace" "Ljava/lang/Object;",
  .methodLink "FamilyKernel" 352 ⟨"java/lang/IndexOutOfBoundsException", "<init>", "()V"⟩,
  .instanceMethod ⟨"java/lang/IndexOutOfBoundsException", "<init>", "()V"⟩]
def vR_14 : List Cond := [.code ⟨"java/lang/IndexOutOfBoundsException", "<init>", "()V"⟩ prog_20_method_1_code 1 none,
  .methodLink "java/lang/IndexOutOfBoundsException" 1 ⟨"java/lang/RuntimeException", "<init>", "()V"⟩,
  .lays "java/lang/IndexOutOfBoundsException" "java/lang/Throwable" "depth" "I",
  .superclass "java/lang/IndexOutOfBoundsException" "java/lang/RuntimeException",
  .sameMethod "java/lang/Throwable" "java/lang/Throwable" "fillInStackTrace" "(I)Ljava/lang/Throwable;"]
def vT : List Cond := u_ws R_Row T_Row 3 ++ (u_ws R_Meter T_Meter 4 ++ (u_ws R_Terms T_Terms 10 ++ (u_ws R_Env T_Env 3 ++ (u_ws R_Lex T_Lex 7 ++ (u_ws R_Par T_Par 20 ++ (u_ws R_Fra T_Fra 3 ++ (u_ws R_Red T_Red 5 ++ (u_ws R_Typ T_Typ 4 ++ (u_ws R_Fam T_Fam 18 ++ (u_ws R_Pri T_Pri 4 ++ (u_ws R_Ker T_Ker 14 ++ (u_ws R_Mod T_Mod 76 ++ (vR_0 ++ (vR_1 ++ (vR_2 ++ (vR_3 ++ (vR_4 ++ (vR_5 ++ (vR_6 ++ (vR_7 ++ (vR_8 ++ (vR_9 ++ (vR_10 ++ (vR_11 ++ (vR_12 ++ (vR_13 ++ (vR_14)))))))))))))))))))))))))))
theorem in_Row : ∀ w ∈ u_ws R_Row T_Row 3, w ∈ vT := fun _ h => List.mem_append_left _ (h)
theorem in_Meter : ∀ w ∈ u_ws R_Meter T_Meter 4, w ∈ vT := fun _ h => List.mem_append_right _ (List.mem_append_left _ (h))
theorem in_Terms : ∀ w ∈ u_ws R_Terms T_Terms 10, w ∈ vT := fun _ h => List.mem_append_right _ (List.mem_append_right _ (List.mem_append_left _ (h)))
theorem in_Env : ∀ w ∈ u_ws R_Env T_Env 3, w ∈ vT := fun _ h => List.mem_append_right _ (List.mem_append_right _ (List.mem_append_right _ (List.mem_append_left _ (h))))
theorem in_Lex : ∀ w ∈ u_ws R_Lex T_Lex 7, w ∈ vT := fun _ h => List.mem_append_right _ (List.mem_append_right _ (List.mem_append_right _ (List.mem_append_right _ (List.mem_append_left _ (h)))))
theorem in_Par : ∀ w ∈ u_ws R_Par T_Par 20, w ∈ vT := fun _ h => List.mem_append_right _ (List.mem_append_right _ (List.mem_append_right _ (List.mem_append_right _ (List.mem_append_right _ (List.mem_append_left _ (h))))))
theorem in_Fra : ∀ w ∈ u_ws R_Fra T_Fra 3, w ∈ vT := fun _ h => List.mem_append_right _ (List.mem_append_right _ (List.mem_append_right _ (List.mem_append_right _ (List.mem_append_right _ (List.mem_append_right _ (List.mem_append_left _ (h)))))))
theorem in_Red : ∀ w ∈ u_ws R_Red T_Red 5, w ∈ vT := fun _ h => List.mem_append_right _ (List.mem_append_right _ (List.mem_append_right _ (List.mem_append_right _ (List.mem_append_right _ (List.mem_append_right _ (List.mem_append_right _ (List.mem_append_left _ (h))))))))
theorem in_Typ : ∀ w ∈ u_ws R_Typ T_Typ 4, w ∈ vT := fun _ h => List.mem_append_right _ (List.mem_append_right _ (List.mem_append_right _ (List.mem_append_right _ (List.mem_append_right _ (List.mem_append_right _ (List.mem_append_right _ (List.mem_append_right _ (List.mem_append_left _ (h)))))))))
theorem in_Fam : ∀ w ∈ u_ws R_Fam T_Fam 18, w ∈ vT := fun _ h => List.mem_append_right _ (List.mem_append_right _ (List.mem_append_right _ (List.mem_append_right _ (List.mem_append_right _ (List.mem_append_right _ (List.mem_append_right _ (List.mem_append_right _ (List.mem_append_right _ (List.mem_append_left _ (h))))))))))
theorem in_Pri : ∀ w ∈ u_ws R_Pri T_Pri 4, w ∈ vT := fun _ h => List.mem_append_right _ (List.mem_append_right _ (List.mem_append_right _ (List.mem_append_right _ (List.mem_append_right _ (List.mem_append_right _ (List.mem_append_right _ (List.mem_append_right _ (List.mem_append_right _ (List.mem_append_right _ (List.mem_append_left _ (h)))))))))))
theorem in_Ker : ∀ w ∈ u_ws R_Ker T_Ker 14, w ∈ vT := fun _ h => List.mem_append_right _ (List.mem_append_right _ (List.mem_append_right _ (List.mem_append_right _ (List.mem_append_right _ (List.mem_append_right _ (List.mem_append_right _ (List.mem_append_right _ (List.mem_append_right _ (List.mem_append_right _ (List.mem_append_right _ (List.mem_append_left _ (h))))))))))))
theorem in_Mod : ∀ w ∈ u_ws R_Mod T_Mod 76, w ∈ vT := fun _ h => List.mem_append_right _ (List.mem_append_right _ (List.mem_append_right _ (List.mem_append_right _ (List.mem_append_right _ (List.mem_append_right _ (List.mem_append_right _ (List.mem_append_right _ (List.mem_append_right _ (List.mem_append_right _ (List.mem_append_right _ (List.mem_append_right _ (List.mem_append_left _ (h)))))))))))))
theorem inR_0 : ∀ w ∈ vR_0, w ∈ vT := fun _ h => List.mem_append_right _ (List.mem_append_right _ (List.mem_append_right _ (List.mem_append_right _ (List.mem_append_right _ (List.mem_append_right _ (List.mem_append_right _ (List.mem_append_right _ (List.mem_append_right _ (List.mem_append_right _ (List.mem_append_right _ (List.mem_append_right _ (List.mem_append_right _ (List.mem_append_left _ (h))))))))))))))
theorem inR_1 : ∀ w ∈ vR_1, w ∈ vT := fun _ h => List.mem_append_right _ (List.mem_append_right _ (List.mem_append_right _ (List.mem_append_right _ (List.mem_append_right _ (List.mem_append_right _ (List.mem_append_right _ (List.mem_append_right _ (List.mem_append_right _ (List.mem_append_right _ (List.mem_append_right _ (List.mem_append_right _ (List.mem_append_right _ (List.mem_append_right _ (List.mem_append_left _ (h)))))))))))))))
theorem inR_2 : ∀ w ∈ vR_2, w ∈ vT := fun _ h => List.mem_append_right _ (List.mem_append_right _ (List.mem_append_right _ (List.mem_append_right _ (List.mem_append_right _ (List.mem_append_right _ (List.mem_append_right _ (List.mem_append_right _ (List.mem_append_right _ (List.mem_append_right _ (List.mem_append_right _ (List.mem_append_right _ (List.mem_append_right _ (List.mem_append_right _ (List.mem_append_right _ (List.mem_append_left _ (h))))))))))))))))
theorem inR_3 : ∀ w ∈ vR_3, w ∈ vT := fun _ h => List.mem_append_right _ (List.mem_append_right _ (List.mem_append_right _ (List.mem_append_right _ (List.mem_append_right _ (List.mem_append_right _ (List.mem_append_right _ (List.mem_append_right _ (List.mem_append_right _ (List.mem_append_right _ (List.mem_append_right _ (List.mem_append_right _ (List.mem_append_right _ (List.mem_append_right _ (List.mem_append_right _ (List.mem_append_right _ (List.mem_append_left _ (h)))))))))))))))))
theorem inR_4 : ∀ w ∈ vR_4, w ∈ vT := fun _ h => List.mem_append_right _ (List.mem_append_right _ (List.mem_append_right _ (List.mem_append_right _ (List.mem_append_right _ (List.mem_append_right _ (List.mem_append_right _ (List.mem_append_right _ (List.mem_append_right _ (List.mem_append_right _ (List.mem_append_right _ (List.mem_append_right _ (List.mem_append_right _ (List.mem_append_right _ (List.mem_append_right _ (List.mem_append_right _ (List.mem_append_right _ (List.mem_append_left _ (h))))))))))))))))))
theorem inR_5 : ∀ w ∈ vR_5, w ∈ vT := fun _ h => List.mem_append_right _ (List.mem_append_right _ (List.mem_append_right _ (List.mem_append_right _ (List.mem_append_right _ (List.mem_append_right _ (List.mem_append_right _ (List.mem_append_right _ (List.mem_append_right _ (List.mem_append_right _ (List.mem_append_right _ (List.mem_append_right _ (List.mem_append_right _ (List.mem_append_right _ (List.mem_append_right _ (List.mem_append_right _ (List.mem_append_right _ (List.mem_append_right _ (List.mem_append_left _ (h)))))))))))))))))))
theorem inR_6 : ∀ w ∈ vR_6, w ∈ vT := fun _ h => List.mem_append_right _ (List.mem_append_right _ (List.mem_append_right _ (List.mem_append_right _ (List.mem_append_right _ (List.mem_append_right _ (List.mem_append_right _ (List.mem_append_right _ (List.mem_append_right _ (List.mem_append_right _ (List.mem_append_right _ (List.mem_append_right _ (List.mem_append_right _ (List.mem_append_right _ (List.mem_append_right _ (List.mem_append_right _ (List.mem_append_right _ (List.mem_append_right _ (List.mem_append_right _ (List.mem_append_left _ (h))))))))))))))))))))
theorem inR_7 : ∀ w ∈ vR_7, w ∈ vT := fun _ h => List.mem_append_right _ (List.mem_append_right _ (List.mem_append_right _ (List.mem_append_right _ (List.mem_append_right _ (List.mem_append_right _ (List.mem_append_right _ (List.mem_append_right _ (List.mem_append_right _ (List.mem_append_right _ (List.mem_append_right _ (List.mem_append_right _ (List.mem_append_right _ (List.mem_append_right _ (List.mem_append_right _ (List.mem_append_right _ (List.mem_append_right _ (List.mem_append_right _ (List.mem_append_right _ (List.mem_append_right _ (List.mem_append_left _ (h)))))))))))))))))))))
theorem inR_8 : ∀ w ∈ vR_8, w ∈ vT := fun _ h => List.mem_append_right _ (List.mem_append_right _ (List.mem_append_right _ (List.mem_append_right _ (List.mem_append_right _ (List.mem_append_right _ (List.mem_append_right _ (List.mem_append_right _ (List.mem_append_right _ (List.mem_append_right _ (List.mem_append_right _ (List.mem_append_right _ (List.mem_append_right _ (List.mem_append_right _ (List.mem_append_right _ (List.mem_append_right _ (List.mem_append_right _ (List.mem_append_right _ (List.mem_append_right _ (List.mem_append_right _ (List.mem_append_right _ (List.mem_append_left _ (h))))))))))))))))))))))
theorem inR_9 : ∀ w ∈ vR_9, w ∈ vT := fun _ h => List.mem_append_right _ (List.mem_append_right _ (List.mem_append_right _ (List.mem_append_right _ (List.mem_append_right _ (List.mem_append_right _ (List.mem_append_right _ (List.mem_append_right _ (List.mem_append_right _ (List.mem_append_right _ (List.mem_append_right _ (List.mem_append_right _ (List.mem_append_right _ (List.mem_append_right _ (List.mem_append_right _ (List.mem_append_right _ (List.mem_append_right _ (List.mem_append_right _ (List.mem_append_right _ (List.mem_append_right _ (List.mem_append_right _ (List.mem_append_right _ (List.mem_append_left _ (h)))))))))))))))))))))))
theorem inR_10 : ∀ w ∈ vR_10, w ∈ vT := fun _ h => List.mem_append_right _ (List.mem_append_right _ (List.mem_append_right _ (List.mem_append_right _ (List.mem_append_right _ (List.mem_append_right _ (List.mem_append_right _ (List.mem_append_right _ (List.mem_append_right _ (List.mem_append_right _ (List.mem_append_right _ (List.mem_append_right _ (List.mem_append_right _ (List.mem_append_right _ (List.mem_append_right _ (List.mem_append_right _ (List.mem_append_right _ (List.mem_append_right _ (List.mem_append_right _ (List.mem_append_right _ (List.mem_append_right _ (List.mem_append_right _ (List.mem_append_right _ (List.mem_append_left _ (h))))))))))))))))))))))))
theorem inR_11 : ∀ w ∈ vR_11, w ∈ vT := fun _ h => List.mem_append_right _ (List.mem_append_right _ (List.mem_append_right _ (List.mem_append_right _ (List.mem_append_right _ (List.mem_append_right _ (List.mem_append_right _ (List.mem_append_right _ (List.mem_append_right _ (List.mem_append_right _ (List.mem_append_right _ (List.mem_append_right _ (List.mem_append_right _ (List.mem_append_right _ (List.mem_append_right _ (List.mem_append_right _ (List.mem_append_right _ (List.mem_append_right _ (List.mem_append_right _ (List.mem_append_right _ (List.mem_append_right _ (List.mem_append_right _ (List.mem_append_right _ (List.mem_append_right _ (List.mem_append_left _ (h)))))))))))))))))))))))))
theorem inR_12 : ∀ w ∈ vR_12, w ∈ vT := fun _ h => List.mem_append_right _ (List.mem_append_right _ (List.mem_append_right _ (List.mem_append_right _ (List.mem_append_right _ (List.mem_append_right _ (List.mem_append_right _ (List.mem_append_right _ (List.mem_append_right _ (List.mem_append_right _ (List.mem_append_right _ (List.mem_append_right _ (List.mem_append_right _ (List.mem_append_right _ (List.mem_append_right _ (List.mem_append_right _ (List.mem_append_right _ (List.mem_append_right _ (List.mem_append_right _ (List.mem_append_right _ (List.mem_append_right _ (List.mem_append_right _ (List.mem_append_right _ (List.mem_append_right _ (List.mem_append_right _ (List.mem_append_left _ (h))))))))))))))))))))))))))
theorem inR_13 : ∀ w ∈ vR_13, w ∈ vT := fun _ h => List.mem_append_right _ (List.mem_append_right _ (List.mem_append_right _ (List.mem_append_right _ (List.mem_append_right _ (List.mem_append_right _ (List.mem_append_right _ (List.mem_append_right _ (List.mem_append_right _ (List.mem_append_right _ (List.mem_append_right _ (List.mem_append_right _ (List.mem_append_right _ (List.mem_append_right _ (List.mem_append_right _ (List.mem_append_right _ (List.mem_append_right _ (List.mem_append_right _ (List.mem_append_right _ (List.mem_append_right _ (List.mem_append_right _ (List.mem_append_right _ (List.mem_append_right _ (List.mem_append_right _ (List.mem_append_right _ (List.mem_append_right _ (List.mem_append_left _ (h)))))))))))))))))))))))))))
theorem inR_14 : ∀ w ∈ vR_14, w ∈ vT := fun _ h => List.mem_append_right _ (List.mem_append_right _ (List.mem_append_right _ (List.mem_append_right _ (List.mem_append_right _ (List.mem_append_right _ (List.mem_append_right _ (List.mem_append_right _ (List.mem_append_right _ (List.mem_append_right _ (List.mem_append_right _ (List.mem_append_right _ (List.mem_append_right _ (List.mem_append_right _ (List.mem_append_right _ (List.mem_append_right _ (List.mem_append_right _ (List.mem_append_right _ (List.mem_append_right _ (List.mem_append_right _ (List.mem_append_right _ (List.mem_append_right _ (List.mem_append_right _ (List.mem_append_right _ (List.mem_append_right _ (List.mem_append_right _ (List.mem_append_right _ (h)))))))))))))))))))))))))))
theorem vt_0 : (.methodLink "FamilyKernel$Row" 1 ⟨"java/lang/Object", "<init>", "()V"⟩ : Cond) ∈ vT := inR_0 _ (List.mem_of_getElem? (i := 0) rfl)
theorem vt_1 : (.instanceMethod ⟨"java/lang/Object", "<init>", "()V"⟩ : Cond) ∈ vT := inR_0 _ (List.mem_of_getElem? (i := 1) rfl)
theorem vt_2 : (.code ⟨"java/lang/Object", "<init>", "()V"⟩ object_method_1_code 1 none : Cond) ∈ vT := inR_0 _ (List.mem_of_getElem? (i := 2) rfl)
theorem vt_3 : (.arrayClass .int : Cond) ∈ vT := inR_0 _ (List.mem_of_getElem? (i := 3) rfl)
theorem vt_4 : (.fieldLink "FamilyKernel$Row" 7 "FamilyKernel$Row" "cells" "[I" : Cond) ∈ vT := inR_0 _ (List.mem_of_getElem? (i := 4) rfl)
theorem vt_5 : (.fieldLink "FamilyKernel$Row" 13 "FamilyKernel$Row" "most" "I" : Cond) ∈ vT := inR_0 _ (List.mem_of_getElem? (i := 5) rfl)
theorem vt_6 : (.fieldLink "FamilyKernel$Row" 17 "FamilyKernel$Row" "length" "I" : Cond) ∈ vT := inR_0 _ (List.mem_of_getElem? (i := 6) rfl)
theorem vt_7 : (.methodLink "FamilyKernel$Meter" 3 ⟨"java/lang/Object", "<init>", "()V"⟩ : Cond) ∈ vT := inR_0 _ (List.mem_of_getElem? (i := 7) rfl)
theorem vt_8 : (.methodLink "FamilyKernel$Environment" 3 ⟨"java/lang/Object", "<init>", "()V"⟩ : Cond) ∈ vT := inR_0 _ (List.mem_of_getElem? (i := 8) rfl)
theorem vt_9 : (.classLink "FamilyKernel$Environment" 9 "FamilyKernel$Row" : Cond) ∈ vT := inR_0 _ (List.mem_of_getElem? (i := 9) rfl)
theorem vt_10 : (.instantiable "FamilyKernel$Row" 3 : Cond) ∈ vT := inR_0 _ (List.mem_of_getElem? (i := 10) rfl)
theorem vt_11 : (.initialized "FamilyKernel$Row" : Cond) ∈ vT := inR_0 _ (List.mem_of_getElem? (i := 11) rfl)
theorem vt_12 : (.constant "FamilyKernel$Environment" 11 16777216 : Cond) ∈ vT := inR_0 _ (List.mem_of_getElem? (i := 12) rfl)
theorem vt_13 : (.code ⟨"FamilyKernel$Row", "<init>", "(II)V"⟩ prog_10_method_1_code 3 none : Cond) ∈ vT := inR_0 _ (List.mem_of_getElem? (i := 13) rfl)
theorem vt_14 : (.methodLink "FamilyKernel$Environment" 12 ⟨"FamilyKernel$Row", "<init>", "(II)V"⟩ : Cond) ∈ vT := inR_0 _ (List.mem_of_getElem? (i := 14) rfl)
theorem vt_15 : (.instanceMethod ⟨"FamilyKernel$Row", "<init>", "(II)V"⟩ : Cond) ∈ vT := inR_0 _ (List.mem_of_getElem? (i := 15) rfl)
theorem vt_16 : (.fieldLink "FamilyKernel$Environment" 15 "FamilyKernel$Environment" "facts" "LFamilyKernel$Row;" : Cond) ∈ vT := inR_0 _ (List.mem_of_getElem? (i := 16) rfl)
theorem vt_17 : (.fieldLink "FamilyKernel$Environment" 21 "FamilyKernel$Environment" "names" "LFamilyKernel$Row;" : Cond) ∈ vT := inR_0 _ (List.mem_of_getElem? (i := 17) rfl)
theorem vt_18 : (.methodLink "FamilyKernel$Lexer" 3 ⟨"java/lang/Object", "<init>", "()V"⟩ : Cond) ∈ vT := inR_0 _ (List.mem_of_getElem? (i := 18) rfl)
theorem vt_19 : (.fieldLink "FamilyKernel$Lexer" 9 "FamilyKernel$Lexer" "text" "LFamilyKernel$Row;" : Cond) ∈ vT := inR_0 _ (List.mem_of_getElem? (i := 19) rfl)
theorem vt_20 : (.classLink "FamilyKernel$Lexer" 15 "FamilyKernel$Row" : Cond) ∈ vT := inR_0 _ (List.mem_of_getElem? (i := 20) rfl)
theorem vt_21 : (.constant "FamilyKernel$Lexer" 17 16777216 : Cond) ∈ vT := inR_0 _ (List.mem_of_getElem? (i := 21) rfl)
theorem vt_22 : (.methodLink "FamilyKernel$Lexer" 18 ⟨"FamilyKernel$Row", "<init>", "(II)V"⟩ : Cond) ∈ vT := inR_0 _ (List.mem_of_getElem? (i := 22) rfl)
theorem vt_23 : (.fieldLink "FamilyKernel$Lexer" 21 "FamilyKernel$Lexer" "tokens" "LFamilyKernel$Row;" : Cond) ∈ vT := inR_0 _ (List.mem_of_getElem? (i := 23) rfl)
theorem vt_24 : (.methodLink "FamilyKernel$Terms" 3 ⟨"java/lang/Object", "<init>", "()V"⟩ : Cond) ∈ vT := inR_0 _ (List.mem_of_getElem? (i := 24) rfl)
theorem vt_25 : (.fieldLink "FamilyKernel$Terms" 9 "FamilyKernel$Terms" "meter" "LFamilyKernel$Meter;" : Cond) ∈ vT := inR_0 _ (List.mem_of_getElem? (i := 25) rfl)
theorem vt_26 : (.classLink "FamilyKernel$Terms" 15 "FamilyKernel$Row" : Cond) ∈ vT := inR_0 _ (List.mem_of_getElem? (i := 26) rfl)
theorem vt_27 : (.constant "FamilyKernel$Terms" 17 16777216 : Cond) ∈ vT := inR_0 _ (List.mem_of_getElem? (i := 27) rfl)
theorem vt_28 : (.methodLink "FamilyKernel$Terms" 18 ⟨"FamilyKernel$Row", "<init>", "(II)V"⟩ : Cond) ∈ vT := inR_0 _ (List.mem_of_getElem? (i := 28) rfl)
theorem vt_29 : (.fieldLink "FamilyKernel$Terms" 21 "FamilyKernel$Terms" "todo" "LFamilyKernel$Row;" : Cond) ∈ vT := inR_0 _ (List.mem_of_getElem? (i := 29) rfl)
theorem vt_30 : (.fieldLink "FamilyKernel$Terms" 25 "FamilyKernel$Terms" "offsets" "LFamilyKernel$Row;" : Cond) ∈ vT := inR_0 _ (List.mem_of_getElem? (i := 30) rfl)
theorem vt_31 : (.fieldLink "FamilyKernel$Terms" 28 "FamilyKernel$Terms" "built" "LFamilyKernel$Row;" : Cond) ∈ vT := inR_0 _ (List.mem_of_getElem? (i := 31) rfl)
theorem vt_32 : (.arrayClass .long : Cond) ∈ vT := inR_0 _ (List.mem_of_getElem? (i := 32) rfl)
theorem vt_33 : (.fieldLink "FamilyKernel$Terms" 31 "FamilyKernel$Terms" "infos" "[J" : Cond) ∈ vT := inR_0 _ (List.mem_of_getElem? (i := 33) rfl)
theorem vt_34 : (.fieldLink "FamilyKernel$Terms" 35 "FamilyKernel$Terms" "lefts" "[I" : Cond) ∈ vT := inR_0 _ (List.mem_of_getElem? (i := 34) rfl)
theorem vt_35 : (.fieldLink "FamilyKernel$Terms" 39 "FamilyKernel$Terms" "rights" "[I" : Cond) ∈ vT := inR_0 _ (List.mem_of_getElem? (i := 35) rfl)
theorem vt_36 : (.fieldLink "FamilyKernel$Terms" 42 "FamilyKernel$Terms" "links" "[I" : Cond) ∈ vT := inR_0 _ (List.mem_of_getElem? (i := 36) rfl)
theorem vt_37 : (.fieldLink "FamilyKernel$Terms" 45 "FamilyKernel$Terms" "heads" "[I" : Cond) ∈ vT := inR_0 _ (List.mem_of_getElem? (i := 37) rfl)
theorem vt_38 : (.methodLink "FamilyKernel$Parser" 3 ⟨"java/lang/Object", "<init>", "()V"⟩ : Cond) ∈ vT := inR_0 _ (List.mem_of_getElem? (i := 38) rfl)
theorem vt_39 : (.fieldLink "FamilyKernel$Parser" 9 "FamilyKernel$Parser" "text" "LFamilyKernel$Row;" : Cond) ∈ vT := inR_0 _ (List.mem_of_getElem? (i := 39) rfl)
theorem vt_40 : (.fieldLink "FamilyKernel$Parser" 15 "FamilyKernel$Parser" "lexer" "LFamilyKernel$Lexer;" : Cond) ∈ vT := inR_1 _ (List.mem_of_getElem? (i := 0) rfl)
theorem vt_41 : (.fieldLink "FamilyKernel$Parser" 19 "FamilyKernel$Parser" "meter" "LFamilyKernel$Meter;" : Cond) ∈ vT := inR_1 _ (List.mem_of_getElem? (i := 1) rfl)
theorem vt_42 : (.fieldLink "FamilyKernel$Parser" 23 "FamilyKernel$Parser" "terms" "LFamilyKernel$Terms;" : Cond) ∈ vT := inR_1 _ (List.mem_of_getElem? (i := 2) rfl)
theorem vt_43 : (.fieldLink "FamilyKernel$Parser" 27 "FamilyKernel$Parser" "environment" "LFamilyKernel$Environment;" : Cond) ∈ vT := inR_1 _ (List.mem_of_getElem? (i := 3) rfl)
theorem vt_44 : (.classLink "FamilyKernel$Parser" 31 "FamilyKernel$Row" : Cond) ∈ vT := inR_1 _ (List.mem_of_getElem? (i := 4) rfl)
theorem vt_45 : (.constant "FamilyKernel$Parser" 33 16777216 : Cond) ∈ vT := inR_1 _ (List.mem_of_getElem? (i := 5) rfl)
theorem vt_46 : (.methodLink "FamilyKernel$Parser" 34 ⟨"FamilyKernel$Row", "<init>", "(II)V"⟩ : Cond) ∈ vT := inR_1 _ (List.mem_of_getElem? (i := 6) rfl)
theorem vt_47 : (.fieldLink "FamilyKernel$Parser" 37 "FamilyKernel$Parser" "open" "LFamilyKernel$Row;" : Cond) ∈ vT := inR_1 _ (List.mem_of_getElem? (i := 7) rfl)
theorem vt_48 : (.fieldLink "FamilyKernel$Parser" 40 "FamilyKernel$Parser" "scope" "LFamilyKernel$Row;" : Cond) ∈ vT := inR_1 _ (List.mem_of_getElem? (i := 8) rfl)
theorem vt_49 : (.fieldLink "FamilyKernel$Parser" 43 "FamilyKernel$Parser" "pending" "LFamilyKernel$Row;" : Cond) ∈ vT := inR_1 _ (List.mem_of_getElem? (i := 9) rfl)
theorem vt_50 : (.fieldLink "FamilyKernel$Parser" 46 "FamilyKernel$Parser" "binders" "LFamilyKernel$Row;" : Cond) ∈ vT := inR_1 _ (List.mem_of_getElem? (i := 10) rfl)
theorem vt_51 : (.methodLink "FamilyKernel$Frames" 3 ⟨"java/lang/Object", "<init>", "()V"⟩ : Cond) ∈ vT := inR_1 _ (List.mem_of_getElem? (i := 11) rfl)
theorem vt_52 : (.classLink "FamilyKernel$Frames" 9 "FamilyKernel$Row" : Cond) ∈ vT := inR_1 _ (List.mem_of_getElem? (i := 12) rfl)
theorem vt_53 : (.constant "FamilyKernel$Frames" 13 16777216 : Cond) ∈ vT := inR_1 _ (List.mem_of_getElem? (i := 13) rfl)
theorem vt_54 : (.methodLink "FamilyKernel$Frames" 14 ⟨"FamilyKernel$Row", "<init>", "(II)V"⟩ : Cond) ∈ vT := inR_1 _ (List.mem_of_getElem? (i := 14) rfl)
theorem vt_55 : (.fieldLink "FamilyKernel$Frames" 17 "FamilyKernel$Frames" "cells" "LFamilyKernel$Row;" : Cond) ∈ vT := inR_1 _ (List.mem_of_getElem? (i := 15) rfl)
theorem vt_56 : (.fieldLink "FamilyKernel$Frames" 21 "FamilyKernel$Frames" "types" "LFamilyKernel$Row;" : Cond) ∈ vT := inR_1 _ (List.mem_of_getElem? (i := 16) rfl)
theorem vt_57 : (.methodLink "FamilyKernel$Reducer" 3 ⟨"java/lang/Object", "<init>", "()V"⟩ : Cond) ∈ vT := inR_1 _ (List.mem_of_getElem? (i := 17) rfl)
theorem vt_58 : (.fieldLink "FamilyKernel$Reducer" 9 "FamilyKernel$Reducer" "frames" "LFamilyKernel$Frames;" : Cond) ∈ vT := inR_1 _ (List.mem_of_getElem? (i := 18) rfl)
theorem vt_59 : (.fieldLink "FamilyKernel$Reducer" 15 "FamilyKernel$Reducer" "meter" "LFamilyKernel$Meter;" : Cond) ∈ vT := inR_1 _ (List.mem_of_getElem? (i := 19) rfl)
theorem vt_60 : (.fieldLink "FamilyKernel$Reducer" 19 "FamilyKernel$Reducer" "terms" "LFamilyKernel$Terms;" : Cond) ∈ vT := inR_1 _ (List.mem_of_getElem? (i := 20) rfl)
theorem vt_61 : (.fieldLink "FamilyKernel$Reducer" 23 "FamilyKernel$Reducer" "environment" "LFamilyKernel$Environment;" : Cond) ∈ vT := inR_1 _ (List.mem_of_getElem? (i := 21) rfl)
theorem vt_62 : (.classLink "FamilyKernel$Reducer" 27 "FamilyKernel$Row" : Cond) ∈ vT := inR_1 _ (List.mem_of_getElem? (i := 22) rfl)
theorem vt_63 : (.constant "FamilyKernel$Reducer" 29 16777216 : Cond) ∈ vT := inR_1 _ (List.mem_of_getElem? (i := 23) rfl)
theorem vt_64 : (.methodLink "FamilyKernel$Reducer" 30 ⟨"FamilyKernel$Row", "<init>", "(II)V"⟩ : Cond) ∈ vT := inR_1 _ (List.mem_of_getElem? (i := 24) rfl)
theorem vt_65 : (.fieldLink "FamilyKernel$Reducer" 33 "FamilyKernel$Reducer" "given" "LFamilyKernel$Row;" : Cond) ∈ vT := inR_1 _ (List.mem_of_getElem? (i := 25) rfl)
theorem vt_66 : (.methodLink "FamilyKernel$Typer" 3 ⟨"java/lang/Object", "<init>", "()V"⟩ : Cond) ∈ vT := inR_1 _ (List.mem_of_getElem? (i := 26) rfl)
theorem vt_67 : (.fieldLink "FamilyKernel$Typer" 9 "FamilyKernel$Typer" "frames" "LFamilyKernel$Frames;" : Cond) ∈ vT := inR_1 _ (List.mem_of_getElem? (i := 27) rfl)
theorem vt_68 : (.fieldLink "FamilyKernel$Typer" 15 "FamilyKernel$Typer" "meter" "LFamilyKernel$Meter;" : Cond) ∈ vT := inR_1 _ (List.mem_of_getElem? (i := 28) rfl)
theorem vt_69 : (.fieldLink "FamilyKernel$Typer" 19 "FamilyKernel$Typer" "terms" "LFamilyKernel$Terms;" : Cond) ∈ vT := inR_1 _ (List.mem_of_getElem? (i := 29) rfl)
theorem vt_70 : (.fieldLink "FamilyKernel$Typer" 23 "FamilyKernel$Typer" "environment" "LFamilyKernel$Environment;" : Cond) ∈ vT := inR_1 _ (List.mem_of_getElem? (i := 30) rfl)
theorem vt_71 : (.methodLink "FamilyKernel$Families" 3 ⟨"java/lang/Object", "<init>", "()V"⟩ : Cond) ∈ vT := inR_1 _ (List.mem_of_getElem? (i := 31) rfl)
theorem vt_72 : (.fieldLink "FamilyKernel$Families" 9 "FamilyKernel$Families" "frames" "LFamilyKernel$Frames;" : Cond) ∈ vT := inR_1 _ (List.mem_of_getElem? (i := 32) rfl)
theorem vt_73 : (.fieldLink "FamilyKernel$Families" 15 "FamilyKernel$Families" "meter" "LFamilyKernel$Meter;" : Cond) ∈ vT := inR_1 _ (List.mem_of_getElem? (i := 33) rfl)
theorem vt_74 : (.fieldLink "FamilyKernel$Families" 19 "FamilyKernel$Families" "terms" "LFamilyKernel$Terms;" : Cond) ∈ vT := inR_1 _ (List.mem_of_getElem? (i := 34) rfl)
theorem vt_75 : (.fieldLink "FamilyKernel$Families" 23 "FamilyKernel$Families" "environment" "LFamilyKernel$Environment;" : Cond) ∈ vT := inR_1 _ (List.mem_of_getElem? (i := 35) rfl)
theorem vt_76 : (.fieldLink "FamilyKernel$Families" 27 "FamilyKernel$Families" "parser" "LFamilyKernel$Parser;" : Cond) ∈ vT := inR_1 _ (List.mem_of_getElem? (i := 36) rfl)
theorem vt_77 : (.classLink "FamilyKernel$Families" 31 "FamilyKernel$Row" : Cond) ∈ vT := inR_1 _ (List.mem_of_getElem? (i := 37) rfl)
theorem vt_78 : (.constant "FamilyKernel$Families" 33 16777216 : Cond) ∈ vT := inR_1 _ (List.mem_of_getElem? (i := 38) rfl)
theorem vt_79 : (.methodLink "FamilyKernel$Families" 34 ⟨"FamilyKernel$Row", "<init>", "(II)V"⟩ : Cond) ∈ vT := inR_1 _ (List.mem_of_getElem? (i := 39) rfl)
theorem vt_80 : (.fieldLink "FamilyKernel$Families" 37 "FamilyKernel$Families" "sorts" "LFamilyKernel$Row;" : Cond) ∈ vT := inR_2 _ (List.mem_of_getElem? (i := 0) rfl)
theorem vt_81 : (.fieldLink "FamilyKernel$Families" 41 "FamilyKernel$Families" "domains" "LFamilyKernel$Row;" : Cond) ∈ vT := inR_2 _ (List.mem_of_getElem? (i := 1) rfl)
theorem vt_82 : (.fieldLink "FamilyKernel$Families" 44 "FamilyKernel$Families" "hypotheses" "LFamilyKernel$Row;" : Cond) ∈ vT := inR_2 _ (List.mem_of_getElem? (i := 2) rfl)
theorem vt_83 : (.fieldLink "FamilyKernel$Families" 47 "FamilyKernel$Families" "within" "LFamilyKernel$Row;" : Cond) ∈ vT := inR_2 _ (List.mem_of_getElem? (i := 3) rfl)
theorem vt_84 : (.fieldLink "FamilyKernel$Families" 50 "FamilyKernel$Families" "minors" "LFamilyKernel$Row;" : Cond) ∈ vT := inR_2 _ (List.mem_of_getElem? (i := 4) rfl)
theorem vt_85 : (.methodLink "FamilyKernel$Printer" 3 ⟨"java/lang/Object", "<init>", "()V"⟩ : Cond) ∈ vT := inR_2 _ (List.mem_of_getElem? (i := 5) rfl)
theorem vt_86 : (.fieldLink "FamilyKernel$Printer" 9 "FamilyKernel$Printer" "shown" "LFamilyKernel$Row;" : Cond) ∈ vT := inR_2 _ (List.mem_of_getElem? (i := 6) rfl)
theorem vt_87 : (.fieldLink "FamilyKernel$Printer" 15 "FamilyKernel$Printer" "terms" "LFamilyKernel$Terms;" : Cond) ∈ vT := inR_2 _ (List.mem_of_getElem? (i := 7) rfl)
theorem vt_88 : (.fieldLink "FamilyKernel$Printer" 19 "FamilyKernel$Printer" "environment" "LFamilyKernel$Environment;" : Cond) ∈ vT := inR_2 _ (List.mem_of_getElem? (i := 8) rfl)
theorem vt_89 : (.classLink "FamilyKernel$Printer" 23 "FamilyKernel$Row" : Cond) ∈ vT := inR_2 _ (List.mem_of_getElem? (i := 9) rfl)
theorem vt_90 : (.constant "FamilyKernel$Printer" 25 16777216 : Cond) ∈ vT := inR_2 _ (List.mem_of_getElem? (i := 10) rfl)
theorem vt_91 : (.methodLink "FamilyKernel$Printer" 26 ⟨"FamilyKernel$Row", "<init>", "(II)V"⟩ : Cond) ∈ vT := inR_2 _ (List.mem_of_getElem? (i := 11) rfl)
theorem vt_92 : (.fieldLink "FamilyKernel$Printer" 29 "FamilyKernel$Printer" "todo" "LFamilyKernel$Row;" : Cond) ∈ vT := inR_2 _ (List.mem_of_getElem? (i := 12) rfl)
theorem vt_93 : (.methodLink "FamilyKernel" 1 ⟨"java/lang/Object", "<init>", "()V"⟩ : Cond) ∈ vT := inR_2 _ (List.mem_of_getElem? (i := 13) rfl)
theorem vt_94 : (.classLink "FamilyKernel" 7 "FamilyKernel$Row" : Cond) ∈ vT := inR_2 _ (List.mem_of_getElem? (i := 14) rfl)
theorem vt_95 : (.constant "FamilyKernel" 11 65536 : Cond) ∈ vT := inR_2 _ (List.mem_of_getElem? (i := 15) rfl)
theorem vt_96 : (.methodLink "FamilyKernel" 12 ⟨"FamilyKernel$Row", "<init>", "(II)V"⟩ : Cond) ∈ vT := inR_2 _ (List.mem_of_getElem? (i := 16) rfl)
theorem vt_97 : (.fieldLink "FamilyKernel" 15 "FamilyKernel" "tape" "LFamilyKernel$Row;" : Cond) ∈ vT := inR_2 _ (List.mem_of_getElem? (i := 17) rfl)
theorem vt_98 : (.fieldLink "FamilyKernel" 19 "FamilyKernel" "shown" "LFamilyKernel$Row;" : Cond) ∈ vT := inR_2 _ (List.mem_of_getElem? (i := 18) rfl)
theorem vt_99 : (.classLink "FamilyKernel" 22 "FamilyKernel$Meter" : Cond) ∈ vT := inR_2 _ (List.mem_of_getElem? (i := 19) rfl)
theorem vt_100 : (.instantiable "FamilyKernel$Meter" 4 : Cond) ∈ vT := inR_2 _ (List.mem_of_getElem? (i := 20) rfl)
theorem vt_101 : (.initialized "FamilyKernel$Meter" : Cond) ∈ vT := inR_2 _ (List.mem_of_getElem? (i := 21) rfl)
theorem vt_102 : (.code ⟨"FamilyKernel$Meter", "<init>", "()V"⟩ prog_6_method_1_code 1 none : Cond) ∈ vT := inR_2 _ (List.mem_of_getElem? (i := 22) rfl)
theorem vt_103 : (.instanceMethod ⟨"FamilyKernel$Meter", "<init>", "()V"⟩ : Cond) ∈ vT := inR_2 _ (List.mem_of_getElem? (i := 23) rfl)
theorem vt_104 : (.fieldLink "FamilyKernel" 25 "FamilyKernel" "meter" "LFamilyKernel$Meter;" : Cond) ∈ vT := inR_2 _ (List.mem_of_getElem? (i := 24) rfl)
theorem vt_105 : (.classLink "FamilyKernel" 29 "FamilyKernel$Terms" : Cond) ∈ vT := inR_2 _ (List.mem_of_getElem? (i := 25) rfl)
theorem vt_106 : (.instantiable "FamilyKernel$Terms" 10 : Cond) ∈ vT := inR_2 _ (List.mem_of_getElem? (i := 26) rfl)
theorem vt_107 : (.initialized "FamilyKernel$Terms" : Cond) ∈ vT := inR_2 _ (List.mem_of_getElem? (i := 27) rfl)
theorem vt_108 : (.code ⟨"FamilyKernel$Terms", "<init>", "(LFamilyKernel$Meter;)V"⟩ prog_11_method_1_code 2 none : Cond) ∈ vT := inR_2 _ (List.mem_of_getElem? (i := 28) rfl)
theorem vt_109 : (.methodLink "FamilyKernel" 31 ⟨"FamilyKernel$Terms", "<init>", "(LFamilyKernel$Meter;)V"⟩ : Cond) ∈ vT := inR_2 _ (List.mem_of_getElem? (i := 29) rfl)
theorem vt_110 : (.instanceMethod ⟨"FamilyKernel$Terms", "<init>", "(LFamilyKernel$Meter;)V"⟩ : Cond) ∈ vT := inR_2 _ (List.mem_of_getElem? (i := 30) rfl)
theorem vt_111 : (.fieldLink "FamilyKernel" 34 "FamilyKernel" "terms" "LFamilyKernel$Terms;" : Cond) ∈ vT := inR_2 _ (List.mem_of_getElem? (i := 31) rfl)
theorem vt_112 : (.classLink "FamilyKernel" 38 "FamilyKernel$Environment" : Cond) ∈ vT := inR_2 _ (List.mem_of_getElem? (i := 32) rfl)
theorem vt_113 : (.instantiable "FamilyKernel$Environment" 3 : Cond) ∈ vT := inR_2 _ (List.mem_of_getElem? (i := 33) rfl)
theorem vt_114 : (.initialized "FamilyKernel$Environment" : Cond) ∈ vT := inR_2 _ (List.mem_of_getElem? (i := 34) rfl)
theorem vt_115 : (.code ⟨"FamilyKernel$Environment", "<init>", "()V"⟩ prog_2_method_1_code 1 none : Cond) ∈ vT := inR_2 _ (List.mem_of_getElem? (i := 35) rfl)
theorem vt_116 : (.methodLink "FamilyKernel" 40 ⟨"FamilyKernel$Environment", "<init>", "()V"⟩ : Cond) ∈ vT := inR_2 _ (List.mem_of_getElem? (i := 36) rfl)
theorem vt_117 : (.instanceMethod ⟨"FamilyKernel$Environment", "<init>", "()V"⟩ : Cond) ∈ vT := inR_2 _ (List.mem_of_getElem? (i := 37) rfl)
theorem vt_118 : (.fieldLink "FamilyKernel" 41 "FamilyKernel" "environment" "LFamilyKernel$Environment;" : Cond) ∈ vT := inR_2 _ (List.mem_of_getElem? (i := 38) rfl)
theorem vt_119 : (.classLink "FamilyKernel" 45 "FamilyKernel$Lexer" : Cond) ∈ vT := inR_2 _ (List.mem_of_getElem? (i := 39) rfl)
theorem vt_120 : (.instantiable "FamilyKernel$Lexer" 7 : Cond) ∈ vT := inR_3 _ (List.mem_of_getElem? (i := 0) rfl)
theorem vt_121 : (.initialized "FamilyKernel$Lexer" : Cond) ∈ vT := inR_3 _ (List.mem_of_getElem? (i := 1) rfl)
theorem vt_122 : (.code ⟨"FamilyKernel$Lexer", "<init>", "(LFamilyKernel$Row;)V"⟩ prog_5_method_1_code 2 none : Cond) ∈ vT := inR_3 _ (List.mem_of_getElem? (i := 2) rfl)
theorem vt_123 : (.methodLink "FamilyKernel" 47 ⟨"FamilyKernel$Lexer", "<init>", "(LFamilyKernel$Row;)V"⟩ : Cond) ∈ vT := inR_3 _ (List.mem_of_getElem? (i := 3) rfl)
theorem vt_124 : (.instanceMethod ⟨"FamilyKernel$Lexer", "<init>", "(LFamilyKernel$Row;)V"⟩ : Cond) ∈ vT := inR_3 _ (List.mem_of_getElem? (i := 4) rfl)
theorem vt_125 : (.fieldLink "FamilyKernel" 50 "FamilyKernel" "lexer" "LFamilyKernel$Lexer;" : Cond) ∈ vT := inR_3 _ (List.mem_of_getElem? (i := 5) rfl)
theorem vt_126 : (.classLink "FamilyKernel" 54 "FamilyKernel$Parser" : Cond) ∈ vT := inR_3 _ (List.mem_of_getElem? (i := 6) rfl)
theorem vt_127 : (.instantiable "FamilyKernel$Parser" 20 : Cond) ∈ vT := inR_3 _ (List.mem_of_getElem? (i := 7) rfl)
theorem vt_128 : (.initialized "FamilyKernel$Parser" : Cond) ∈ vT := inR_3 _ (List.mem_of_getElem? (i := 8) rfl)
theorem vt_129 : (.code ⟨"FamilyKernel$Parser", "<init>", "(LFamilyKernel$Row;LFamilyKernel$Lexer;LFamilyKernel$Meter;LFamilyKernel$Terms;LFamilyKernel$Environment;)V"⟩ prog_7_method_1_code 6 none : Cond) ∈ vT := inR_3 _ (List.mem_of_getElem? (i := 9) rfl)
theorem vt_130 : (.methodLink "FamilyKernel" 56 ⟨"FamilyKernel$Parser", "<init>", "(LFamilyKernel$Row;LFamilyKernel$Lexer;LFamilyKernel$Meter;LFamilyKernel$Terms;LFamilyKernel$Environment;)V"⟩ : Cond) ∈ vT := inR_3 _ (List.mem_of_getElem? (i := 10) rfl)
theorem vt_131 : (.instanceMethod ⟨"FamilyKernel$Parser", "<init>", "(LFamilyKernel$Row;LFamilyKernel$Lexer;LFamilyKernel$Meter;LFamilyKernel$Terms;LFamilyKernel$Environment;)V"⟩ : Cond) ∈ vT := inR_3 _ (List.mem_of_getElem? (i := 11) rfl)
theorem vt_132 : (.fieldLink "FamilyKernel" 59 "FamilyKernel" "parser" "LFamilyKernel$Parser;" : Cond) ∈ vT := inR_3 _ (List.mem_of_getElem? (i := 12) rfl)
theorem vt_133 : (.classLink "FamilyKernel" 63 "FamilyKernel$Frames" : Cond) ∈ vT := inR_3 _ (List.mem_of_getElem? (i := 13) rfl)
theorem vt_134 : (.instantiable "FamilyKernel$Frames" 3 : Cond) ∈ vT := inR_3 _ (List.mem_of_getElem? (i := 14) rfl)
theorem vt_135 : (.initialized "FamilyKernel$Frames" : Cond) ∈ vT := inR_3 _ (List.mem_of_getElem? (i := 15) rfl)
theorem vt_136 : (.code ⟨"FamilyKernel$Frames", "<init>", "()V"⟩ prog_4_method_1_code 1 none : Cond) ∈ vT := inR_3 _ (List.mem_of_getElem? (i := 16) rfl)
theorem vt_137 : (.methodLink "FamilyKernel" 65 ⟨"FamilyKernel$Frames", "<init>", "()V"⟩ : Cond) ∈ vT := inR_3 _ (List.mem_of_getElem? (i := 17) rfl)
theorem vt_138 : (.instanceMethod ⟨"FamilyKernel$Frames", "<init>", "()V"⟩ : Cond) ∈ vT := inR_3 _ (List.mem_of_getElem? (i := 18) rfl)
theorem vt_139 : (.fieldLink "FamilyKernel" 66 "FamilyKernel" "frames" "LFamilyKernel$Frames;" : Cond) ∈ vT := inR_3 _ (List.mem_of_getElem? (i := 19) rfl)
theorem vt_140 : (.classLink "FamilyKernel" 70 "FamilyKernel$Reducer" : Cond) ∈ vT := inR_3 _ (List.mem_of_getElem? (i := 20) rfl)
theorem vt_141 : (.instantiable "FamilyKernel$Reducer" 5 : Cond) ∈ vT := inR_3 _ (List.mem_of_getElem? (i := 21) rfl)
theorem vt_142 : (.initialized "FamilyKernel$Reducer" : Cond) ∈ vT := inR_3 _ (List.mem_of_getElem? (i := 22) rfl)
theorem vt_143 : (.code ⟨"FamilyKernel$Reducer", "<init>", "(LFamilyKernel$Frames;LFamilyKernel$Meter;LFamilyKernel$Terms;LFamilyKernel$Environment;)V"⟩ prog_9_method_1_code 5 none : Cond) ∈ vT := inR_3 _ (List.mem_of_getElem? (i := 23) rfl)
theorem vt_144 : (.methodLink "FamilyKernel" 72 ⟨"FamilyKernel$Reducer", "<init>", "(LFamilyKernel$Frames;LFamilyKernel$Meter;LFamilyKernel$Terms;LFamilyKernel$Environment;)V"⟩ : Cond) ∈ vT := inR_3 _ (List.mem_of_getElem? (i := 24) rfl)
theorem vt_145 : (.instanceMethod ⟨"FamilyKernel$Reducer", "<init>", "(LFamilyKernel$Frames;LFamilyKernel$Meter;LFamilyKernel$Terms;LFamilyKernel$Environment;)V"⟩ : Cond) ∈ vT := inR_3 _ (List.mem_of_getElem? (i := 25) rfl)
theorem vt_146 : (.fieldLink "FamilyKernel" 75 "FamilyKernel" "reducer" "LFamilyKernel$Reducer;" : Cond) ∈ vT := inR_3 _ (List.mem_of_getElem? (i := 26) rfl)
theorem vt_147 : (.classLink "FamilyKernel" 79 "FamilyKernel$Typer" : Cond) ∈ vT := inR_3 _ (List.mem_of_getElem? (i := 27) rfl)
theorem vt_148 : (.instantiable "FamilyKernel$Typer" 4 : Cond) ∈ vT := inR_3 _ (List.mem_of_getElem? (i := 28) rfl)
theorem vt_149 : (.initialized "FamilyKernel$Typer" : Cond) ∈ vT := inR_3 _ (List.mem_of_getElem? (i := 29) rfl)
theorem vt_150 : (.code ⟨"FamilyKernel$Typer", "<init>", "(LFamilyKernel$Frames;LFamilyKernel$Meter;LFamilyKernel$Terms;LFamilyKernel$Environment;)V"⟩ prog_12_method_1_code 5 none : Cond) ∈ vT := inR_3 _ (List.mem_of_getElem? (i := 30) rfl)
theorem vt_151 : (.methodLink "FamilyKernel" 81 ⟨"FamilyKernel$Typer", "<init>", "(LFamilyKernel$Frames;LFamilyKernel$Meter;LFamilyKernel$Terms;LFamilyKernel$Environment;)V"⟩ : Cond) ∈ vT := inR_3 _ (List.mem_of_getElem? (i := 31) rfl)
theorem vt_152 : (.instanceMethod ⟨"FamilyKernel$Typer", "<init>", "(LFamilyKernel$Frames;LFamilyKernel$Meter;LFamilyKernel$Terms;LFamilyKernel$Environment;)V"⟩ : Cond) ∈ vT := inR_3 _ (List.mem_of_getElem? (i := 32) rfl)
theorem vt_153 : (.fieldLink "FamilyKernel" 82 "FamilyKernel" "typer" "LFamilyKernel$Typer;" : Cond) ∈ vT := inR_3 _ (List.mem_of_getElem? (i := 33) rfl)
theorem vt_154 : (.classLink "FamilyKernel" 86 "FamilyKernel$Families" : Cond) ∈ vT := inR_3 _ (List.mem_of_getElem? (i := 34) rfl)
theorem vt_155 : (.instantiable "FamilyKernel$Families" 18 : Cond) ∈ vT := inR_3 _ (List.mem_of_getElem? (i := 35) rfl)
theorem vt_156 : (.initialized "FamilyKernel$Families" : Cond) ∈ vT := inR_3 _ (List.mem_of_getElem? (i := 36) rfl)
theorem vt_157 : (.code ⟨"FamilyKernel$Families", "<init>", "(LFamilyKernel$Frames;LFamilyKernel$Meter;LFamilyKernel$Terms;LFamilyKernel$Environment;LFamilyKernel$Parser;)V"⟩ prog_3_method_1_code 6 none : Cond) ∈ vT := inR_3 _ (List.mem_of_getElem? (i := 37) rfl)
theorem vt_158 : (.methodLink "FamilyKernel" 88 ⟨"FamilyKernel$Families", "<init>", "(LFamilyKernel$Frames;LFamilyKernel$Meter;LFamilyKernel$Terms;LFamilyKernel$Environment;LFamilyKernel$Parser;)V"⟩ : Cond) ∈ vT := inR_3 _ (List.mem_of_getElem? (i := 38) rfl)
theorem vt_159 : (.instanceMethod ⟨"FamilyKernel$Families", "<init>", "(LFamilyKernel$Frames;LFamilyKernel$Meter;LFamilyKernel$Terms;LFamilyKernel$Environment;LFamilyKernel$Parser;)V"⟩ : Cond) ∈ vT := inR_3 _ (List.mem_of_getElem? (i := 39) rfl)
theorem vt_160 : (.fieldLink "FamilyKernel" 91 "FamilyKernel" "families" "LFamilyKernel$Families;" : Cond) ∈ vT := inR_4 _ (List.mem_of_getElem? (i := 0) rfl)
theorem vt_161 : (.classLink "FamilyKernel" 95 "FamilyKernel$Printer" : Cond) ∈ vT := inR_4 _ (List.mem_of_getElem? (i := 1) rfl)
theorem vt_162 : (.instantiable "FamilyKernel$Printer" 4 : Cond) ∈ vT := inR_4 _ (List.mem_of_getElem? (i := 2) rfl)
theorem vt_163 : (.initialized "FamilyKernel$Printer" : Cond) ∈ vT := inR_4 _ (List.mem_of_getElem? (i := 3) rfl)
theorem vt_164 : (.code ⟨"FamilyKernel$Printer", "<init>", "(LFamilyKernel$Row;LFamilyKernel$Terms;LFamilyKernel$Environment;)V"⟩ prog_8_method_1_code 4 none : Cond) ∈ vT := inR_4 _ (List.mem_of_getElem? (i := 4) rfl)
theorem vt_165 : (.methodLink "FamilyKernel" 97 ⟨"FamilyKernel$Printer", "<init>", "(LFamilyKernel$Row;LFamilyKernel$Terms;LFamilyKernel$Environment;)V"⟩ : Cond) ∈ vT := inR_4 _ (List.mem_of_getElem? (i := 5) rfl)
theorem vt_166 : (.instanceMethod ⟨"FamilyKernel$Printer", "<init>", "(LFamilyKernel$Row;LFamilyKernel$Terms;LFamilyKernel$Environment;)V"⟩ : Cond) ∈ vT := inR_4 _ (List.mem_of_getElem? (i := 6) rfl)
theorem vt_167 : (.fieldLink "FamilyKernel" 100 "FamilyKernel" "printer" "LFamilyKernel$Printer;" : Cond) ∈ vT := inR_4 _ (List.mem_of_getElem? (i := 7) rfl)
theorem vt_168 : (.methodLink "FamilyKernelModel" 7 ⟨"java/lang/Object", "<init>", "()V"⟩ : Cond) ∈ vT := inR_4 _ (List.mem_of_getElem? (i := 8) rfl)
theorem vt_169 : (.constant "FamilyKernelModel" 12 65536 : Cond) ∈ vT := inR_4 _ (List.mem_of_getElem? (i := 9) rfl)
theorem vt_170 : (.arrayClass .byte : Cond) ∈ vT := inR_4 _ (List.mem_of_getElem? (i := 10) rfl)
theorem vt_171 : (.fieldLink "FamilyKernelModel" 13 "FamilyKernelModel" "tape" "[B" : Cond) ∈ vT := inR_4 _ (List.mem_of_getElem? (i := 11) rfl)
theorem vt_172 : (.fieldLink "FamilyKernelModel" 19 "FamilyKernelModel" "out" "[B" : Cond) ∈ vT := inR_4 _ (List.mem_of_getElem? (i := 12) rfl)
theorem vt_173 : (.fieldLink "FamilyKernelModel" 22 "FamilyKernelModel" "size" "I" : Cond) ∈ vT := inR_4 _ (List.mem_of_getElem? (i := 13) rfl)
theorem vt_174 : (.fieldLink "FamilyKernelModel" 26 "FamilyKernelModel" "outSize" "I" : Cond) ∈ vT := inR_4 _ (List.mem_of_getElem? (i := 14) rfl)
theorem vt_175 : (.fieldLink "FamilyKernelModel" 29 "FamilyKernelModel" "thrown" "I" : Cond) ∈ vT := inR_4 _ (List.mem_of_getElem? (i := 15) rfl)
theorem vt_176 : (.fieldLink "FamilyKernelModel" 32 "FamilyKernelModel" "faultKind" "I" : Cond) ∈ vT := inR_4 _ (List.mem_of_getElem? (i := 16) rfl)
theorem vt_177 : (.fieldLink "FamilyKernelModel" 35 "FamilyKernelModel" "faultPlace" "I" : Cond) ∈ vT := inR_4 _ (List.mem_of_getElem? (i := 17) rfl)
theorem vt_178 : (.fieldLink "FamilyKernelModel" 38 "FamilyKernelModel" "pos" "I" : Cond) ∈ vT := inR_4 _ (List.mem_of_getElem? (i := 18) rfl)
theorem vt_179 : (.fieldLink "FamilyKernelModel" 41 "FamilyKernelModel" "token" "I" : Cond) ∈ vT := inR_4 _ (List.mem_of_getElem? (i := 19) rfl)
theorem vt_180 : (.fieldLink "FamilyKernelModel" 44 "FamilyKernelModel" "tokenAt" "I" : Cond) ∈ vT := inR_4 _ (List.mem_of_getElem? (i := 20) rfl)
theorem vt_181 : (.fieldLink "FamilyKernelModel" 47 "FamilyKernelModel" "tokenEnd" "I" : Cond) ∈ vT := inR_4 _ (List.mem_of_getElem? (i := 21) rfl)
theorem vt_182 : (.fieldLink "FamilyKernelModel" 50 "FamilyKernelModel" "seen" "Z" : Cond) ∈ vT := inR_4 _ (List.mem_of_getElem? (i := 22) rfl)
theorem vt_183 : (.constant "FamilyKernelModel" 54 400000 : Cond) ∈ vT := inR_4 _ (List.mem_of_getElem? (i := 23) rfl)
theorem vt_184 : (.fieldLink "FamilyKernelModel" 55 "FamilyKernelModel" "kind" "[B" : Cond) ∈ vT := inR_4 _ (List.mem_of_getElem? (i := 24) rfl)
theorem vt_185 : (.fieldLink "FamilyKernelModel" 58 "FamilyKernelModel" "one" "[I" : Cond) ∈ vT := inR_4 _ (List.mem_of_getElem? (i := 25) rfl)
theorem vt_186 : (.fieldLink "FamilyKernelModel" 62 "FamilyKernelModel" "two" "[I" : Cond) ∈ vT := inR_4 _ (List.mem_of_getElem? (i := 26) rfl)
theorem vt_187 : (.fieldLink "FamilyKernelModel" 65 "FamilyKernelModel" "three" "[I" : Cond) ∈ vT := inR_4 _ (List.mem_of_getElem? (i := 27) rfl)
theorem vt_188 : (.fieldLink "FamilyKernelModel" 68 "FamilyKernelModel" "big" "[I" : Cond) ∈ vT := inR_4 _ (List.mem_of_getElem? (i := 28) rfl)
theorem vt_189 : (.fieldLink "FamilyKernelModel" 71 "FamilyKernelModel" "deep" "[I" : Cond) ∈ vT := inR_4 _ (List.mem_of_getElem? (i := 29) rfl)
theorem vt_190 : (.fieldLink "FamilyKernelModel" 74 "FamilyKernelModel" "top" "I" : Cond) ∈ vT := inR_4 _ (List.mem_of_getElem? (i := 30) rfl)
theorem vt_191 : (.fieldLink "FamilyKernelModel" 77 "FamilyKernelModel" "spine" "[I" : Cond) ∈ vT := inR_4 _ (List.mem_of_getElem? (i := 31) rfl)
theorem vt_192 : (.fieldLink "FamilyKernelModel" 80 "FamilyKernelModel" "spineTop" "I" : Cond) ∈ vT := inR_4 _ (List.mem_of_getElem? (i := 32) rfl)
theorem vt_193 : (.fieldLink "FamilyKernelModel" 83 "FamilyKernelModel" "mapHow" "I" : Cond) ∈ vT := inR_4 _ (List.mem_of_getElem? (i := 33) rfl)
theorem vt_194 : (.fieldLink "FamilyKernelModel" 86 "FamilyKernelModel" "mapWhat" "I" : Cond) ∈ vT := inR_4 _ (List.mem_of_getElem? (i := 34) rfl)
theorem vt_195 : (.fieldLink "FamilyKernelModel" 89 "FamilyKernelModel" "mapTo" "I" : Cond) ∈ vT := inR_4 _ (List.mem_of_getElem? (i := 35) rfl)
theorem vt_196 : (.fieldLink "FamilyKernelModel" 92 "FamilyKernelModel" "words" "[B" : Cond) ∈ vT := inR_4 _ (List.mem_of_getElem? (i := 36) rfl)
theorem vt_197 : (.fieldLink "FamilyKernelModel" 95 "FamilyKernelModel" "wordAt" "[I" : Cond) ∈ vT := inR_4 _ (List.mem_of_getElem? (i := 37) rfl)
theorem vt_198 : (.fieldLink "FamilyKernelModel" 98 "FamilyKernelModel" "wordSize" "[I" : Cond) ∈ vT := inR_4 _ (List.mem_of_getElem? (i := 38) rfl)
theorem vt_199 : (.fieldLink "FamilyKernelModel" 101 "FamilyKernelModel" "wordsUsed" "I" : Cond) ∈ vT := inR_4 _ (List.mem_of_getElem? (i := 39) rfl)
theorem vt_200 : (.fieldLink "FamilyKernelModel" 104 "FamilyKernelModel" "constants" "I" : Cond) ∈ vT := inR_5 _ (List.mem_of_getElem? (i := 0) rfl)
theorem vt_201 : (.fieldLink "FamilyKernelModel" 107 "FamilyKernelModel" "sortOf" "[I" : Cond) ∈ vT := inR_5 _ (List.mem_of_getElem? (i := 1) rfl)
theorem vt_202 : (.fieldLink "FamilyKernelModel" 110 "FamilyKernelModel" "typeOf" "[I" : Cond) ∈ vT := inR_5 _ (List.mem_of_getElem? (i := 2) rfl)
theorem vt_203 : (.fieldLink "FamilyKernelModel" 113 "FamilyKernelModel" "valueOf" "[I" : Cond) ∈ vT := inR_5 _ (List.mem_of_getElem? (i := 3) rfl)
theorem vt_204 : (.fieldLink "FamilyKernelModel" 116 "FamilyKernelModel" "parameters" "[I" : Cond) ∈ vT := inR_5 _ (List.mem_of_getElem? (i := 4) rfl)
theorem vt_205 : (.fieldLink "FamilyKernelModel" 119 "FamilyKernelModel" "indices" "[I" : Cond) ∈ vT := inR_5 _ (List.mem_of_getElem? (i := 5) rfl)
theorem vt_206 : (.fieldLink "FamilyKernelModel" 122 "FamilyKernelModel" "constructors" "[I" : Cond) ∈ vT := inR_5 _ (List.mem_of_getElem? (i := 6) rfl)
theorem vt_207 : (.fieldLink "FamilyKernelModel" 125 "FamilyKernelModel" "arguments" "[I" : Cond) ∈ vT := inR_5 _ (List.mem_of_getElem? (i := 7) rfl)
theorem vt_208 : (.fieldLink "FamilyKernelModel" 128 "FamilyKernelModel" "recursive" "[I" : Cond) ∈ vT := inR_5 _ (List.mem_of_getElem? (i := 8) rfl)
theorem vt_209 : (.fieldLink "FamilyKernelModel" 131 "FamilyKernelModel" "level" "[I" : Cond) ∈ vT := inR_5 _ (List.mem_of_getElem? (i := 9) rfl)
theorem vt_210 : (.fieldLink "FamilyKernelModel" 134 "FamilyKernelModel" "recType" "[I" : Cond) ∈ vT := inR_5 _ (List.mem_of_getElem? (i := 10) rfl)
theorem vt_211 : (.fieldLink "FamilyKernelModel" 137 "FamilyKernelModel" "rule" "[I" : Cond) ∈ vT := inR_5 _ (List.mem_of_getElem? (i := 11) rfl)
theorem vt_212 : (.fieldLink "FamilyKernelModel" 140 "FamilyKernelModel" "family" "[I" : Cond) ∈ vT := inR_5 _ (List.mem_of_getElem? (i := 12) rfl)
theorem vt_213 : (.arrayClass .boolean : Cond) ∈ vT := inR_5 _ (List.mem_of_getElem? (i := 13) rfl)
theorem vt_214 : (.fieldLink "FamilyKernelModel" 143 "FamilyKernelModel" "large" "[Z" : Cond) ∈ vT := inR_5 _ (List.mem_of_getElem? (i := 14) rfl)
theorem vt_215 : (.fieldLink "FamilyKernelModel" 147 "FamilyKernelModel" "kept" "I" : Cond) ∈ vT := inR_5 _ (List.mem_of_getElem? (i := 15) rfl)
theorem vt_216 : (.fieldLink "FamilyKernelModel" 150 "FamilyKernelModel" "sizes" "I" : Cond) ∈ vT := inR_5 _ (List.mem_of_getElem? (i := 16) rfl)
theorem vt_217 : (.fieldLink "FamilyKernelModel" 153 "FamilyKernelModel" "scopeAt" "[I" : Cond) ∈ vT := inR_5 _ (List.mem_of_getElem? (i := 17) rfl)
theorem vt_218 : (.fieldLink "FamilyKernelModel" 156 "FamilyKernelModel" "scopeSize" "[I" : Cond) ∈ vT := inR_5 _ (List.mem_of_getElem? (i := 18) rfl)
theorem vt_219 : (.fieldLink "FamilyKernelModel" 159 "FamilyKernelModel" "scopes" "I" : Cond) ∈ vT := inR_5 _ (List.mem_of_getElem? (i := 19) rfl)
theorem vt_220 : (.fieldLink "FamilyKernelModel" 162 "FamilyKernelModel" "typeStack" "[I" : Cond) ∈ vT := inR_5 _ (List.mem_of_getElem? (i := 20) rfl)
theorem vt_221 : (.fieldLink "FamilyKernelModel" 165 "FamilyKernelModel" "pendingAt" "[I" : Cond) ∈ vT := inR_5 _ (List.mem_of_getElem? (i := 21) rfl)
theorem vt_222 : (.fieldLink "FamilyKernelModel" 168 "FamilyKernelModel" "pendingSize" "[I" : Cond) ∈ vT := inR_5 _ (List.mem_of_getElem? (i := 22) rfl)
theorem vt_223 : (.fieldLink "FamilyKernelModel" 171 "FamilyKernelModel" "heldAt" "[I" : Cond) ∈ vT := inR_5 _ (List.mem_of_getElem? (i := 23) rfl)
theorem vt_224 : (.fieldLink "FamilyKernelModel" 174 "FamilyKernelModel" "heldSize" "[I" : Cond) ∈ vT := inR_5 _ (List.mem_of_getElem? (i := 24) rfl)
theorem vt_225 : (.fieldLink "FamilyKernelModel" 177 "FamilyKernelModel" "pendingHeld" "I" : Cond) ∈ vT := inR_5 _ (List.mem_of_getElem? (i := 25) rfl)
theorem vt_226 : (.fieldLink "FamilyKernelModel" 180 "FamilyKernelModel" "copies" "I" : Cond) ∈ vT := inR_5 _ (List.mem_of_getElem? (i := 26) rfl)
theorem vt_227 : (.fieldLink "FamilyKernelModel" 183 "FamilyKernelModel" "work" "I" : Cond) ∈ vT := inR_5 _ (List.mem_of_getElem? (i := 27) rfl)
theorem vt_228 : (.fieldLink "FamilyKernelModel" 186 "FamilyKernelModel" "variables" "I" : Cond) ∈ vT := inR_5 _ (List.mem_of_getElem? (i := 28) rfl)
theorem vt_229 : (.constant "FamilyKernelModel" 189 66000 : Cond) ∈ vT := inR_5 _ (List.mem_of_getElem? (i := 29) rfl)
theorem vt_230 : (.fieldLink "FamilyKernelModel" 190 "FamilyKernelModel" "typeOfVariable" "[I" : Cond) ∈ vT := inR_5 _ (List.mem_of_getElem? (i := 30) rfl)
theorem vt_231 : (.fieldLink "FamilyKernelModel" 193 "FamilyKernelModel" "majors" "I" : Cond) ∈ vT := inR_5 _ (List.mem_of_getElem? (i := 31) rfl)
theorem vt_232 : (.fieldLink "FamilyKernelModel" 196 "FamilyKernelModel" "declarationAt" "I" : Cond) ∈ vT := inR_5 _ (List.mem_of_getElem? (i := 32) rfl)
theorem vt_233 : (.fieldLink "FamilyKernelModel" 199 "FamilyKernelModel" "accepted" "I" : Cond) ∈ vT := inR_5 _ (List.mem_of_getElem? (i := 33) rfl)
theorem vt_234 : (.fieldLink "FamilyKernelModel" 202 "FamilyKernelModel" "lastWork" "I" : Cond) ∈ vT := inR_5 _ (List.mem_of_getElem? (i := 34) rfl)
theorem vt_235 : (.fieldLink "FamilyKernelModel" 205 "FamilyKernelModel" "known" "I" : Cond) ∈ vT := inR_5 _ (List.mem_of_getElem? (i := 35) rfl)
theorem vt_236 : (.fieldLink "FamilyKernelModel" 208 "FamilyKernelModel" "are" "[I" : Cond) ∈ vT := inR_5 _ (List.mem_of_getElem? (i := 36) rfl)
theorem vt_237 : (.fieldLink "FamilyKernelModel" 211 "FamilyKernelModel" "texts" "[I" : Cond) ∈ vT := inR_5 _ (List.mem_of_getElem? (i := 37) rfl)
theorem vt_238 : (.fieldLink "FamilyKernelModel" 214 "FamilyKernelModel" "wholes" "[I" : Cond) ∈ vT := inR_5 _ (List.mem_of_getElem? (i := 38) rfl)
theorem vt_239 : (.fieldLink "FamilyKernelModel" 217 "FamilyKernelModel" "firstArgument" "[I" : Cond) ∈ vT := inR_5 _ (List.mem_of_getElem? (i := 39) rfl)
theorem vt_240 : (.fieldLink "FamilyKernelModel" 220 "FamilyKernelModel" "endAt" "[I" : Cond) ∈ vT := inR_6 _ (List.mem_of_getElem? (i := 0) rfl)
theorem vt_241 : (.fieldLink "FamilyKernelModel" 223 "FamilyKernelModel" "argument" "[I" : Cond) ∈ vT := inR_6 _ (List.mem_of_getElem? (i := 1) rfl)
theorem vt_242 : (.fieldLink "FamilyKernelModel" 226 "FamilyKernelModel" "isRecursive" "[Z" : Cond) ∈ vT := inR_6 _ (List.mem_of_getElem? (i := 2) rfl)
theorem vt_243 : (.fieldLink "FamilyKernelModel" 229 "FamilyKernelModel" "isProof" "[Z" : Cond) ∈ vT := inR_6 _ (List.mem_of_getElem? (i := 3) rfl)
theorem vt_244 : (.fieldLink "FamilyKernelModel" 232 "FamilyKernelModel" "argumentCount" "I" : Cond) ∈ vT := inR_6 _ (List.mem_of_getElem? (i := 4) rfl)
theorem vt_245 : (.fieldLink "FamilyKernelModel" 235 "FamilyKernelModel" "list" "[I" : Cond) ∈ vT := inR_6 _ (List.mem_of_getElem? (i := 5) rfl)
theorem vt_246 : (.fieldLink "FamilyKernelModel" 238 "FamilyKernelModel" "listed" "I" : Cond) ∈ vT := inR_6 _ (List.mem_of_getElem? (i := 6) rfl)
theorem vt_247 : (.fieldLink "FamilyKernelModel" 241 "FamilyKernelModel" "minors" "[I" : Cond) ∈ vT := inR_6 _ (List.mem_of_getElem? (i := 7) rfl)
theorem vt_248 : (.fieldLink "FamilyKernelModel" 244 "FamilyKernelModel" "openCost" "[I" : Cond) ∈ vT := inR_6 _ (List.mem_of_getElem? (i := 8) rfl)
theorem vt_249 : (.fieldLink "FamilyKernelModel" 247 "FamilyKernelModel" "xs" "I" : Cond) ∈ vT := inR_6 _ (List.mem_of_getElem? (i := 9) rfl)
theorem vt_250 : (.fieldLink "FamilyKernel$Meter" 9 "FamilyKernel$Meter" "code" "I" : Cond) ∈ vT := inR_6 _ (List.mem_of_getElem? (i := 10) rfl)
theorem vt_251 : (.fieldLink "FamilyKernel$Meter" 15 "FamilyKernel$Meter" "place" "I" : Cond) ∈ vT := inR_6 _ (List.mem_of_getElem? (i := 11) rfl)
theorem vt_252 : (.methodLink "FamilyKernel$Environment" 24 ⟨"FamilyKernel$Row", "size", "()I"⟩ : Cond) ∈ vT := inR_6 _ (List.mem_of_getElem? (i := 12) rfl)
theorem vt_253 : (.instanceMethod ⟨"FamilyKernel$Row", "size", "()I"⟩ : Cond) ∈ vT := inR_6 _ (List.mem_of_getElem? (i := 13) rfl)
theorem vt_254 : (.selects "FamilyKernel$Row" ⟨"FamilyKernel$Row", "size", "()I"⟩ ⟨"FamilyKernel$Row", "size", "()I"⟩ : Cond) ∈ vT := inR_6 _ (List.mem_of_getElem? (i := 14) rfl)
theorem vt_255 : (.code ⟨"FamilyKernel$Row", "size", "()I"⟩ prog_10_method_2_code 1 (some .int) : Cond) ∈ vT := inR_6 _ (List.mem_of_getElem? (i := 15) rfl)
theorem vt_256 : (.fieldLink "FamilyKernel$Environment" 28 "FamilyKernel$Environment" "sizes" "I" : Cond) ∈ vT := inR_6 _ (List.mem_of_getElem? (i := 16) rfl)
theorem vt_257 : (.methodLink "FamilyKernel$Environment" 43 ⟨"FamilyKernel$Environment", "length", "()I"⟩ : Cond) ∈ vT := inR_6 _ (List.mem_of_getElem? (i := 17) rfl)
theorem vt_258 : (.instanceMethod ⟨"FamilyKernel$Environment", "length", "()I"⟩ : Cond) ∈ vT := inR_6 _ (List.mem_of_getElem? (i := 18) rfl)
theorem vt_259 : (.selects "FamilyKernel$Environment" ⟨"FamilyKernel$Environment", "length", "()I"⟩ ⟨"FamilyKernel$Environment", "length", "()I"⟩ : Cond) ∈ vT := inR_6 _ (List.mem_of_getElem? (i := 19) rfl)
theorem vt_260 : (.code ⟨"FamilyKernel$Environment", "length", "()I"⟩ prog_2_method_2_code 1 (some .int) : Cond) ∈ vT := inR_6 _ (List.mem_of_getElem? (i := 20) rfl)
theorem vt_261 : (.methodLink "FamilyKernel$Environment" 32 ⟨"FamilyKernel$Environment", "cut", "(I)V"⟩ : Cond) ∈ vT := inR_6 _ (List.mem_of_getElem? (i := 21) rfl)
theorem vt_262 : (.instanceMethod ⟨"FamilyKernel$Environment", "cut", "(I)V"⟩ : Cond) ∈ vT := inR_6 _ (List.mem_of_getElem? (i := 22) rfl)
theorem vt_263 : (.selects "FamilyKernel$Environment" ⟨"FamilyKernel$Environment", "cut", "(I)V"⟩ ⟨"FamilyKernel$Environment", "cut", "(I)V"⟩ : Cond) ∈ vT := inR_6 _ (List.mem_of_getElem? (i := 23) rfl)
theorem vt_264 : (.code ⟨"FamilyKernel$Environment", "cut", "(I)V"⟩ prog_2_method_9_code 2 none : Cond) ∈ vT := inR_6 _ (List.mem_of_getElem? (i := 24) rfl)
theorem vt_265 : (.fieldLink "FamilyKernel$Terms" 48 "FamilyKernel$Terms" "length" "I" : Cond) ∈ vT := inR_6 _ (List.mem_of_getElem? (i := 25) rfl)
theorem vt_266 : (.fieldLink "FamilyKernel$Lexer" 32 "FamilyKernel$Lexer" "kind" "I" : Cond) ∈ vT := inR_6 _ (List.mem_of_getElem? (i := 26) rfl)
theorem vt_267 : (.fieldLink "FamilyKernel$Lexer" 28 "FamilyKernel$Lexer" "place" "I" : Cond) ∈ vT := inR_6 _ (List.mem_of_getElem? (i := 27) rfl)
theorem vt_268 : (.methodLink "FamilyKernel$Lexer" 73 ⟨"FamilyKernel$Row", "size", "()I"⟩ : Cond) ∈ vT := inR_6 _ (List.mem_of_getElem? (i := 28) rfl)
theorem vt_269 : (.methodLink "FamilyKernel$Lexer" 70 ⟨"FamilyKernel$Lexer", "skip", "()V"⟩ : Cond) ∈ vT := inR_6 _ (List.mem_of_getElem? (i := 29) rfl)
theorem vt_270 : (.instanceMethod ⟨"FamilyKernel$Lexer", "skip", "()V"⟩ : Cond) ∈ vT := inR_6 _ (List.mem_of_getElem? (i := 30) rfl)
theorem vt_271 : (.selects "FamilyKernel$Lexer" ⟨"FamilyKernel$Lexer", "skip", "()V"⟩ ⟨"FamilyKernel$Lexer", "skip", "()V"⟩ : Cond) ∈ vT := inR_6 _ (List.mem_of_getElem? (i := 31) rfl)
theorem vt_272 : (.code ⟨"FamilyKernel$Lexer", "skip", "()V"⟩ prog_5_method_15_code 3 none : Cond) ∈ vT := inR_6 _ (List.mem_of_getElem? (i := 32) rfl)
theorem vt_273 : (.fieldLink "FamilyKernel$Lexer" 39 "FamilyKernel$Lexer" "start" "I" : Cond) ∈ vT := inR_6 _ (List.mem_of_getElem? (i := 33) rfl)
theorem vt_274 : (.fieldLink "FamilyKernel$Lexer" 42 "FamilyKernel$Lexer" "length" "I" : Cond) ∈ vT := inR_6 _ (List.mem_of_getElem? (i := 34) rfl)
theorem vt_275 : (.methodLink "FamilyKernel$Lexer" 58 ⟨"FamilyKernel$Row", "at", "(I)I"⟩ : Cond) ∈ vT := inR_6 _ (List.mem_of_getElem? (i := 35) rfl)
theorem vt_276 : (.instanceMethod ⟨"FamilyKernel$Row", "at", "(I)I"⟩ : Cond) ∈ vT := inR_6 _ (List.mem_of_getElem? (i := 36) rfl)
theorem vt_277 : (.selects "FamilyKernel$Row" ⟨"FamilyKernel$Row", "at", "(I)I"⟩ ⟨"FamilyKernel$Row", "at", "(I)I"⟩ : Cond) ∈ vT := inR_6 _ (List.mem_of_getElem? (i := 37) rfl)
theorem vt_278 : (.code ⟨"FamilyKernel$Row", "at", "(I)I"⟩ prog_10_method_3_code 2 (some .int) : Cond) ∈ vT := inR_6 _ (List.mem_of_getElem? (i := 38) rfl)
theorem vt_279 : (.fieldLink "FamilyKernel$Lexer" 52 "FamilyKernel$Lexer" "at" "I" : Cond) ∈ vT := inR_6 _ (List.mem_of_getElem? (i := 39) rfl)
theorem vt_280 : (.methodLink "FamilyKernel$Lexer" 24 ⟨"FamilyKernel$Row", "cut", "(I)V"⟩ : Cond) ∈ vT := inR_7 _ (List.mem_of_getElem? (i := 0) rfl)
theorem vt_281 : (.instanceMethod ⟨"FamilyKernel$Row", "cut", "(I)V"⟩ : Cond) ∈ vT := inR_7 _ (List.mem_of_getElem? (i := 1) rfl)
theorem vt_282 : (.selects "FamilyKernel$Row" ⟨"FamilyKernel$Row", "cut", "(I)V"⟩ ⟨"FamilyKernel$Row", "cut", "(I)V"⟩ : Cond) ∈ vT := inR_7 _ (List.mem_of_getElem? (i := 2) rfl)
theorem vt_283 : (.code ⟨"FamilyKernel$Row", "cut", "(I)V"⟩ prog_10_method_7_code 2 none : Cond) ∈ vT := inR_7 _ (List.mem_of_getElem? (i := 3) rfl)
theorem vt_284 : (.constant "FamilyKernel$Lexer" 35 65536 : Cond) ∈ vT := inR_7 _ (List.mem_of_getElem? (i := 4) rfl)
theorem vt_285 : (.methodLink "FamilyKernel$Lexer" 36 ⟨"FamilyKernel$Lexer", "scan", "()V"⟩ : Cond) ∈ vT := inR_7 _ (List.mem_of_getElem? (i := 5) rfl)
theorem vt_286 : (.instanceMethod ⟨"FamilyKernel$Lexer", "scan", "()V"⟩ : Cond) ∈ vT := inR_7 _ (List.mem_of_getElem? (i := 6) rfl)
theorem vt_287 : (.selects "FamilyKernel$Lexer" ⟨"FamilyKernel$Lexer", "scan", "()V"⟩ ⟨"FamilyKernel$Lexer", "scan", "()V"⟩ : Cond) ∈ vT := inR_7 _ (List.mem_of_getElem? (i := 7) rfl)
theorem vt_288 : (.code ⟨"FamilyKernel$Lexer", "scan", "()V"⟩ prog_5_method_14_code 2 none : Cond) ∈ vT := inR_7 _ (List.mem_of_getElem? (i := 8) rfl)
theorem vt_289 : (.methodLink "FamilyKernel$Lexer" 45 ⟨"FamilyKernel$Lexer", "named", "(II)I"⟩ : Cond) ∈ vT := inR_7 _ (List.mem_of_getElem? (i := 9) rfl)
theorem vt_290 : (.static ⟨"FamilyKernel$Lexer", "named", "(II)I"⟩ : Cond) ∈ vT := inR_7 _ (List.mem_of_getElem? (i := 10) rfl)
theorem vt_291 : (.code ⟨"FamilyKernel$Lexer", "named", "(II)I"⟩ prog_5_method_7_code 2 (some .int) : Cond) ∈ vT := inR_7 _ (List.mem_of_getElem? (i := 11) rfl)
theorem vt_292 : (.methodLink "FamilyKernel$Lexer" 49 ⟨"FamilyKernel$Row", "push", "(I)V"⟩ : Cond) ∈ vT := inR_7 _ (List.mem_of_getElem? (i := 12) rfl)
theorem vt_293 : (.instanceMethod ⟨"FamilyKernel$Row", "push", "(I)V"⟩ : Cond) ∈ vT := inR_7 _ (List.mem_of_getElem? (i := 13) rfl)
theorem vt_294 : (.selects "FamilyKernel$Row" ⟨"FamilyKernel$Row", "push", "(I)V"⟩ ⟨"FamilyKernel$Row", "push", "(I)V"⟩ : Cond) ∈ vT := inR_7 _ (List.mem_of_getElem? (i := 14) rfl)
theorem vt_295 : (.code ⟨"FamilyKernel$Row", "push", "(I)V"⟩ prog_10_method_5_code 2 none : Cond) ∈ vT := inR_7 _ (List.mem_of_getElem? (i := 15) rfl)
theorem vt_296 : (.methodLink "FamilyKernel$Lexer" 55 ⟨"FamilyKernel$Lexer", "advance", "()V"⟩ : Cond) ∈ vT := inR_7 _ (List.mem_of_getElem? (i := 16) rfl)
theorem vt_297 : (.instanceMethod ⟨"FamilyKernel$Lexer", "advance", "()V"⟩ : Cond) ∈ vT := inR_7 _ (List.mem_of_getElem? (i := 17) rfl)
theorem vt_298 : (.selects "FamilyKernel$Lexer" ⟨"FamilyKernel$Lexer", "advance", "()V"⟩ ⟨"FamilyKernel$Lexer", "advance", "()V"⟩ : Cond) ∈ vT := inR_7 _ (List.mem_of_getElem? (i := 18) rfl)
theorem vt_299 : (.code ⟨"FamilyKernel$Lexer", "advance", "()V"⟩ prog_5_method_3_code 2 none : Cond) ∈ vT := inR_7 _ (List.mem_of_getElem? (i := 19) rfl)
theorem vt_300 : (.methodLink "FamilyKernel" 124 ⟨"FamilyKernel$Meter", "forget", "()V"⟩ : Cond) ∈ vT := inR_7 _ (List.mem_of_getElem? (i := 20) rfl)
theorem vt_301 : (.instanceMethod ⟨"FamilyKernel$Meter", "forget", "()V"⟩ : Cond) ∈ vT := inR_7 _ (List.mem_of_getElem? (i := 21) rfl)
theorem vt_302 : (.selects "FamilyKernel$Meter" ⟨"FamilyKernel$Meter", "forget", "()V"⟩ ⟨"FamilyKernel$Meter", "forget", "()V"⟩ : Cond) ∈ vT := inR_7 _ (List.mem_of_getElem? (i := 22) rfl)
theorem vt_303 : (.code ⟨"FamilyKernel$Meter", "forget", "()V"⟩ prog_6_method_2_code 1 none : Cond) ∈ vT := inR_7 _ (List.mem_of_getElem? (i := 23) rfl)
theorem vt_304 : (.methodLink "FamilyKernel" 127 ⟨"FamilyKernel$Lexer", "begin", "()V"⟩ : Cond) ∈ vT := inR_7 _ (List.mem_of_getElem? (i := 24) rfl)
theorem vt_305 : (.instanceMethod ⟨"FamilyKernel$Lexer", "begin", "()V"⟩ : Cond) ∈ vT := inR_7 _ (List.mem_of_getElem? (i := 25) rfl)
theorem vt_306 : (.selects "FamilyKernel$Lexer" ⟨"FamilyKernel$Lexer", "begin", "()V"⟩ ⟨"FamilyKernel$Lexer", "begin", "()V"⟩ : Cond) ∈ vT := inR_7 _ (List.mem_of_getElem? (i := 26) rfl)
theorem vt_307 : (.code ⟨"FamilyKernel$Lexer", "begin", "()V"⟩ prog_5_method_2_code 2 none : Cond) ∈ vT := inR_7 _ (List.mem_of_getElem? (i := 27) rfl)
theorem vt_308 : (.methodLink "FamilyKernel" 130 ⟨"FamilyKernel$Lexer", "kind", "()I"⟩ : Cond) ∈ vT := inR_7 _ (List.mem_of_getElem? (i := 28) rfl)
theorem vt_309 : (.instanceMethod ⟨"FamilyKernel$Lexer", "kind", "()I"⟩ : Cond) ∈ vT := inR_7 _ (List.mem_of_getElem? (i := 29) rfl)
theorem vt_310 : (.selects "FamilyKernel$Lexer" ⟨"FamilyKernel$Lexer", "kind", "()I"⟩ ⟨"FamilyKernel$Lexer", "kind", "()I"⟩ : Cond) ∈ vT := inR_7 _ (List.mem_of_getElem? (i := 30) rfl)
theorem vt_311 : (.code ⟨"FamilyKernel$Lexer", "kind", "()I"⟩ prog_5_method_4_code 1 (some .int) : Cond) ∈ vT := inR_7 _ (List.mem_of_getElem? (i := 31) rfl)
theorem vt_312 : (.methodLink "FamilyKernel" 121 ⟨"FamilyKernel$Row", "cut", "(I)V"⟩ : Cond) ∈ vT := inR_7 _ (List.mem_of_getElem? (i := 32) rfl)
theorem vt_313 : (.methodLink "FamilyKernel" 115 ⟨"FamilyKernel$Row", "push", "(I)V"⟩ : Cond) ∈ vT := inR_7 _ (List.mem_of_getElem? (i := 33) rfl)
theorem vt_314 : (.methodLink "FamilyKernel" 104 ⟨"FamilyKernel$Row", "size", "()I"⟩ : Cond) ∈ vT := inR_7 _ (List.mem_of_getElem? (i := 34) rfl)
theorem vt_315 : (.methodLink "FamilyKernel" 111 ⟨"FamilyKernel", "takeBytes", "(I)V"⟩ : Cond) ∈ vT := inR_7 _ (List.mem_of_getElem? (i := 35) rfl)
theorem vt_316 : (.instanceMethod ⟨"FamilyKernel", "takeBytes", "(I)V"⟩ : Cond) ∈ vT := inR_7 _ (List.mem_of_getElem? (i := 36) rfl)
theorem vt_317 : (.selects "FamilyKernel" ⟨"FamilyKernel", "takeBytes", "(I)V"⟩ ⟨"FamilyKernel", "takeBytes", "(I)V"⟩ : Cond) ∈ vT := inR_7 _ (List.mem_of_getElem? (i := 37) rfl)
theorem vt_318 : (.initialized "FamilyKernel" : Cond) ∈ vT := inR_7 _ (List.mem_of_getElem? (i := 38) rfl)
theorem vt_319 : (.code ⟨"FamilyKernel", "takeBytes", "(I)V"⟩ prog_1_method_3_code 3 none : Cond) ∈ vT := inR_7 _ (List.mem_of_getElem? (i := 39) rfl)
theorem vt_320 : (.methodLink "FamilyKernel" 327 ⟨"FamilyKernel$Meter", "code", "()I"⟩ : Cond) ∈ vT := inR_8 _ (List.mem_of_getElem? (i := 0) rfl)
theorem vt_321 : (.instanceMethod ⟨"FamilyKernel$Meter", "code", "()I"⟩ : Cond) ∈ vT := inR_8 _ (List.mem_of_getElem? (i := 1) rfl)
theorem vt_322 : (.selects "FamilyKernel$Meter" ⟨"FamilyKernel$Meter", "code", "()I"⟩ ⟨"FamilyKernel$Meter", "code", "()I"⟩ : Cond) ∈ vT := inR_8 _ (List.mem_of_getElem? (i := 2) rfl)
theorem vt_323 : (.code ⟨"FamilyKernel$Meter", "code", "()I"⟩ prog_6_method_5_code 1 (some .int) : Cond) ∈ vT := inR_8 _ (List.mem_of_getElem? (i := 3) rfl)
theorem vt_324 : (.methodLink "FamilyKernel" 330 ⟨"FamilyKernel$Meter", "place", "()I"⟩ : Cond) ∈ vT := inR_8 _ (List.mem_of_getElem? (i := 4) rfl)
theorem vt_325 : (.instanceMethod ⟨"FamilyKernel$Meter", "place", "()I"⟩ : Cond) ∈ vT := inR_8 _ (List.mem_of_getElem? (i := 5) rfl)
theorem vt_326 : (.selects "FamilyKernel$Meter" ⟨"FamilyKernel$Meter", "place", "()I"⟩ ⟨"FamilyKernel$Meter", "place", "()I"⟩ : Cond) ∈ vT := inR_8 _ (List.mem_of_getElem? (i := 6) rfl)
theorem vt_327 : (.code ⟨"FamilyKernel$Meter", "place", "()I"⟩ prog_6_method_6_code 1 (some .int) : Cond) ∈ vT := inR_8 _ (List.mem_of_getElem? (i := 7) rfl)
theorem vt_328 : (.methodLink "FamilyKernel" 133 ⟨"FamilyKernel$Environment", "length", "()I"⟩ : Cond) ∈ vT := inR_8 _ (List.mem_of_getElem? (i := 8) rfl)
theorem vt_329 : (.fieldLink "FamilyKernel" 161 "FamilyKernel" "declared" "I" : Cond) ∈ vT := inR_8 _ (List.mem_of_getElem? (i := 9) rfl)
theorem vt_330 : (.fieldLink "FamilyKernel" 167 "FamilyKernel" "latestWork" "I" : Cond) ∈ vT := inR_8 _ (List.mem_of_getElem? (i := 10) rfl)
theorem vt_331 : (.methodLink "FamilyKernel" 315 ⟨"FamilyKernel$Environment", "sizes", "()I"⟩ : Cond) ∈ vT := inR_8 _ (List.mem_of_getElem? (i := 11) rfl)
theorem vt_332 : (.instanceMethod ⟨"FamilyKernel$Environment", "sizes", "()I"⟩ : Cond) ∈ vT := inR_8 _ (List.mem_of_getElem? (i := 12) rfl)
theorem vt_333 : (.selects "FamilyKernel$Environment" ⟨"FamilyKernel$Environment", "sizes", "()I"⟩ ⟨"FamilyKernel$Environment", "sizes", "()I"⟩ : Cond) ∈ vT := inR_8 _ (List.mem_of_getElem? (i := 13) rfl)
theorem vt_334 : (.code ⟨"FamilyKernel$Environment", "sizes", "()I"⟩ prog_2_method_3_code 1 (some .int) : Cond) ∈ vT := inR_8 _ (List.mem_of_getElem? (i := 14) rfl)
theorem vt_335 : (.methodLink "FamilyKernel" 333 ⟨"FamilyKernel$Environment", "clear", "()V"⟩ : Cond) ∈ vT := inR_8 _ (List.mem_of_getElem? (i := 15) rfl)
theorem vt_336 : (.instanceMethod ⟨"FamilyKernel$Environment", "clear", "()V"⟩ : Cond) ∈ vT := inR_8 _ (List.mem_of_getElem? (i := 16) rfl)
theorem vt_337 : (.selects "FamilyKernel$Environment" ⟨"FamilyKernel$Environment", "clear", "()V"⟩ ⟨"FamilyKernel$Environment", "clear", "()V"⟩ : Cond) ∈ vT := inR_8 _ (List.mem_of_getElem? (i := 17) rfl)
theorem vt_338 : (.code ⟨"FamilyKernel$Environment", "clear", "()V"⟩ prog_2_method_5_code 1 none : Cond) ∈ vT := inR_8 _ (List.mem_of_getElem? (i := 18) rfl)
theorem vt_339 : (.methodLink "FamilyKernel" 158 ⟨"FamilyKernel$Terms", "release", "(I)V"⟩ : Cond) ∈ vT := inR_8 _ (List.mem_of_getElem? (i := 19) rfl)
theorem vt_340 : (.instanceMethod ⟨"FamilyKernel$Terms", "release", "(I)V"⟩ : Cond) ∈ vT := inR_8 _ (List.mem_of_getElem? (i := 20) rfl)
theorem vt_341 : (.selects "FamilyKernel$Terms" ⟨"FamilyKernel$Terms", "release", "(I)V"⟩ ⟨"FamilyKernel$Terms", "release", "(I)V"⟩ : Cond) ∈ vT := inR_8 _ (List.mem_of_getElem? (i := 21) rfl)
theorem vt_342 : (.code ⟨"FamilyKernel$Terms", "release", "(I)V"⟩ prog_11_method_17_code 3 none : Cond) ∈ vT := inR_8 _ (List.mem_of_getElem? (i := 22) rfl)
theorem vt_343 : (.classLink "FamilyKernel" 118 "java/lang/IllegalArgumentException" : Cond) ∈ vT := inR_8 _ (List.mem_of_getElem? (i := 23) rfl)
theorem vt_344 : (.initialized "java/lang/IllegalArgumentException" : Cond) ∈ vT := inR_8 _ (List.mem_of_getElem? (i := 24) rfl)
theorem vt_345 : (.classLink "FamilyKernel" 336 "java/util/NoSuchElementException" : Cond) ∈ vT := inR_8 _ (List.mem_of_getElem? (i := 25) rfl)
theorem vt_346 : (.initialized "java/util/NoSuchElementException" : Cond) ∈ vT := inR_8 _ (List.mem_of_getElem? (i := 26) rfl)
theorem vt_347 : (.classLink "FamilyKernel" 350 "java/lang/IndexOutOfBoundsException" : Cond) ∈ vT := inR_8 _ (List.mem_of_getElem? (i := 27) rfl)
theorem vt_348 : (.initialized "java/lang/IndexOutOfBoundsException" : Cond) ∈ vT := inR_8 _ (List.mem_of_getElem? (i := 28) rfl)
theorem vt_349 : (.methodLink "FamilyKernelModel" 251 ⟨"FamilyKernelModel", "refuse", "(IZ)Z"⟩ : Cond) ∈ vT := inR_8 _ (List.mem_of_getElem? (i := 29) rfl)
theorem vt_350 : (.instanceMethod ⟨"FamilyKernelModel", "refuse", "(IZ)Z"⟩ : Cond) ∈ vT := inR_8 _ (List.mem_of_getElem? (i := 30) rfl)
theorem vt_351 : (.selects "FamilyKernelModel" ⟨"FamilyKernelModel", "refuse", "(IZ)Z"⟩ ⟨"FamilyKernelModel", "refuse", "(IZ)Z"⟩ : Cond) ∈ vT := inR_8 _ (List.mem_of_getElem? (i := 31) rfl)
theorem vt_352 : (.initialized "FamilyKernelModel" : Cond) ∈ vT := inR_8 _ (List.mem_of_getElem? (i := 32) rfl)
theorem vt_353 : (.code ⟨"FamilyKernelModel", "refuse", "(IZ)Z"⟩ prog_14_method_4_code 3 (some .boolean) : Cond) ∈ vT := inR_8 _ (List.mem_of_getElem? (i := 33) rfl)
theorem vt_354 : (.methodLink "FamilyKernelModel" 577 ⟨"FamilyKernelModel", "none", "(I)Z"⟩ : Cond) ∈ vT := inR_8 _ (List.mem_of_getElem? (i := 34) rfl)
theorem vt_355 : (.instanceMethod ⟨"FamilyKernelModel", "none", "(I)Z"⟩ : Cond) ∈ vT := inR_8 _ (List.mem_of_getElem? (i := 35) rfl)
theorem vt_356 : (.selects "FamilyKernelModel" ⟨"FamilyKernelModel", "none", "(I)Z"⟩ ⟨"FamilyKernelModel", "none", "(I)Z"⟩ : Cond) ∈ vT := inR_8 _ (List.mem_of_getElem? (i := 36) rfl)
theorem vt_357 : (.code ⟨"FamilyKernelModel", "none", "(I)Z"⟩ prog_14_method_93_code 2 (some .boolean) : Cond) ∈ vT := inR_8 _ (List.mem_of_getElem? (i := 37) rfl)
theorem vt_358 : (.methodLink "FamilyKernelModel" 255 ⟨"FamilyKernelModel", "parts", "()V"⟩ : Cond) ∈ vT := inR_8 _ (List.mem_of_getElem? (i := 38) rfl)
theorem vt_359 : (.instanceMethod ⟨"FamilyKernelModel", "parts", "()V"⟩ : Cond) ∈ vT := inR_8 _ (List.mem_of_getElem? (i := 39) rfl)
theorem vt_360 : (.selects "FamilyKernelModel" ⟨"FamilyKernelModel", "parts", "()V"⟩ ⟨"FamilyKernelModel", "parts", "()V"⟩ : Cond) ∈ vT := inR_9 _ (List.mem_of_getElem? (i := 0) rfl)
theorem vt_361 : (.code ⟨"FamilyKernelModel", "parts", "()V"⟩ prog_14_method_10_code 2 none : Cond) ∈ vT := inR_9 _ (List.mem_of_getElem? (i := 1) rfl)
theorem vt_362 : (.methodLink "FamilyKernelModel" 273 ⟨"FamilyKernelModel", "peek", "()I"⟩ : Cond) ∈ vT := inR_9 _ (List.mem_of_getElem? (i := 2) rfl)
theorem vt_363 : (.instanceMethod ⟨"FamilyKernelModel", "peek", "()I"⟩ : Cond) ∈ vT := inR_9 _ (List.mem_of_getElem? (i := 3) rfl)
theorem vt_364 : (.selects "FamilyKernelModel" ⟨"FamilyKernelModel", "peek", "()I"⟩ ⟨"FamilyKernelModel", "peek", "()I"⟩ : Cond) ∈ vT := inR_9 _ (List.mem_of_getElem? (i := 4) rfl)
theorem vt_365 : (.code ⟨"FamilyKernelModel", "peek", "()I"⟩ prog_14_method_11_code 2 (some .int) : Cond) ∈ vT := inR_9 _ (List.mem_of_getElem? (i := 5) rfl)
theorem vt_366 : (.constant "FamilyKernelModel" 250 65516 : Cond) ∈ vT := inR_9 _ (List.mem_of_getElem? (i := 6) rfl)
theorem vt_367 : (.methodLink "FamilyKernelLaw" 15 ⟨"FamilyKernel", "end", "(I)I"⟩ : Cond) ∈ vT := inR_9 _ (List.mem_of_getElem? (i := 7) rfl)
theorem vt_368 : (.instanceMethod ⟨"FamilyKernel", "end", "(I)I"⟩ : Cond) ∈ vT := inR_9 _ (List.mem_of_getElem? (i := 8) rfl)
theorem vt_369 : (.selects "FamilyKernel" ⟨"FamilyKernel", "end", "(I)I"⟩ ⟨"FamilyKernel", "end", "(I)I"⟩ : Cond) ∈ vT := inR_9 _ (List.mem_of_getElem? (i := 9) rfl)
theorem vt_370 : (.code ⟨"FamilyKernel", "end", "(I)I"⟩ prog_1_method_4_code 2 (some .int) : Cond) ∈ vT := inR_9 _ (List.mem_of_getElem? (i := 10) rfl)
theorem vt_371 : (.classLink "FamilyKernelLaw" 19 "java/lang/IllegalArgumentException" : Cond) ∈ vT := inR_9 _ (List.mem_of_getElem? (i := 11) rfl)
theorem vt_372 : (.methodLink "FamilyKernelLaw" 21 ⟨"FamilyKernel", "constant", "(II)I"⟩ : Cond) ∈ vT := inR_9 _ (List.mem_of_getElem? (i := 12) rfl)
theorem vt_373 : (.instanceMethod ⟨"FamilyKernel", "constant", "(II)I"⟩ : Cond) ∈ vT := inR_9 _ (List.mem_of_getElem? (i := 13) rfl)
theorem vt_374 : (.selects "FamilyKernel" ⟨"FamilyKernel", "constant", "(II)I"⟩ ⟨"FamilyKernel", "constant", "(II)I"⟩ : Cond) ∈ vT := inR_9 _ (List.mem_of_getElem? (i := 14) rfl)
theorem vt_375 : (.code ⟨"FamilyKernel", "constant", "(II)I"⟩ prog_1_method_11_code 4 (some .int) : Cond) ∈ vT := inR_9 _ (List.mem_of_getElem? (i := 15) rfl)
theorem vt_376 : (.classLink "FamilyKernelLaw" 25 "java/util/NoSuchElementException" : Cond) ∈ vT := inR_9 _ (List.mem_of_getElem? (i := 16) rfl)
theorem vt_377 : (.methodLink "FamilyKernelLaw" 27 ⟨"FamilyKernel", "show", "(II)I"⟩ : Cond) ∈ vT := inR_9 _ (List.mem_of_getElem? (i := 17) rfl)
theorem vt_378 : (.instanceMethod ⟨"FamilyKernel", "show", "(II)I"⟩ : Cond) ∈ vT := inR_9 _ (List.mem_of_getElem? (i := 18) rfl)
theorem vt_379 : (.selects "FamilyKernel" ⟨"FamilyKernel", "show", "(II)I"⟩ ⟨"FamilyKernel", "show", "(II)I"⟩ : Cond) ∈ vT := inR_9 _ (List.mem_of_getElem? (i := 19) rfl)
theorem vt_380 : (.code ⟨"FamilyKernel", "show", "(II)I"⟩ prog_1_method_12_code 3 (some .int) : Cond) ∈ vT := inR_9 _ (List.mem_of_getElem? (i := 20) rfl)
theorem vt_381 : (.methodLink "FamilyKernelLaw" 30 ⟨"FamilyKernel", "showRec", "(II)I"⟩ : Cond) ∈ vT := inR_9 _ (List.mem_of_getElem? (i := 21) rfl)
theorem vt_382 : (.instanceMethod ⟨"FamilyKernel", "showRec", "(II)I"⟩ : Cond) ∈ vT := inR_9 _ (List.mem_of_getElem? (i := 22) rfl)
theorem vt_383 : (.selects "FamilyKernel" ⟨"FamilyKernel", "showRec", "(II)I"⟩ ⟨"FamilyKernel", "showRec", "(II)I"⟩ : Cond) ∈ vT := inR_9 _ (List.mem_of_getElem? (i := 23) rfl)
theorem vt_384 : (.code ⟨"FamilyKernel", "showRec", "(II)I"⟩ prog_1_method_13_code 4 (some .int) : Cond) ∈ vT := inR_9 _ (List.mem_of_getElem? (i := 24) rfl)
theorem vt_385 : (.methodLink "FamilyKernelLaw" 33 ⟨"FamilyKernel", "out", "(I)I"⟩ : Cond) ∈ vT := inR_9 _ (List.mem_of_getElem? (i := 25) rfl)
theorem vt_386 : (.instanceMethod ⟨"FamilyKernel", "out", "(I)I"⟩ : Cond) ∈ vT := inR_9 _ (List.mem_of_getElem? (i := 26) rfl)
theorem vt_387 : (.selects "FamilyKernel" ⟨"FamilyKernel", "out", "(I)I"⟩ ⟨"FamilyKernel", "out", "(I)I"⟩ : Cond) ∈ vT := inR_9 _ (List.mem_of_getElem? (i := 27) rfl)
theorem vt_388 : (.code ⟨"FamilyKernel", "out", "(I)I"⟩ prog_1_method_14_code 2 (some .int) : Cond) ∈ vT := inR_9 _ (List.mem_of_getElem? (i := 28) rfl)
theorem vt_389 : (.classLink "FamilyKernelLaw" 36 "java/lang/IndexOutOfBoundsException" : Cond) ∈ vT := inR_9 _ (List.mem_of_getElem? (i := 29) rfl)
theorem vt_390 : (.methodLink "FamilyKernelLaw" 7 ⟨"FamilyKernel", "feed", "(IIIII)I"⟩ : Cond) ∈ vT := inR_9 _ (List.mem_of_getElem? (i := 30) rfl)
theorem vt_391 : (.instanceMethod ⟨"FamilyKernel", "feed", "(IIIII)I"⟩ : Cond) ∈ vT := inR_9 _ (List.mem_of_getElem? (i := 31) rfl)
theorem vt_392 : (.selects "FamilyKernel" ⟨"FamilyKernel", "feed", "(IIIII)I"⟩ ⟨"FamilyKernel", "feed", "(IIIII)I"⟩ : Cond) ∈ vT := inR_9 _ (List.mem_of_getElem? (i := 32) rfl)
theorem vt_393 : (.code ⟨"FamilyKernel", "feed", "(IIIII)I"⟩ prog_1_method_2_code 6 (some .int) : Cond) ∈ vT := inR_9 _ (List.mem_of_getElem? (i := 33) rfl)
theorem vt_394 : (.methodLink "FamilyKernelLaw" 42 ⟨"FamilyKernelLaw", "feed", "(LFamilyKernel;IIIII[J)I"⟩ : Cond) ∈ vT := inR_9 _ (List.mem_of_getElem? (i := 34) rfl)
theorem vt_395 : (.static ⟨"FamilyKernelLaw", "feed", "(LFamilyKernel;IIIII[J)I"⟩ : Cond) ∈ vT := inR_9 _ (List.mem_of_getElem? (i := 35) rfl)
theorem vt_396 : (.initialized "FamilyKernelLaw" : Cond) ∈ vT := inR_9 _ (List.mem_of_getElem? (i := 36) rfl)
theorem vt_397 : (.codeWith ⟨"FamilyKernelLaw", "feed", "(LFamilyKernel;IIIII[J)I"⟩ method_3_code 8 (some .int) [(0, 16, 19, 13)] : Cond) ∈ vT := inR_9 _ (List.mem_of_getElem? (i := 37) rfl)
theorem vt_398 : (.methodLink "FamilyKernelLaw" 47 ⟨"FamilyKernelModel", "feed", "(IIIII)I"⟩ : Cond) ∈ vT := inR_9 _ (List.mem_of_getElem? (i := 38) rfl)
theorem vt_399 : (.instanceMethod ⟨"FamilyKernelModel", "feed", "(IIIII)I"⟩ : Cond) ∈ vT := inR_9 _ (List.mem_of_getElem? (i := 39) rfl)
theorem vt_400 : (.selects "FamilyKernelModel" ⟨"FamilyKernelModel", "feed", "(IIIII)I"⟩ ⟨"FamilyKernelModel", "feed", "(IIIII)I"⟩ : Cond) ∈ vT := inR_10 _ (List.mem_of_getElem? (i := 0) rfl)
theorem vt_401 : (.code ⟨"FamilyKernelModel", "feed", "(IIIII)I"⟩ prog_14_method_5_code 8 (some .int) : Cond) ∈ vT := inR_10 _ (List.mem_of_getElem? (i := 1) rfl)
theorem vt_402 : (.methodLink "FamilyKernelLaw" 48 ⟨"FamilyKernelModel", "thrown", "()I"⟩ : Cond) ∈ vT := inR_10 _ (List.mem_of_getElem? (i := 2) rfl)
theorem vt_403 : (.instanceMethod ⟨"FamilyKernelModel", "thrown", "()I"⟩ : Cond) ∈ vT := inR_10 _ (List.mem_of_getElem? (i := 3) rfl)
theorem vt_404 : (.selects "FamilyKernelModel" ⟨"FamilyKernelModel", "thrown", "()I"⟩ ⟨"FamilyKernelModel", "thrown", "()I"⟩ : Cond) ∈ vT := inR_10 _ (List.mem_of_getElem? (i := 4) rfl)
theorem vt_405 : (.code ⟨"FamilyKernelModel", "thrown", "()I"⟩ prog_14_method_3_code 1 (some .int) : Cond) ∈ vT := inR_10 _ (List.mem_of_getElem? (i := 5) rfl)
theorem vt_406 : (.methodLink "FamilyKernelLaw" 52 ⟨"FamilyKernelLaw", "end", "(LFamilyKernel;I[J)I"⟩ : Cond) ∈ vT := inR_10 _ (List.mem_of_getElem? (i := 6) rfl)
theorem vt_407 : (.static ⟨"FamilyKernelLaw", "end", "(LFamilyKernel;I[J)I"⟩ : Cond) ∈ vT := inR_10 _ (List.mem_of_getElem? (i := 7) rfl)
theorem vt_408 : (.codeWith ⟨"FamilyKernelLaw", "end", "(LFamilyKernel;I[J)I"⟩ method_4_code 4 (some .int) [(0, 9, 12, 19)] : Cond) ∈ vT := inR_10 _ (List.mem_of_getElem? (i := 8) rfl)
theorem vt_409 : (.methodLink "FamilyKernelLaw" 55 ⟨"FamilyKernelModel", "end", "(I)I"⟩ : Cond) ∈ vT := inR_10 _ (List.mem_of_getElem? (i := 9) rfl)
theorem vt_410 : (.instanceMethod ⟨"FamilyKernelModel", "end", "(I)I"⟩ : Cond) ∈ vT := inR_10 _ (List.mem_of_getElem? (i := 10) rfl)
theorem vt_411 : (.selects "FamilyKernelModel" ⟨"FamilyKernelModel", "end", "(I)I"⟩ ⟨"FamilyKernelModel", "end", "(I)I"⟩ : Cond) ∈ vT := inR_10 _ (List.mem_of_getElem? (i := 11) rfl)
theorem vt_412 : (.code ⟨"FamilyKernelModel", "end", "(I)I"⟩ prog_14_method_6_code 2 (some .int) : Cond) ∈ vT := inR_10 _ (List.mem_of_getElem? (i := 12) rfl)
theorem vt_413 : (.methodLink "FamilyKernelLaw" 68 ⟨"FamilyKernelLaw", "constant", "(LFamilyKernel;II[J)I"⟩ : Cond) ∈ vT := inR_10 _ (List.mem_of_getElem? (i := 13) rfl)
theorem vt_414 : (.static ⟨"FamilyKernelLaw", "constant", "(LFamilyKernel;II[J)I"⟩ : Cond) ∈ vT := inR_10 _ (List.mem_of_getElem? (i := 14) rfl)
theorem vt_415 : (.codeWith ⟨"FamilyKernelLaw", "constant", "(LFamilyKernel;II[J)I"⟩ method_5_code 5 (some .int) [(0, 10, 13, 25), (0, 10, 17, 19)] : Cond) ∈ vT := inR_10 _ (List.mem_of_getElem? (i := 15) rfl)
theorem vt_416 : (.methodLink "FamilyKernelLaw" 71 ⟨"FamilyKernelModel", "constant", "(II)I"⟩ : Cond) ∈ vT := inR_10 _ (List.mem_of_getElem? (i := 16) rfl)
theorem vt_417 : (.instanceMethod ⟨"FamilyKernelModel", "constant", "(II)I"⟩ : Cond) ∈ vT := inR_10 _ (List.mem_of_getElem? (i := 17) rfl)
theorem vt_418 : (.selects "FamilyKernelModel" ⟨"FamilyKernelModel", "constant", "(II)I"⟩ ⟨"FamilyKernelModel", "constant", "(II)I"⟩ : Cond) ∈ vT := inR_10 _ (List.mem_of_getElem? (i := 18) rfl)
theorem vt_419 : (.code ⟨"FamilyKernelModel", "constant", "(II)I"⟩ prog_14_method_94_code 4 (some .int) : Cond) ∈ vT := inR_10 _ (List.mem_of_getElem? (i := 19) rfl)
theorem vt_420 : (.methodLink "FamilyKernelLaw" 72 ⟨"FamilyKernelLaw", "show", "(LFamilyKernel;II[J)I"⟩ : Cond) ∈ vT := inR_10 _ (List.mem_of_getElem? (i := 20) rfl)
theorem vt_421 : (.static ⟨"FamilyKernelLaw", "show", "(LFamilyKernel;II[J)I"⟩ : Cond) ∈ vT := inR_10 _ (List.mem_of_getElem? (i := 21) rfl)
theorem vt_422 : (.codeWith ⟨"FamilyKernelLaw", "show", "(LFamilyKernel;II[J)I"⟩ method_6_code 5 (some .int) [(0, 10, 13, 25), (0, 10, 17, 19)] : Cond) ∈ vT := inR_10 _ (List.mem_of_getElem? (i := 22) rfl)
theorem vt_423 : (.methodLink "FamilyKernelLaw" 74 ⟨"FamilyKernelModel", "show", "(II)I"⟩ : Cond) ∈ vT := inR_10 _ (List.mem_of_getElem? (i := 23) rfl)
theorem vt_424 : (.instanceMethod ⟨"FamilyKernelModel", "show", "(II)I"⟩ : Cond) ∈ vT := inR_10 _ (List.mem_of_getElem? (i := 24) rfl)
theorem vt_425 : (.selects "FamilyKernelModel" ⟨"FamilyKernelModel", "show", "(II)I"⟩ ⟨"FamilyKernelModel", "show", "(II)I"⟩ : Cond) ∈ vT := inR_10 _ (List.mem_of_getElem? (i := 25) rfl)
theorem vt_426 : (.code ⟨"FamilyKernelModel", "show", "(II)I"⟩ prog_14_method_104_code 3 (some .int) : Cond) ∈ vT := inR_10 _ (List.mem_of_getElem? (i := 26) rfl)
theorem vt_427 : (.methodLink "FamilyKernelLaw" 75 ⟨"FamilyKernelLaw", "showRec", "(LFamilyKernel;II[J)I"⟩ : Cond) ∈ vT := inR_10 _ (List.mem_of_getElem? (i := 27) rfl)
theorem vt_428 : (.static ⟨"FamilyKernelLaw", "showRec", "(LFamilyKernel;II[J)I"⟩ : Cond) ∈ vT := inR_10 _ (List.mem_of_getElem? (i := 28) rfl)
theorem vt_429 : (.codeWith ⟨"FamilyKernelLaw", "showRec", "(LFamilyKernel;II[J)I"⟩ method_7_code 5 (some .int) [(0, 10, 13, 25)] : Cond) ∈ vT := inR_10 _ (List.mem_of_getElem? (i := 29) rfl)
theorem vt_430 : (.methodLink "FamilyKernelLaw" 77 ⟨"FamilyKernelModel", "showRec", "(II)I"⟩ : Cond) ∈ vT := inR_10 _ (List.mem_of_getElem? (i := 30) rfl)
theorem vt_431 : (.instanceMethod ⟨"FamilyKernelModel", "showRec", "(II)I"⟩ : Cond) ∈ vT := inR_10 _ (List.mem_of_getElem? (i := 31) rfl)
theorem vt_432 : (.selects "FamilyKernelModel" ⟨"FamilyKernelModel", "showRec", "(II)I"⟩ ⟨"FamilyKernelModel", "showRec", "(II)I"⟩ : Cond) ∈ vT := inR_10 _ (List.mem_of_getElem? (i := 32) rfl)
theorem vt_433 : (.code ⟨"FamilyKernelModel", "showRec", "(II)I"⟩ prog_14_method_105_code 4 (some .int) : Cond) ∈ vT := inR_10 _ (List.mem_of_getElem? (i := 33) rfl)
theorem vt_434 : (.methodLink "FamilyKernelLaw" 78 ⟨"FamilyKernelLaw", "out", "(LFamilyKernel;I[J)I"⟩ : Cond) ∈ vT := inR_10 _ (List.mem_of_getElem? (i := 34) rfl)
theorem vt_435 : (.static ⟨"FamilyKernelLaw", "out", "(LFamilyKernel;I[J)I"⟩ : Cond) ∈ vT := inR_10 _ (List.mem_of_getElem? (i := 35) rfl)
theorem vt_436 : (.codeWith ⟨"FamilyKernelLaw", "out", "(LFamilyKernel;I[J)I"⟩ method_8_code 4 (some .int) [(0, 9, 12, 36)] : Cond) ∈ vT := inR_10 _ (List.mem_of_getElem? (i := 36) rfl)
theorem vt_437 : (.methodLink "FamilyKernelLaw" 80 ⟨"FamilyKernelModel", "out", "(I)I"⟩ : Cond) ∈ vT := inR_10 _ (List.mem_of_getElem? (i := 37) rfl)
theorem vt_438 : (.instanceMethod ⟨"FamilyKernelModel", "out", "(I)I"⟩ : Cond) ∈ vT := inR_10 _ (List.mem_of_getElem? (i := 38) rfl)
theorem vt_439 : (.selects "FamilyKernelModel" ⟨"FamilyKernelModel", "out", "(I)I"⟩ ⟨"FamilyKernelModel", "out", "(I)I"⟩ : Cond) ∈ vT := inR_10 _ (List.mem_of_getElem? (i := 39) rfl)
theorem vt_440 : (.code ⟨"FamilyKernelModel", "out", "(I)I"⟩ prog_14_method_106_code 2 (some .int) : Cond) ∈ vT := inR_11 _ (List.mem_of_getElem? (i := 0) rfl)
theorem vt_441 : (.methodLink "FamilyKernelLaw" 56 ⟨"FamilyKernel", "read", "()I"⟩ : Cond) ∈ vT := inR_11 _ (List.mem_of_getElem? (i := 1) rfl)
theorem vt_442 : (.instanceMethod ⟨"FamilyKernel", "read", "()I"⟩ : Cond) ∈ vT := inR_11 _ (List.mem_of_getElem? (i := 2) rfl)
theorem vt_443 : (.selects "FamilyKernel" ⟨"FamilyKernel", "read", "()I"⟩ ⟨"FamilyKernel", "read", "()I"⟩ : Cond) ∈ vT := inR_11 _ (List.mem_of_getElem? (i := 3) rfl)
theorem vt_444 : (.codeWith ⟨"FamilyKernel", "read", "()I"⟩ prog_1_method_5_code 6 (some .int) [(65, 104, 107, 108)] : Cond) ∈ vT := inR_11 _ (List.mem_of_getElem? (i := 4) rfl)
theorem vt_445 : (.methodLink "FamilyKernelLaw" 59 ⟨"FamilyKernelModel", "read", "()I"⟩ : Cond) ∈ vT := inR_11 _ (List.mem_of_getElem? (i := 5) rfl)
theorem vt_446 : (.instanceMethod ⟨"FamilyKernelModel", "read", "()I"⟩ : Cond) ∈ vT := inR_11 _ (List.mem_of_getElem? (i := 6) rfl)
theorem vt_447 : (.selects "FamilyKernelModel" ⟨"FamilyKernelModel", "read", "()I"⟩ ⟨"FamilyKernelModel", "read", "()I"⟩ : Cond) ∈ vT := inR_11 _ (List.mem_of_getElem? (i := 7) rfl)
theorem vt_448 : (.codeWith ⟨"FamilyKernelModel", "read", "()I"⟩ prog_14_method_69_code 7 (some .int) [(49, 114, 117, 1)] : Cond) ∈ vT := inR_11 _ (List.mem_of_getElem? (i := 8) rfl)
theorem vt_449 : (.methodLink "FamilyKernelLaw" 60 ⟨"FamilyKernel", "fault", "(I)I"⟩ : Cond) ∈ vT := inR_11 _ (List.mem_of_getElem? (i := 9) rfl)
theorem vt_450 : (.instanceMethod ⟨"FamilyKernel", "fault", "(I)I"⟩ : Cond) ∈ vT := inR_11 _ (List.mem_of_getElem? (i := 10) rfl)
theorem vt_451 : (.selects "FamilyKernel" ⟨"FamilyKernel", "fault", "(I)I"⟩ ⟨"FamilyKernel", "fault", "(I)I"⟩ : Cond) ∈ vT := inR_11 _ (List.mem_of_getElem? (i := 11) rfl)
theorem vt_452 : (.code ⟨"FamilyKernel", "fault", "(I)I"⟩ prog_1_method_9_code 2 (some .int) : Cond) ∈ vT := inR_11 _ (List.mem_of_getElem? (i := 12) rfl)
theorem vt_453 : (.methodLink "FamilyKernelLaw" 63 ⟨"FamilyKernelModel", "fault", "(I)I"⟩ : Cond) ∈ vT := inR_11 _ (List.mem_of_getElem? (i := 13) rfl)
theorem vt_454 : (.instanceMethod ⟨"FamilyKernelModel", "fault", "(I)I"⟩ : Cond) ∈ vT := inR_11 _ (List.mem_of_getElem? (i := 14) rfl)
theorem vt_455 : (.selects "FamilyKernelModel" ⟨"FamilyKernelModel", "fault", "(I)I"⟩ ⟨"FamilyKernelModel", "fault", "(I)I"⟩ : Cond) ∈ vT := inR_11 _ (List.mem_of_getElem? (i := 15) rfl)
theorem vt_456 : (.code ⟨"FamilyKernelModel", "fault", "(I)I"⟩ prog_14_method_91_code 2 (some .int) : Cond) ∈ vT := inR_11 _ (List.mem_of_getElem? (i := 16) rfl)
theorem vt_457 : (.methodLink "FamilyKernelLaw" 81 ⟨"FamilyKernel", "count", "(I)I"⟩ : Cond) ∈ vT := inR_11 _ (List.mem_of_getElem? (i := 17) rfl)
theorem vt_458 : (.instanceMethod ⟨"FamilyKernel", "count", "(I)I"⟩ : Cond) ∈ vT := inR_11 _ (List.mem_of_getElem? (i := 18) rfl)
theorem vt_459 : (.selects "FamilyKernel" ⟨"FamilyKernel", "count", "(I)I"⟩ ⟨"FamilyKernel", "count", "(I)I"⟩ : Cond) ∈ vT := inR_11 _ (List.mem_of_getElem? (i := 19) rfl)
theorem vt_460 : (.code ⟨"FamilyKernel", "count", "(I)I"⟩ prog_1_method_15_code 2 (some .int) : Cond) ∈ vT := inR_11 _ (List.mem_of_getElem? (i := 20) rfl)
theorem vt_461 : (.methodLink "FamilyKernelLaw" 84 ⟨"FamilyKernelModel", "count", "(I)I"⟩ : Cond) ∈ vT := inR_11 _ (List.mem_of_getElem? (i := 21) rfl)
theorem vt_462 : (.instanceMethod ⟨"FamilyKernelModel", "count", "(I)I"⟩ : Cond) ∈ vT := inR_11 _ (List.mem_of_getElem? (i := 22) rfl)
theorem vt_463 : (.selects "FamilyKernelModel" ⟨"FamilyKernelModel", "count", "(I)I"⟩ ⟨"FamilyKernelModel", "count", "(I)I"⟩ : Cond) ∈ vT := inR_11 _ (List.mem_of_getElem? (i := 23) rfl)
theorem vt_464 : (.code ⟨"FamilyKernelModel", "count", "(I)I"⟩ prog_14_method_107_code 2 (some .int) : Cond) ∈ vT := inR_11 _ (List.mem_of_getElem? (i := 24) rfl)
theorem vt_465 : (.methodLink "FamilyKernelLaw" 64 ⟨"FamilyKernel", "reset", "()I"⟩ : Cond) ∈ vT := inR_11 _ (List.mem_of_getElem? (i := 25) rfl)
theorem vt_466 : (.instanceMethod ⟨"FamilyKernel", "reset", "()I"⟩ : Cond) ∈ vT := inR_11 _ (List.mem_of_getElem? (i := 26) rfl)
theorem vt_467 : (.selects "FamilyKernel" ⟨"FamilyKernel", "reset", "()I"⟩ ⟨"FamilyKernel", "reset", "()I"⟩ : Cond) ∈ vT := inR_11 _ (List.mem_of_getElem? (i := 27) rfl)
theorem vt_468 : (.code ⟨"FamilyKernel", "reset", "()I"⟩ prog_1_method_10_code 2 (some .int) : Cond) ∈ vT := inR_11 _ (List.mem_of_getElem? (i := 28) rfl)
theorem vt_469 : (.methodLink "FamilyKernelLaw" 67 ⟨"FamilyKernelModel", "reset", "()I"⟩ : Cond) ∈ vT := inR_11 _ (List.mem_of_getElem? (i := 29) rfl)
theorem vt_470 : (.instanceMethod ⟨"FamilyKernelModel", "reset", "()I"⟩ : Cond) ∈ vT := inR_11 _ (List.mem_of_getElem? (i := 30) rfl)
theorem vt_471 : (.selects "FamilyKernelModel" ⟨"FamilyKernelModel", "reset", "()I"⟩ ⟨"FamilyKernelModel", "reset", "()I"⟩ : Cond) ∈ vT := inR_11 _ (List.mem_of_getElem? (i := 31) rfl)
theorem vt_472 : (.code ⟨"FamilyKernelModel", "reset", "()I"⟩ prog_14_method_92_code 2 (some .int) : Cond) ∈ vT := inR_11 _ (List.mem_of_getElem? (i := 32) rfl)
theorem vt_473 : (.instantiable "FamilyKernel" 14 : Cond) ∈ vT := inR_11 _ (List.mem_of_getElem? (i := 33) rfl)
theorem vt_474 : (.instantiable "FamilyKernelModel" 76 : Cond) ∈ vT := inR_11 _ (List.mem_of_getElem? (i := 34) rfl)
theorem vt_475 : (.classLink "FamilyKernelLaw" 8 "FamilyKernel" : Cond) ∈ vT := inR_11 _ (List.mem_of_getElem? (i := 35) rfl)
theorem vt_476 : (.code ⟨"FamilyKernel", "<init>", "()V"⟩ prog_1_method_1_code 1 none : Cond) ∈ vT := inR_11 _ (List.mem_of_getElem? (i := 36) rfl)
theorem vt_477 : (.methodLink "FamilyKernelLaw" 38 ⟨"FamilyKernel", "<init>", "()V"⟩ : Cond) ∈ vT := inR_11 _ (List.mem_of_getElem? (i := 37) rfl)
theorem vt_478 : (.instanceMethod ⟨"FamilyKernel", "<init>", "()V"⟩ : Cond) ∈ vT := inR_11 _ (List.mem_of_getElem? (i := 38) rfl)
theorem vt_479 : (.classLink "FamilyKernelLaw" 39 "FamilyKernelModel" : Cond) ∈ vT := inR_11 _ (List.mem_of_getElem? (i := 39) rfl)
theorem vt_480 : (.code ⟨"FamilyKernelModel", "<init>", "()V"⟩ prog_14_method_2_code 1 none : Cond) ∈ vT := inR_12 _ (List.mem_of_getElem? (i := 0) rfl)
theorem vt_481 : (.methodLink "FamilyKernelLaw" 41 ⟨"FamilyKernelModel", "<init>", "()V"⟩ : Cond) ∈ vT := inR_12 _ (List.mem_of_getElem? (i := 1) rfl)
theorem vt_482 : (.instanceMethod ⟨"FamilyKernelModel", "<init>", "()V"⟩ : Cond) ∈ vT := inR_12 _ (List.mem_of_getElem? (i := 2) rfl)
theorem vt_483 : (.initialized "java/lang/Throwable" : Cond) ∈ vT := inR_12 _ (List.mem_of_getElem? (i := 3) rfl)
theorem vt_484 : (.initialized "java/lang/Exception" : Cond) ∈ vT := inR_12 _ (List.mem_of_getElem? (i := 4) rfl)
theorem vt_485 : (.initialized "java/lang/RuntimeException" : Cond) ∈ vT := inR_12 _ (List.mem_of_getElem? (i := 5) rfl)
theorem vt_486 : (.lays "java/lang/Throwable" "java/lang/Throwable" "cause" "Ljava/lang/Throwable;" : Cond) ∈ vT := inR_12 _ (List.mem_of_getElem? (i := 6) rfl)
theorem vt_487 : (.lays "java/lang/Throwable" "java/lang/Throwable" "stackTrace" "[Ljava/lang/StackTraceElement;" : Cond) ∈ vT := inR_12 _ (List.mem_of_getElem? (i := 7) rfl)
theorem vt_488 : (.lays "java/lang/Throwable" "java/lang/Throwable" "suppressedExceptions" "Ljava/util/List;" : Cond) ∈ vT := inR_12 _ (List.mem_of_getElem? (i := 8) rfl)
theorem vt_489 : (.lays "java/lang/Throwable" "java/lang/Throwable" "detailMessage" "Ljava/lang/String;" : Cond) ∈ vT := inR_12 _ (List.mem_of_getElem? (i := 9) rfl)
theorem vt_490 : (.lays "java/lang/Throwable" "java/lang/Throwable" "backtrace" "Ljava/lang/Object;" : Cond) ∈ vT := inR_12 _ (List.mem_of_getElem? (i := 10) rfl)
theorem vt_491 : (.fieldLink "java/lang/Throwable" 198 "java/lang/Throwable" "backtrace" "Ljava/lang/Object;" : Cond) ∈ vT := inR_12 _ (List.mem_of_getElem? (i := 11) rfl)
theorem vt_492 : (.superclass "java/lang/Throwable" "java/lang/Object" : Cond) ∈ vT := inR_12 _ (List.mem_of_getElem? (i := 12) rfl)
theorem vt_493 : (.instanceMethod ⟨"java/lang/Throwable", "<init>", "()V"⟩ : Cond) ∈ vT := inR_12 _ (List.mem_of_getElem? (i := 13) rfl)
theorem vt_494 : (.code ⟨"java/lang/Throwable", "<init>", "()V"⟩ prog_27_method_1_code 1 none : Cond) ∈ vT := inR_12 _ (List.mem_of_getElem? (i := 14) rfl)
theorem vt_495 : (.methodLink "java/lang/Throwable" 1 ⟨"java/lang/Object", "<init>", "()V"⟩ : Cond) ∈ vT := inR_12 _ (List.mem_of_getElem? (i := 15) rfl)
theorem vt_496 : (.fieldLink "java/lang/Throwable" 13 "java/lang/Throwable" "UNASSIGNED_STACK" "[Ljava/lang/StackTraceElement;" : Cond) ∈ vT := inR_12 _ (List.mem_of_getElem? (i := 16) rfl)
theorem vt_497 : (.fieldLink "java/lang/Throwable" 20 "java/lang/Throwable" "SUPPRESSED_SENTINEL" "Ljava/util/List;" : Cond) ∈ vT := inR_12 _ (List.mem_of_getElem? (i := 17) rfl)
theorem vt_498 : (.methodLink "java/lang/Throwable" 27 ⟨"java/lang/Throwable", "fillInStackTrace", "()Ljava/lang/Throwable;"⟩ : Cond) ∈ vT := inR_12 _ (List.mem_of_getElem? (i := 18) rfl)
theorem vt_499 : (.instanceMethod ⟨"java/lang/Throwable", "fillInStackTrace", "()Ljava/lang/Throwable;"⟩ : Cond) ∈ vT := inR_12 _ (List.mem_of_getElem? (i := 19) rfl)
theorem vt_500 : (.sameMethod "java/lang/Throwable" "java/lang/Throwable" "fillInStackTrace" "()Ljava/lang/Throwable;" : Cond) ∈ vT := inR_12 _ (List.mem_of_getElem? (i := 20) rfl)
theorem vt_501 : (.selects "java/lang/IllegalArgumentException" ⟨"java/lang/Throwable", "fillInStackTrace", "()Ljava/lang/Throwable;"⟩ ⟨"java/lang/Throwable", "fillInStackTrace", "()Ljava/lang/Throwable;"⟩ : Cond) ∈ vT := inR_12 _ (List.mem_of_getElem? (i := 21) rfl)
theorem vt_502 : (.selects "java/lang/IndexOutOfBoundsException" ⟨"java/lang/Throwable", "fillInStackTrace", "()Ljava/lang/Throwable;"⟩ ⟨"java/lang/Throwable", "fillInStackTrace", "()Ljava/lang/Throwable;"⟩ : Cond) ∈ vT := inR_12 _ (List.mem_of_getElem? (i := 22) rfl)
theorem vt_503 : (.selects "java/util/NoSuchElementException" ⟨"java/lang/Throwable", "fillInStackTrace", "()Ljava/lang/Throwable;"⟩ ⟨"java/lang/Throwable", "fillInStackTrace", "()Ljava/lang/Throwable;"⟩ : Cond) ∈ vT := inR_12 _ (List.mem_of_getElem? (i := 23) rfl)
theorem vt_504 : (.codeSync ⟨"java/lang/Throwable", "fillInStackTrace", "()Ljava/lang/Throwable;"⟩ prog_27_method_18_code 1 (some (.object "java/lang/Throwable")) : Cond) ∈ vT := inR_12 _ (List.mem_of_getElem? (i := 24) rfl)
theorem vt_505 : (.methodLink "java/lang/Throwable" 202 ⟨"java/lang/Throwable", "fillInStackTrace", "(I)Ljava/lang/Throwable;"⟩ : Cond) ∈ vT := inR_12 _ (List.mem_of_getElem? (i := 25) rfl)
theorem vt_506 : (.instanceMethod ⟨"java/lang/Throwable", "fillInStackTrace", "(I)Ljava/lang/Throwable;"⟩ : Cond) ∈ vT := inR_12 _ (List.mem_of_getElem? (i := 26) rfl)
theorem vt_507 : (.instantiable "java/lang/Throwable" 6 : Cond) ∈ vT := inR_12 _ (List.mem_of_getElem? (i := 27) rfl)
theorem vt_508 : (.native ⟨"java/lang/Throwable", "fillInStackTrace", "(I)Ljava/lang/Throwable;"⟩ : Cond) ∈ vT := inR_12 _ (List.mem_of_getElem? (i := 28) rfl)
theorem vt_509 : (.instanceMethod ⟨"java/lang/RuntimeException", "<init>", "()V"⟩ : Cond) ∈ vT := inR_12 _ (List.mem_of_getElem? (i := 29) rfl)
theorem vt_510 : (.code ⟨"java/lang/RuntimeException", "<init>", "()V"⟩ prog_22_method_1_code 1 none : Cond) ∈ vT := inR_12 _ (List.mem_of_getElem? (i := 30) rfl)
theorem vt_511 : (.methodLink "java/lang/RuntimeException" 1 ⟨"java/lang/Exception", "<init>", "()V"⟩ : Cond) ∈ vT := inR_12 _ (List.mem_of_getElem? (i := 31) rfl)
theorem vt_512 : (.instanceMethod ⟨"java/lang/Exception", "<init>", "()V"⟩ : Cond) ∈ vT := inR_12 _ (List.mem_of_getElem? (i := 32) rfl)
theorem vt_513 : (.code ⟨"java/lang/Exception", "<init>", "()V"⟩ prog_17_method_1_code 1 none : Cond) ∈ vT := inR_12 _ (List.mem_of_getElem? (i := 33) rfl)
theorem vt_514 : (.methodLink "java/lang/Exception" 1 ⟨"java/lang/Throwable", "<init>", "()V"⟩ : Cond) ∈ vT := inR_12 _ (List.mem_of_getElem? (i := 34) rfl)
theorem vt_515 : (.fieldLink "java/lang/Throwable" 31 "java/lang/Throwable" "detailMessage" "Ljava/lang/String;" : Cond) ∈ vT := inR_12 _ (List.mem_of_getElem? (i := 35) rfl)
theorem vt_516 : (.fieldLink "java/lang/Throwable" 7 "java/lang/Throwable" "cause" "Ljava/lang/Throwable;" : Cond) ∈ vT := inR_12 _ (List.mem_of_getElem? (i := 36) rfl)
theorem vt_517 : (.fieldLink "java/lang/Throwable" 17 "java/lang/Throwable" "stackTrace" "[Ljava/lang/StackTraceElement;" : Cond) ∈ vT := inR_12 _ (List.mem_of_getElem? (i := 37) rfl)
theorem vt_518 : (.fieldLink "java/lang/Throwable" 24 "java/lang/Throwable" "suppressedExceptions" "Ljava/util/List;" : Cond) ∈ vT := inR_12 _ (List.mem_of_getElem? (i := 38) rfl)
theorem vt_519 : (.soleField "java/lang/Throwable" "backtrace" : Cond) ∈ vT := inR_12 _ (List.mem_of_getElem? (i := 39) rfl)
theorem vt_520 : (.soleField "java/lang/Throwable" "detailMessage" : Cond) ∈ vT := inR_13 _ (List.mem_of_getElem? (i := 0) rfl)
theorem vt_521 : (.soleField "java/lang/Throwable" "cause" : Cond) ∈ vT := inR_13 _ (List.mem_of_getElem? (i := 1) rfl)
theorem vt_522 : (.soleField "java/lang/Throwable" "stackTrace" : Cond) ∈ vT := inR_13 _ (List.mem_of_getElem? (i := 2) rfl)
theorem vt_523 : (.soleField "java/lang/Throwable" "depth" : Cond) ∈ vT := inR_13 _ (List.mem_of_getElem? (i := 3) rfl)
theorem vt_524 : (.soleField "java/lang/Throwable" "suppressedExceptions" : Cond) ∈ vT := inR_13 _ (List.mem_of_getElem? (i := 4) rfl)
theorem vt_525 : (.instantiable "java/lang/IllegalArgumentException" 6 : Cond) ∈ vT := inR_13 _ (List.mem_of_getElem? (i := 5) rfl)
theorem vt_526 : (.selects "java/lang/IllegalArgumentException" ⟨"java/lang/Throwable", "fillInStackTrace", "(I)Ljava/lang/Throwable;"⟩ ⟨"java/lang/Throwable", "fillInStackTrace", "(I)Ljava/lang/Throwable;"⟩ : Cond) ∈ vT := inR_13 _ (List.mem_of_getElem? (i := 6) rfl)
theorem vt_527 : (.lays "java/lang/IllegalArgumentException" "java/lang/Throwable" "cause" "Ljava/lang/Throwable;" : Cond) ∈ vT := inR_13 _ (List.mem_of_getElem? (i := 7) rfl)
theorem vt_528 : (.lays "java/lang/IllegalArgumentException" "java/lang/Throwable" "stackTrace" "[Ljava/lang/StackTraceElement;" : Cond) ∈ vT := inR_13 _ (List.mem_of_getElem? (i := 8) rfl)
theorem vt_529 : (.lays "java/lang/IllegalArgumentException" "java/lang/Throwable" "suppressedExceptions" "Ljava/util/List;" : Cond) ∈ vT := inR_13 _ (List.mem_of_getElem? (i := 9) rfl)
theorem vt_530 : (.lays "java/lang/IllegalArgumentException" "java/lang/Throwable" "detailMessage" "Ljava/lang/String;" : Cond) ∈ vT := inR_13 _ (List.mem_of_getElem? (i := 10) rfl)
theorem vt_531 : (.lays "java/lang/IllegalArgumentException" "java/lang/Throwable" "backtrace" "Ljava/lang/Object;" : Cond) ∈ vT := inR_13 _ (List.mem_of_getElem? (i := 11) rfl)
theorem vt_532 : (.methodLink "FamilyKernel" 120 ⟨"java/lang/IllegalArgumentException", "<init>", "()V"⟩ : Cond) ∈ vT := inR_13 _ (List.mem_of_getElem? (i := 12) rfl)
theorem vt_533 : (.instanceMethod ⟨"java/lang/IllegalArgumentException", "<init>", "()V"⟩ : Cond) ∈ vT := inR_13 _ (List.mem_of_getElem? (i := 13) rfl)
theorem vt_534 : (.code ⟨"java/lang/IllegalArgumentException", "<init>", "()V"⟩ prog_18_method_1_code 1 none : Cond) ∈ vT := inR_13 _ (List.mem_of_getElem? (i := 14) rfl)
theorem vt_535 : (.methodLink "java/lang/IllegalArgumentException" 1 ⟨"java/lang/RuntimeException", "<init>", "()V"⟩ : Cond) ∈ vT := inR_13 _ (List.mem_of_getElem? (i := 15) rfl)
theorem vt_536 : (.lays "java/lang/IllegalArgumentException" "java/lang/Throwable" "depth" "I" : Cond) ∈ vT := inR_13 _ (List.mem_of_getElem? (i := 16) rfl)
theorem vt_537 : (.superclass "java/lang/IllegalArgumentException" "java/lang/RuntimeException" : Cond) ∈ vT := inR_13 _ (List.mem_of_getElem? (i := 17) rfl)
theorem vt_538 : (.instantiable "java/util/NoSuchElementException" 6 : Cond) ∈ vT := inR_13 _ (List.mem_of_getElem? (i := 18) rfl)
theorem vt_539 : (.selects "java/util/NoSuchElementException" ⟨"java/lang/Throwable", "fillInStackTrace", "(I)Ljava/lang/Throwable;"⟩ ⟨"java/lang/Throwable", "fillInStackTrace", "(I)Ljava/lang/Throwable;"⟩ : Cond) ∈ vT := inR_13 _ (List.mem_of_getElem? (i := 19) rfl)
theorem vt_540 : (.lays "java/util/NoSuchElementException" "java/lang/Throwable" "cause" "Ljava/lang/Throwable;" : Cond) ∈ vT := inR_13 _ (List.mem_of_getElem? (i := 20) rfl)
theorem vt_541 : (.lays "java/util/NoSuchElementException" "java/lang/Throwable" "stackTrace" "[Ljava/lang/StackTraceElement;" : Cond) ∈ vT := inR_13 _ (List.mem_of_getElem? (i := 21) rfl)
theorem vt_542 : (.lays "java/util/NoSuchElementException" "java/lang/Throwable" "suppressedExceptions" "Ljava/util/List;" : Cond) ∈ vT := inR_13 _ (List.mem_of_getElem? (i := 22) rfl)
theorem vt_543 : (.lays "java/util/NoSuchElementException" "java/lang/Throwable" "detailMessage" "Ljava/lang/String;" : Cond) ∈ vT := inR_13 _ (List.mem_of_getElem? (i := 23) rfl)
theorem vt_544 : (.lays "java/util/NoSuchElementException" "java/lang/Throwable" "backtrace" "Ljava/lang/Object;" : Cond) ∈ vT := inR_13 _ (List.mem_of_getElem? (i := 24) rfl)
theorem vt_545 : (.methodLink "FamilyKernel" 338 ⟨"java/util/NoSuchElementException", "<init>", "()V"⟩ : Cond) ∈ vT := inR_13 _ (List.mem_of_getElem? (i := 25) rfl)
theorem vt_546 : (.instanceMethod ⟨"java/util/NoSuchElementException", "<init>", "()V"⟩ : Cond) ∈ vT := inR_13 _ (List.mem_of_getElem? (i := 26) rfl)
theorem vt_547 : (.code ⟨"java/util/NoSuchElementException", "<init>", "()V"⟩ prog_29_method_1_code 1 none : Cond) ∈ vT := inR_13 _ (List.mem_of_getElem? (i := 27) rfl)
theorem vt_548 : (.methodLink "java/util/NoSuchElementException" 1 ⟨"java/lang/RuntimeException", "<init>", "()V"⟩ : Cond) ∈ vT := inR_13 _ (List.mem_of_getElem? (i := 28) rfl)
theorem vt_549 : (.lays "java/util/NoSuchElementException" "java/lang/Throwable" "depth" "I" : Cond) ∈ vT := inR_13 _ (List.mem_of_getElem? (i := 29) rfl)
theorem vt_550 : (.superclass "java/util/NoSuchElementException" "java/lang/RuntimeException" : Cond) ∈ vT := inR_13 _ (List.mem_of_getElem? (i := 30) rfl)
theorem vt_551 : (.instantiable "java/lang/IndexOutOfBoundsException" 6 : Cond) ∈ vT := inR_13 _ (List.mem_of_getElem? (i := 31) rfl)
theorem vt_552 : (.selects "java/lang/IndexOutOfBoundsException" ⟨"java/lang/Throwable", "fillInStackTrace", "(I)Ljava/lang/Throwable;"⟩ ⟨"java/lang/Throwable", "fillInStackTrace", "(I)Ljava/lang/Throwable;"⟩ : Cond) ∈ vT := inR_13 _ (List.mem_of_getElem? (i := 32) rfl)
theorem vt_553 : (.lays "java/lang/IndexOutOfBoundsException" "java/lang/Throwable" "cause" "Ljava/lang/Throwable;" : Cond) ∈ vT := inR_13 _ (List.mem_of_getElem? (i := 33) rfl)
theorem vt_554 : (.lays "java/lang/IndexOutOfBoundsException" "java/lang/Throwable" "stackTrace" "[Ljava/lang/StackTraceElement;" : Cond) ∈ vT := inR_13 _ (List.mem_of_getElem? (i := 34) rfl)
theorem vt_555 : (.lays "java/lang/IndexOutOfBoundsException" "java/lang/Throwable" "suppressedExceptions" "Ljava/util/List;" : Cond) ∈ vT := inR_13 _ (List.mem_of_getElem? (i := 35) rfl)
theorem vt_556 : (.lays "java/lang/IndexOutOfBoundsException" "java/lang/Throwable" "detailMessage" "Ljava/lang/String;" : Cond) ∈ vT := inR_13 _ (List.mem_of_getElem? (i := 36) rfl)
theorem vt_557 : (.lays "java/lang/IndexOutOfBoundsException" "java/lang/Throwable" "backtrace" "Ljava/lang/Object;" : Cond) ∈ vT := inR_13 _ (List.mem_of_getElem? (i := 37) rfl)
theorem vt_558 : (.methodLink "FamilyKernel" 352 ⟨"java/lang/IndexOutOfBoundsException", "<init>", "()V"⟩ : Cond) ∈ vT := inR_13 _ (List.mem_of_getElem? (i := 38) rfl)
theorem vt_559 : (.instanceMethod ⟨"java/lang/IndexOutOfBoundsException", "<init>", "()V"⟩ : Cond) ∈ vT := inR_13 _ (List.mem_of_getElem? (i := 39) rfl)
theorem vt_560 : (.code ⟨"java/lang/IndexOutOfBoundsException", "<init>", "()V"⟩ prog_20_method_1_code 1 none : Cond) ∈ vT := inR_14 _ (List.mem_of_getElem? (i := 0) rfl)
theorem vt_561 : (.methodLink "java/lang/IndexOutOfBoundsException" 1 ⟨"java/lang/RuntimeException", "<init>", "()V"⟩ : Cond) ∈ vT := inR_14 _ (List.mem_of_getElem? (i := 1) rfl)
theorem vt_562 : (.lays "java/lang/IndexOutOfBoundsException" "java/lang/Throwable" "depth" "I" : Cond) ∈ vT := inR_14 _ (List.mem_of_getElem? (i := 2) rfl)
theorem vt_563 : (.superclass "java/lang/IndexOutOfBoundsException" "java/lang/RuntimeException" : Cond) ∈ vT := inR_14 _ (List.mem_of_getElem? (i := 3) rfl)
theorem vt_564 : (.sameMethod "java/lang/Throwable" "java/lang/Throwable" "fillInStackTrace" "(I)Ljava/lang/Throwable;" : Cond) ∈ vT := inR_14 _ (List.mem_of_getElem? (i := 4) rfl)
theorem vr_f {big : List Cond} (ws : List Cond) (ps : List Nat) (hp : ws = ps.filterMap (fun i => big[i]?)) : ∀ w ∈ ws, w ∈ big := by
  intro w hw
  rw [hp] at hw
  obtain ⟨i, -, hi⟩ := List.mem_filterMap.mp hw
  exact List.mem_of_getElem? hi
theorem tl_Row : ∀ w ∈ u_ws R_Row T_Row 3, w ∈ lw_tbl := vr_f _ [54, 56, 58] (by decide +kernel)
theorem gd_Row : (u_ws R_Row T_Row 3).all goodWord = true := by decide +kernel
theorem tl_Meter : ∀ w ∈ u_ws R_Meter T_Meter 4, w ∈ lw_tbl := vr_f _ [72, 74, 76, 78] (by decide +kernel)
theorem gd_Meter : (u_ws R_Meter T_Meter 4).all goodWord = true := by decide +kernel
theorem tl_Terms : ∀ w ∈ u_ws R_Terms T_Terms 10, w ∈ lw_tbl := vr_f _ [100, 102, 104, 106, 108, 110, 112, 114, 116, 118] (by decide +kernel)
theorem gd_Terms : (u_ws R_Terms T_Terms 10).all goodWord = true := by decide +kernel
theorem tl_Env : ∀ w ∈ u_ws R_Env T_Env 3, w ∈ lw_tbl := vr_f _ [134, 136, 138] (by decide +kernel)
theorem gd_Env : (u_ws R_Env T_Env 3).all goodWord = true := by decide +kernel
theorem tl_Lex : ∀ w ∈ u_ws R_Lex T_Lex 7, w ∈ lw_tbl := vr_f _ [157, 159, 161, 163, 165, 167, 169] (by decide +kernel)
theorem gd_Lex : (u_ws R_Lex T_Lex 7).all goodWord = true := by decide +kernel
theorem tl_Par : ∀ w ∈ u_ws R_Par T_Par 20, w ∈ lw_tbl := vr_f _ [201, 203, 205, 207, 209, 211, 213, 215, 217, 219, 221, 223, 225, 227, 229, 231, 233, 235, 237, 239] (by decide +kernel)
theorem gd_Par : (u_ws R_Par T_Par 20).all goodWord = true := by decide +kernel
theorem tl_Fra : ∀ w ∈ u_ws R_Fra T_Fra 3, w ∈ lw_tbl := vr_f _ [254, 256, 258] (by decide +kernel)
theorem gd_Fra : (u_ws R_Fra T_Fra 3).all goodWord = true := by decide +kernel
theorem tl_Red : ∀ w ∈ u_ws R_Red T_Red 5, w ∈ lw_tbl := vr_f _ [275, 277, 279, 281, 283] (by decide +kernel)
theorem gd_Red : (u_ws R_Red T_Red 5).all goodWord = true := by decide +kernel
theorem tl_Typ : ∀ w ∈ u_ws R_Typ T_Typ 4, w ∈ lw_tbl := vr_f _ [296, 298, 300, 302] (by decide +kernel)
theorem gd_Typ : (u_ws R_Typ T_Typ 4).all goodWord = true := by decide +kernel
theorem tl_Fam : ∀ w ∈ u_ws R_Fam T_Fam 18, w ∈ lw_tbl := vr_f _ [332, 334, 336, 338, 340, 342, 344, 346, 348, 350, 352, 354, 356, 358, 360, 362, 364, 366] (by decide +kernel)
theorem gd_Fam : (u_ws R_Fam T_Fam 18).all goodWord = true := by decide +kernel
theorem tl_Pri : ∀ w ∈ u_ws R_Pri T_Pri 4, w ∈ lw_tbl := vr_f _ [382, 384, 386, 388] (by decide +kernel)
theorem gd_Pri : (u_ws R_Pri T_Pri 4).all goodWord = true := by decide +kernel
theorem tl_Ker : ∀ w ∈ u_ws R_Ker T_Ker 14, w ∈ lw_tbl := vr_f _ [405, 407, 409, 411, 413, 415, 417, 419, 421, 423, 425, 427, 429, 431] (by decide +kernel)
theorem gd_Ker : (u_ws R_Ker T_Ker 14).all goodWord = true := by decide +kernel
theorem tl_Mod : ∀ w ∈ u_ws R_Mod T_Mod 76, w ∈ lw_tbl := vr_f _ [1769, 1771, 1773, 1775, 1777, 1779, 1781, 1783, 1785, 1787, 1789, 1791, 1793, 1795, 1797, 1799, 1801, 1803, 1805, 1807, 1809, 1811, 1813, 1815, 1817, 1819, 1821, 1823, 1825, 1827, 1829, 1831, 1833, 1835, 1837, 1839, 1841, 1843, 1845, 1847, 1849, 1851, 1853, 1855, 1857, 1859, 1861, 1863, 1865, 1867, 1869, 1871, 1873, 1875, 1877, 1879, 1881, 1883, 1885, 1887, 1889, 1891, 1893, 1895, 1897, 1899, 1901, 1903, 1905, 1907, 1909, 1911, 1913, 1915, 1917, 1919] (by decide +kernel)
theorem gd_Mod : (u_ws R_Mod T_Mod 76).all goodWord = true := by decide +kernel
set_option maxRecDepth 100000 in
theorem tr_0 : ∀ w ∈ vR_0, w ∈ lw_tbl := vr_f _ [50, 42, 43, 61, 52, 51, 53, 67, 127, 128, 45, 9, 129, 49, 130, 48, 131, 132, 146, 150, 147, 148, 149, 151, 86, 90, 87, 88, 89, 91, 92, 93, 121, 94, 95, 96, 97, 98, 177, 181] rfl
theorem gdr_0 : vR_0.all goodWord = true := by decide +kernel
set_option maxRecDepth 100000 in
theorem tr_1 : ∀ w ∈ vR_1, w ∈ lw_tbl := vr_f _ [182, 183, 184, 185, 178, 179, 180, 186, 187, 188, 189, 247, 248, 249, 250, 251, 252, 266, 270, 271, 272, 273, 267, 268, 269, 274, 291, 292, 293, 294, 295, 310, 314, 315, 316, 317, 318, 311, 312, 313] rfl
theorem gdr_1 : vR_1.all goodWord = true := by decide +kernel
set_option maxRecDepth 100000 in
theorem tr_2 : ∀ w ∈ vR_2, w ∈ lw_tbl := vr_f _ [319, 320, 321, 322, 323, 374, 378, 379, 380, 375, 376, 377, 381, 41, 44, 46, 47, 391, 392, 62, 63, 10, 66, 65, 393, 81, 82, 11, 85, 83, 84, 394, 122, 123, 12, 126, 124, 125, 395, 141] rfl
theorem gdr_2 : vR_2.all goodWord = true := by decide +kernel
set_option maxRecDepth 100000 in
theorem tr_3 : ∀ w ∈ vR_3, w ∈ lw_tbl := vr_f _ [142, 13, 145, 143, 144, 396, 172, 173, 14, 176, 174, 175, 397, 242, 243, 15, 246, 244, 245, 398, 261, 262, 16, 265, 263, 264, 399, 286, 287, 17, 290, 288, 289, 400, 305, 306, 18, 309, 307, 308] rfl
theorem gdr_3 : vR_3.all goodWord = true := by decide +kernel
set_option maxRecDepth 100000 in
theorem tr_4 : ∀ w ∈ vR_4, w ∈ lw_tbl := vr_f _ [401, 369, 370, 19, 373, 371, 372, 402, 1689, 1690, 692, 1693, 1694, 1695, 1696, 1697, 1698, 1699, 1700, 1701, 1702, 1703, 1704, 1691, 1705, 1706, 1707, 1708, 1709, 1710, 1711, 1712, 1713, 1714, 1715, 1716, 1717, 1718, 1719, 1720] rfl
theorem gdr_4 : vR_4.all goodWord = true := by decide +kernel
set_option maxRecDepth 100000 in
theorem tr_5 : ∀ w ∈ vR_5, w ∈ lw_tbl := vr_f _ [1721, 1722, 1723, 1724, 1725, 1726, 1727, 1728, 1729, 1730, 1731, 1732, 1733, 1922, 1734, 1735, 1736, 1737, 1738, 1739, 1740, 1741, 1742, 1743, 1744, 1745, 1746, 1747, 1748, 1692, 1749, 1750, 1751, 1752, 1753, 1754, 1755, 1756, 1757, 1758] rfl
theorem gdr_5 : vR_5.all goodWord = true := by decide +kernel
set_option maxRecDepth 100000 in
theorem tr_6 : ∀ w ∈ vR_6, w ∈ lw_tbl := vr_f _ [1759, 1760, 1761, 1762, 1763, 1764, 1765, 1766, 1767, 1768, 69, 70, 593, 461, 462, 463, 133, 706, 590, 591, 592, 1574, 1545, 1546, 1547, 99, 154, 152, 460, 456, 458, 1, 459, 155, 156, 464, 465, 466, 467, 153] rfl
theorem gdr_6 : vR_6.all goodWord = true := by decide +kernel
set_option maxRecDepth 100000 in
theorem tr_7 : ∀ w ∈ vR_7, w ∈ lw_tbl := vr_f _ [447, 448, 449, 450, 451, 452, 454, 0, 455, 558, 559, 560, 561, 562, 563, 564, 581, 582, 583, 584, 439, 440, 441, 442, 443, 444, 445, 446, 585, 586, 587, 588, 1553, 1593, 1579, 1589, 1591, 2, 8, 1592] rfl
theorem gdr_7 : vR_7.all goodWord = true := by decide +kernel
set_option maxRecDepth 100000 in
theorem tr_8 : ∀ w ∈ vR_8, w ∈ lw_tbl := vr_f _ [1558, 1559, 1560, 1561, 1562, 1563, 1564, 1565, 589, 403, 404, 1540, 1436, 1437, 1438, 1570, 1571, 1572, 1573, 1533, 1400, 1401, 1402, 1602, 28, 1625, 34, 1668, 35, 1932, 1934, 3, 20, 1935, 2386, 2388, 6, 2389, 1949, 1951] rfl
theorem gdr_8 : vR_8.all goodWord = true := by decide +kernel
set_option maxRecDepth 100000 in
theorem tr_9 : ∀ w ∈ vR_9, w ∈ lw_tbl := vr_f _ [5, 1952, 1945, 1947, 4, 1948, 1931, 1598, 1599, 1600, 1601, 1597, 1621, 1622, 1623, 1624, 1620, 1644, 1645, 1646, 1647, 1655, 1656, 1657, 1658, 1664, 1665, 1666, 1667, 1663, 1584, 1585, 1586, 1587, 1580, 1581, 7, 1582, 1927, 1928] rfl
theorem gdr_9 : vR_9.all goodWord = true := by decide +kernel
set_option maxRecDepth 100000 in
theorem tr_10 : ∀ w ∈ vR_10, w ∈ lw_tbl := vr_f _ [1929, 1930, 1923, 1924, 1925, 1926, 1594, 1595, 1596, 1936, 1937, 1938, 1939, 1617, 1618, 1619, 2382, 2383, 2384, 2385, 1641, 1642, 1643, 2390, 2391, 2392, 2393, 1652, 1653, 1654, 2394, 2395, 2396, 2397, 1660, 1661, 1662, 2398, 2399, 2400] rfl
theorem gdr_10 : vR_10.all goodWord = true := by decide +kernel
set_option maxRecDepth 100000 in
theorem tr_11 : ∀ w ∈ vR_11, w ∈ lw_tbl := vr_f _ [2401, 434, 435, 436, 437, 1940, 1941, 1942, 1943, 1554, 1555, 1556, 1557, 2374, 2375, 2376, 2377, 1575, 1576, 1577, 1578, 2402, 2403, 2404, 2405, 1566, 1567, 1568, 1569, 2378, 2379, 2380, 2381, 37, 1685, 36, 40, 38, 39, 1684] rfl
theorem gdr_11 : vR_11.all goodWord = true := by decide +kernel
set_option maxRecDepth 100000 in
theorem tr_12 : ∀ w ∈ vR_12, w ∈ lw_tbl := vr_f _ [1688, 1686, 1687, 21, 22, 23, 638, 640, 642, 644, 646, 647, 648, 649, 650, 651, 652, 654, 656, 657, 658, 660, 661, 662, 663, 664, 666, 667, 668, 673, 674, 675, 676, 677, 678, 680, 681, 682, 683, 684] rfl
theorem gdr_12 : vR_12.all goodWord = true := by decide +kernel
set_option maxRecDepth 100000 in
theorem tr_13 : ∀ w ∈ vR_13, w ∈ lw_tbl := vr_f _ [685, 686, 687, 689, 690, 1603, 1605, 1606, 1607, 1608, 1609, 1610, 1611, 1612, 1613, 1614, 1615, 1616, 1626, 1628, 1629, 1630, 1631, 1632, 1633, 1634, 1635, 1636, 1637, 1638, 1639, 1669, 1671, 1672, 1673, 1674, 1675, 1676, 1677, 1678] rfl
theorem gdr_13 : vR_13.all goodWord = true := by decide +kernel
set_option maxRecDepth 100000 in
theorem tr_14 : ∀ w ∈ vR_14, w ∈ lw_tbl := vr_f _ [1679, 1680, 1681, 1682, 2406] rfl
theorem gdr_14 : vR_14.all goodWord = true := by decide +kernel
theorem vT_in : ∀ w ∈ vT, w ∈ lw_tbl := (fun w h => (List.mem_append.mp h).elim (tl_Row w) ((fun w h => (List.mem_append.mp h).elim (tl_Meter w) ((fun w h => (List.mem_append.mp h).elim (tl_Terms w) ((fun w h => (List.mem_append.mp h).elim (tl_Env w) ((fun w h => (List.mem_append.mp h).elim (tl_Lex w) ((fun w h => (List.mem_append.mp h).elim (tl_Par w) ((fun w h => (List.mem_append.mp h).elim (tl_Fra w) ((fun w h => (List.mem_append.mp h).elim (tl_Red w) ((fun w h => (List.mem_append.mp h).elim (tl_Typ w) ((fun w h => (List.mem_append.mp h).elim (tl_Fam w) ((fun w h => (List.mem_append.mp h).elim (tl_Pri w) ((fun w h => (List.mem_append.mp h).elim (tl_Ker w) ((fun w h => (List.mem_append.mp h).elim (tl_Mod w) ((fun w h => (List.mem_append.mp h).elim (tr_0 w) ((fun w h => (List.mem_append.mp h).elim (tr_1 w) ((fun w h => (List.mem_append.mp h).elim (tr_2 w) ((fun w h => (List.mem_append.mp h).elim (tr_3 w) ((fun w h => (List.mem_append.mp h).elim (tr_4 w) ((fun w h => (List.mem_append.mp h).elim (tr_5 w) ((fun w h => (List.mem_append.mp h).elim (tr_6 w) ((fun w h => (List.mem_append.mp h).elim (tr_7 w) ((fun w h => (List.mem_append.mp h).elim (tr_8 w) ((fun w h => (List.mem_append.mp h).elim (tr_9 w) ((fun w h => (List.mem_append.mp h).elim (tr_10 w) ((fun w h => (List.mem_append.mp h).elim (tr_11 w) ((fun w h => (List.mem_append.mp h).elim (tr_12 w) ((fun w h => (List.mem_append.mp h).elim (tr_13 w) (tr_14 w)) w)) w)) w)) w)) w)) w)) w)) w)) w)) w)) w)) w)) w)) w)) w)) w)) w)) w)) w)) w)) w)) w)) w)) w)) w)) w))
theorem ga {l : List Cond} (h : l.all goodWord = true) : ∀ w ∈ l, goodWord w = true := List.all_eq_true.mp h
theorem vT_good : ∀ w ∈ vT, goodWord w = true := (fun w h => (List.mem_append.mp h).elim ((ga gd_Row) w) ((fun w h => (List.mem_append.mp h).elim ((ga gd_Meter) w) ((fun w h => (List.mem_append.mp h).elim ((ga gd_Terms) w) ((fun w h => (List.mem_append.mp h).elim ((ga gd_Env) w) ((fun w h => (List.mem_append.mp h).elim ((ga gd_Lex) w) ((fun w h => (List.mem_append.mp h).elim ((ga gd_Par) w) ((fun w h => (List.mem_append.mp h).elim ((ga gd_Fra) w) ((fun w h => (List.mem_append.mp h).elim ((ga gd_Red) w) ((fun w h => (List.mem_append.mp h).elim ((ga gd_Typ) w) ((fun w h => (List.mem_append.mp h).elim ((ga gd_Fam) w) ((fun w h => (List.mem_append.mp h).elim ((ga gd_Pri) w) ((fun w h => (List.mem_append.mp h).elim ((ga gd_Ker) w) ((fun w h => (List.mem_append.mp h).elim ((ga gd_Mod) w) ((fun w h => (List.mem_append.mp h).elim ((ga gdr_0) w) ((fun w h => (List.mem_append.mp h).elim ((ga gdr_1) w) ((fun w h => (List.mem_append.mp h).elim ((ga gdr_2) w) ((fun w h => (List.mem_append.mp h).elim ((ga gdr_3) w) ((fun w h => (List.mem_append.mp h).elim ((ga gdr_4) w) ((fun w h => (List.mem_append.mp h).elim ((ga gdr_5) w) ((fun w h => (List.mem_append.mp h).elim ((ga gdr_6) w) ((fun w h => (List.mem_append.mp h).elim ((ga gdr_7) w) ((fun w h => (List.mem_append.mp h).elim ((ga gdr_8) w) ((fun w h => (List.mem_append.mp h).elim ((ga gdr_9) w) ((fun w h => (List.mem_append.mp h).elim ((ga gdr_10) w) ((fun w h => (List.mem_append.mp h).elim ((ga gdr_11) w) ((fun w h => (List.mem_append.mp h).elim ((ga gdr_12) w) ((fun w h => (List.mem_append.mp h).elim ((ga gdr_13) w) ((ga gdr_14) w)) w)) w)) w)) w)) w)) w)) w)) w)) w)) w)) w)) w)) w)) w)) w)) w)) w)) w)) w)) w)) w)) w)) w)) w)) w)) w))
abbrev b_Row_init : ByteArray := prog_10_method_1_code
abbrev y_Row_init : MethodName := ⟨"FamilyKernel$Row", "<init>", "(II)V"⟩
abbrev w_Row_init : List Cond := .code y_Row_init b_Row_init 3 none :: vT
abbrev b_Row_size : ByteArray := prog_10_method_2_code
abbrev y_Row_size : MethodName := ⟨"FamilyKernel$Row", "size", "()I"⟩
abbrev w_Row_size : List Cond := .code y_Row_size b_Row_size 1 (some .int) :: vT
abbrev b_Row_at : ByteArray := prog_10_method_3_code
abbrev y_Row_at : MethodName := ⟨"FamilyKernel$Row", "at", "(I)I"⟩
abbrev w_Row_at : List Cond := .code y_Row_at b_Row_at 2 (some .int) :: vT
abbrev b_Row_push : ByteArray := prog_10_method_5_code
abbrev y_Row_push : MethodName := ⟨"FamilyKernel$Row", "push", "(I)V"⟩
abbrev w_Row_push : List Cond := .code y_Row_push b_Row_push 2 none :: vT
abbrev b_Row_cut : ByteArray := prog_10_method_7_code
abbrev y_Row_cut : MethodName := ⟨"FamilyKernel$Row", "cut", "(I)V"⟩
abbrev w_Row_cut : List Cond := .code y_Row_cut b_Row_cut 2 none :: vT
abbrev b_Meter_init : ByteArray := prog_6_method_1_code
abbrev y_Meter_init : MethodName := ⟨"FamilyKernel$Meter", "<init>", "()V"⟩
abbrev w_Meter_init : List Cond := .code y_Meter_init b_Meter_init 1 none :: vT
abbrev b_Env_init : ByteArray := prog_2_method_1_code
abbrev y_Env_init : MethodName := ⟨"FamilyKernel$Environment", "<init>", "()V"⟩
abbrev w_Env_init : List Cond := .code y_Env_init b_Env_init 1 none :: vT
abbrev b_Lex_init : ByteArray := prog_5_method_1_code
abbrev y_Lex_init : MethodName := ⟨"FamilyKernel$Lexer", "<init>", "(LFamilyKernel$Row;)V"⟩
abbrev w_Lex_init : List Cond := .code y_Lex_init b_Lex_init 2 none :: vT
abbrev b_Terms_init : ByteArray := prog_11_method_1_code
abbrev y_Terms_init : MethodName := ⟨"FamilyKernel$Terms", "<init>", "(LFamilyKernel$Meter;)V"⟩
abbrev w_Terms_init : List Cond := .code y_Terms_init b_Terms_init 2 none :: vT
abbrev b_Par_init : ByteArray := prog_7_method_1_code
abbrev y_Par_init : MethodName := ⟨"FamilyKernel$Parser", "<init>", "(LFamilyKernel$Row;LFamilyKernel$Lexer;LFamilyKernel$Meter;LFamilyKernel$Terms;LFamilyKernel$Environment;)V"⟩
abbrev w_Par_init : List Cond := .code y_Par_init b_Par_init 6 none :: vT
abbrev b_Fra_init : ByteArray := prog_4_method_1_code
abbrev y_Fra_init : MethodName := ⟨"FamilyKernel$Frames", "<init>", "()V"⟩
abbrev w_Fra_init : List Cond := .code y_Fra_init b_Fra_init 1 none :: vT
abbrev b_Red_init : ByteArray := prog_9_method_1_code
abbrev y_Red_init : MethodName := ⟨"FamilyKernel$Reducer", "<init>", "(LFamilyKernel$Frames;LFamilyKernel$Meter;LFamilyKernel$Terms;LFamilyKernel$Environment;)V"⟩
abbrev w_Red_init : List Cond := .code y_Red_init b_Red_init 5 none :: vT
abbrev b_Typ_init : ByteArray := prog_12_method_1_code
abbrev y_Typ_init : MethodName := ⟨"FamilyKernel$Typer", "<init>", "(LFamilyKernel$Frames;LFamilyKernel$Meter;LFamilyKernel$Terms;LFamilyKernel$Environment;)V"⟩
abbrev w_Typ_init : List Cond := .code y_Typ_init b_Typ_init 5 none :: vT
abbrev b_Fam_init : ByteArray := prog_3_method_1_code
abbrev y_Fam_init : MethodName := ⟨"FamilyKernel$Families", "<init>", "(LFamilyKernel$Frames;LFamilyKernel$Meter;LFamilyKernel$Terms;LFamilyKernel$Environment;LFamilyKernel$Parser;)V"⟩
abbrev w_Fam_init : List Cond := .code y_Fam_init b_Fam_init 6 none :: vT
abbrev b_Pri_init : ByteArray := prog_8_method_1_code
abbrev y_Pri_init : MethodName := ⟨"FamilyKernel$Printer", "<init>", "(LFamilyKernel$Row;LFamilyKernel$Terms;LFamilyKernel$Environment;)V"⟩
abbrev w_Pri_init : List Cond := .code y_Pri_init b_Pri_init 4 none :: vT
abbrev b_Ker_init : ByteArray := prog_1_method_1_code
abbrev y_Ker_init : MethodName := ⟨"FamilyKernel", "<init>", "()V"⟩
abbrev w_Ker_init : List Cond := .code y_Ker_init b_Ker_init 1 none :: vT
abbrev b_Mod_init : ByteArray := prog_14_method_2_code
abbrev y_Mod_init : MethodName := ⟨"FamilyKernelModel", "<init>", "()V"⟩
abbrev w_Mod_init : List Cond := .code y_Mod_init b_Mod_init 1 none :: vT
abbrev b_Meter_forget : ByteArray := prog_6_method_2_code
abbrev y_Meter_forget : MethodName := ⟨"FamilyKernel$Meter", "forget", "()V"⟩
abbrev w_Meter_forget : List Cond := .code y_Meter_forget b_Meter_forget 1 none :: vT
abbrev b_Meter_code : ByteArray := prog_6_method_5_code
abbrev y_Meter_code : MethodName := ⟨"FamilyKernel$Meter", "code", "()I"⟩
abbrev w_Meter_code : List Cond := .code y_Meter_code b_Meter_code 1 (some .int) :: vT
abbrev b_Meter_place : ByteArray := prog_6_method_6_code
abbrev y_Meter_place : MethodName := ⟨"FamilyKernel$Meter", "place", "()I"⟩
abbrev w_Meter_place : List Cond := .code y_Meter_place b_Meter_place 1 (some .int) :: vT
abbrev b_Env_length : ByteArray := prog_2_method_2_code
abbrev y_Env_length : MethodName := ⟨"FamilyKernel$Environment", "length", "()I"⟩
abbrev w_Env_length : List Cond := .code y_Env_length b_Env_length 1 (some .int) :: vT
abbrev b_Env_sizes : ByteArray := prog_2_method_3_code
abbrev y_Env_sizes : MethodName := ⟨"FamilyKernel$Environment", "sizes", "()I"⟩
abbrev w_Env_sizes : List Cond := .code y_Env_sizes b_Env_sizes 1 (some .int) :: vT
abbrev b_Env_cut : ByteArray := prog_2_method_9_code
abbrev y_Env_cut : MethodName := ⟨"FamilyKernel$Environment", "cut", "(I)V"⟩
abbrev w_Env_cut : List Cond := .code y_Env_cut b_Env_cut 2 none :: vT
abbrev b_Env_clear : ByteArray := prog_2_method_5_code
abbrev y_Env_clear : MethodName := ⟨"FamilyKernel$Environment", "clear", "()V"⟩
abbrev w_Env_clear : List Cond := .code y_Env_clear b_Env_clear 1 none :: vT
abbrev b_Terms_release : ByteArray := prog_11_method_17_code
abbrev y_Terms_release : MethodName := ⟨"FamilyKernel$Terms", "release", "(I)V"⟩
abbrev w_Terms_release : List Cond := .code y_Terms_release b_Terms_release 3 none :: vT
abbrev b_Lex_kind : ByteArray := prog_5_method_4_code
abbrev y_Lex_kind : MethodName := ⟨"FamilyKernel$Lexer", "kind", "()I"⟩
abbrev w_Lex_kind : List Cond := .code y_Lex_kind b_Lex_kind 1 (some .int) :: vT
abbrev b_Lex_named : ByteArray := prog_5_method_7_code
abbrev y_Lex_named : MethodName := ⟨"FamilyKernel$Lexer", "named", "(II)I"⟩
abbrev w_Lex_named : List Cond := .code y_Lex_named b_Lex_named 2 (some .int) :: vT
abbrev b_Lex_skip : ByteArray := prog_5_method_15_code
abbrev y_Lex_skip : MethodName := ⟨"FamilyKernel$Lexer", "skip", "()V"⟩
abbrev w_Lex_skip : List Cond := .code y_Lex_skip b_Lex_skip 3 none :: vT
abbrev b_Lex_scan : ByteArray := prog_5_method_14_code
abbrev y_Lex_scan : MethodName := ⟨"FamilyKernel$Lexer", "scan", "()V"⟩
abbrev w_Lex_scan : List Cond := .code y_Lex_scan b_Lex_scan 2 none :: vT
abbrev b_Lex_advance : ByteArray := prog_5_method_3_code
abbrev y_Lex_advance : MethodName := ⟨"FamilyKernel$Lexer", "advance", "()V"⟩
abbrev w_Lex_advance : List Cond := .code y_Lex_advance b_Lex_advance 2 none :: vT
abbrev b_Lex_begin : ByteArray := prog_5_method_2_code
abbrev y_Lex_begin : MethodName := ⟨"FamilyKernel$Lexer", "begin", "()V"⟩
abbrev w_Lex_begin : List Cond := .code y_Lex_begin b_Lex_begin 2 none :: vT
abbrev b_Ker_read : ByteArray := prog_1_method_5_code
abbrev y_Ker_read : MethodName := ⟨"FamilyKernel", "read", "()I"⟩
abbrev w_Ker_read : List Cond := .codeWith y_Ker_read b_Ker_read 6 (some .int) [(65, 104, 107, 108)] :: vT
abbrev b_Ker_takeBytes : ByteArray := prog_1_method_3_code
abbrev y_Ker_takeBytes : MethodName := ⟨"FamilyKernel", "takeBytes", "(I)V"⟩
abbrev w_Ker_takeBytes : List Cond := .code y_Ker_takeBytes b_Ker_takeBytes 3 none :: vT
abbrev b_Ker_feed : ByteArray := prog_1_method_2_code
abbrev y_Ker_feed : MethodName := ⟨"FamilyKernel", "feed", "(IIIII)I"⟩
abbrev w_Ker_feed : List Cond := .code y_Ker_feed b_Ker_feed 6 (some .int) :: vT
abbrev b_Ker_end : ByteArray := prog_1_method_4_code
abbrev y_Ker_end : MethodName := ⟨"FamilyKernel", "end", "(I)I"⟩
abbrev w_Ker_end : List Cond := .code y_Ker_end b_Ker_end 2 (some .int) :: vT
abbrev b_Ker_fault : ByteArray := prog_1_method_9_code
abbrev y_Ker_fault : MethodName := ⟨"FamilyKernel", "fault", "(I)I"⟩
abbrev w_Ker_fault : List Cond := .code y_Ker_fault b_Ker_fault 2 (some .int) :: vT
abbrev b_Ker_count : ByteArray := prog_1_method_15_code
abbrev y_Ker_count : MethodName := ⟨"FamilyKernel", "count", "(I)I"⟩
abbrev w_Ker_count : List Cond := .code y_Ker_count b_Ker_count 2 (some .int) :: vT
abbrev b_Ker_reset : ByteArray := prog_1_method_10_code
abbrev y_Ker_reset : MethodName := ⟨"FamilyKernel", "reset", "()I"⟩
abbrev w_Ker_reset : List Cond := .code y_Ker_reset b_Ker_reset 2 (some .int) :: vT
abbrev b_Ker_constant : ByteArray := prog_1_method_11_code
abbrev y_Ker_constant : MethodName := ⟨"FamilyKernel", "constant", "(II)I"⟩
abbrev w_Ker_constant : List Cond := .code y_Ker_constant b_Ker_constant 4 (some .int) :: vT
abbrev b_Ker_show : ByteArray := prog_1_method_12_code
abbrev y_Ker_show : MethodName := ⟨"FamilyKernel", "show", "(II)I"⟩
abbrev w_Ker_show : List Cond := .code y_Ker_show b_Ker_show 3 (some .int) :: vT
abbrev b_Ker_out : ByteArray := prog_1_method_14_code
abbrev y_Ker_out : MethodName := ⟨"FamilyKernel", "out", "(I)I"⟩
abbrev w_Ker_out : List Cond := .code y_Ker_out b_Ker_out 2 (some .int) :: vT
abbrev b_Ker_showRec : ByteArray := prog_1_method_13_code
abbrev y_Ker_showRec : MethodName := ⟨"FamilyKernel", "showRec", "(II)I"⟩
abbrev w_Ker_showRec : List Cond := .code y_Ker_showRec b_Ker_showRec 4 (some .int) :: vT
abbrev b_Mod_thrown : ByteArray := prog_14_method_3_code
abbrev y_Mod_thrown : MethodName := ⟨"FamilyKernelModel", "thrown", "()I"⟩
abbrev w_Mod_thrown : List Cond := .code y_Mod_thrown b_Mod_thrown 1 (some .int) :: vT
abbrev b_Mod_refuse : ByteArray := prog_14_method_4_code
abbrev y_Mod_refuse : MethodName := ⟨"FamilyKernelModel", "refuse", "(IZ)Z"⟩
abbrev w_Mod_refuse : List Cond := .code y_Mod_refuse b_Mod_refuse 3 (some .boolean) :: vT
abbrev b_Mod_none : ByteArray := prog_14_method_93_code
abbrev y_Mod_none : MethodName := ⟨"FamilyKernelModel", "none", "(I)Z"⟩
abbrev w_Mod_none : List Cond := .code y_Mod_none b_Mod_none 2 (some .boolean) :: vT
abbrev b_Mod_out : ByteArray := prog_14_method_106_code
abbrev y_Mod_out : MethodName := ⟨"FamilyKernelModel", "out", "(I)I"⟩
abbrev w_Mod_out : List Cond := .code y_Mod_out b_Mod_out 2 (some .int) :: vT
abbrev b_Mod_end : ByteArray := prog_14_method_6_code
abbrev y_Mod_end : MethodName := ⟨"FamilyKernelModel", "end", "(I)I"⟩
abbrev w_Mod_end : List Cond := .code y_Mod_end b_Mod_end 2 (some .int) :: vT
abbrev b_Mod_constant : ByteArray := prog_14_method_94_code
abbrev y_Mod_constant : MethodName := ⟨"FamilyKernelModel", "constant", "(II)I"⟩
abbrev w_Mod_constant : List Cond := .code y_Mod_constant b_Mod_constant 4 (some .int) :: vT
abbrev b_Mod_show : ByteArray := prog_14_method_104_code
abbrev y_Mod_show : MethodName := ⟨"FamilyKernelModel", "show", "(II)I"⟩
abbrev w_Mod_show : List Cond := .code y_Mod_show b_Mod_show 3 (some .int) :: vT
abbrev b_Mod_showRec : ByteArray := prog_14_method_105_code
abbrev y_Mod_showRec : MethodName := ⟨"FamilyKernelModel", "showRec", "(II)I"⟩
abbrev w_Mod_showRec : List Cond := .code y_Mod_showRec b_Mod_showRec 4 (some .int) :: vT
abbrev b_Mod_fault : ByteArray := prog_14_method_91_code
abbrev y_Mod_fault : MethodName := ⟨"FamilyKernelModel", "fault", "(I)I"⟩
abbrev w_Mod_fault : List Cond := .code y_Mod_fault b_Mod_fault 2 (some .int) :: vT
abbrev b_Mod_count : ByteArray := prog_14_method_107_code
abbrev y_Mod_count : MethodName := ⟨"FamilyKernelModel", "count", "(I)I"⟩
abbrev w_Mod_count : List Cond := .code y_Mod_count b_Mod_count 2 (some .int) :: vT
abbrev b_Mod_reset : ByteArray := prog_14_method_92_code
abbrev y_Mod_reset : MethodName := ⟨"FamilyKernelModel", "reset", "()I"⟩
abbrev w_Mod_reset : List Cond := .code y_Mod_reset b_Mod_reset 2 (some .int) :: vT
abbrev b_Mod_parts : ByteArray := prog_14_method_10_code
abbrev y_Mod_parts : MethodName := ⟨"FamilyKernelModel", "parts", "()V"⟩
abbrev w_Mod_parts : List Cond := .code y_Mod_parts b_Mod_parts 2 none :: vT
abbrev b_Mod_peek : ByteArray := prog_14_method_11_code
abbrev y_Mod_peek : MethodName := ⟨"FamilyKernelModel", "peek", "()I"⟩
abbrev w_Mod_peek : List Cond := .code y_Mod_peek b_Mod_peek 2 (some .int) :: vT
abbrev b_Mod_read : ByteArray := prog_14_method_69_code
abbrev y_Mod_read : MethodName := ⟨"FamilyKernelModel", "read", "()I"⟩
abbrev w_Mod_read : List Cond := .codeWith y_Mod_read b_Mod_read 7 (some .int) [(49, 114, 117, 1)] :: vT
abbrev b_Mod_feed : ByteArray := prog_14_method_5_code
abbrev y_Mod_feed : MethodName := ⟨"FamilyKernelModel", "feed", "(IIIII)I"⟩
abbrev w_Mod_feed : List Cond := .code y_Mod_feed b_Mod_feed 8 (some .int) :: vT
abbrev b_Law_end : ByteArray := method_4_code
abbrev y_Law_end : MethodName := ⟨"FamilyKernelLaw", "end", "(LFamilyKernel;I[J)I"⟩
abbrev w_Law_end : List Cond := .codeWith y_Law_end b_Law_end 4 (some .int) [(0, 9, 12, 19)] :: vT
abbrev b_Law_constant : ByteArray := method_5_code
abbrev y_Law_constant : MethodName := ⟨"FamilyKernelLaw", "constant", "(LFamilyKernel;II[J)I"⟩
abbrev w_Law_constant : List Cond := .codeWith y_Law_constant b_Law_constant 5 (some .int) [(0, 10, 13, 25), (0, 10, 17, 19)] :: vT
abbrev b_Law_show : ByteArray := method_6_code
abbrev y_Law_show : MethodName := ⟨"FamilyKernelLaw", "show", "(LFamilyKernel;II[J)I"⟩
abbrev w_Law_show : List Cond := .codeWith y_Law_show b_Law_show 5 (some .int) [(0, 10, 13, 25), (0, 10, 17, 19)] :: vT
abbrev b_Law_showRec : ByteArray := method_7_code
abbrev y_Law_showRec : MethodName := ⟨"FamilyKernelLaw", "showRec", "(LFamilyKernel;II[J)I"⟩
abbrev w_Law_showRec : List Cond := .codeWith y_Law_showRec b_Law_showRec 5 (some .int) [(0, 10, 13, 25)] :: vT
abbrev b_Law_out : ByteArray := method_8_code
abbrev y_Law_out : MethodName := ⟨"FamilyKernelLaw", "out", "(LFamilyKernel;I[J)I"⟩
abbrev w_Law_out : List Cond := .codeWith y_Law_out b_Law_out 4 (some .int) [(0, 9, 12, 36)] :: vT
abbrev b_Law_feed : ByteArray := method_3_code
abbrev y_Law_feed : MethodName := ⟨"FamilyKernelLaw", "feed", "(LFamilyKernel;IIIII[J)I"⟩
abbrev w_Law_feed : List Cond := .codeWith y_Law_feed b_Law_feed 8 (some .int) [(0, 16, 19, 13)] :: vT
abbrev b_Law_law : ByteArray := code
abbrev y_Law_law : MethodName := ⟨"FamilyKernelLaw", "law", "([I)Z"⟩
abbrev w_Law_law : List Cond := .code y_Law_law b_Law_law 7 (some .boolean) :: vT
