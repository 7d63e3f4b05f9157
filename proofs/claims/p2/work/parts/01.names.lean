-- names: classes, fields, methods, the words that every contract carries (vT), their places
abbrev R_Row : String := "FamilyKernel$Row"
def T_Row : u_T := fun k => match k with
  | 0 => ("FamilyKernel$Row", "most", "I", true)
  | 1 => ("FamilyKernel$Row", "cells", "[I", false)
  | _ => ("FamilyKernel$Row", "length", "I", false)
def ty_Row : Nat → FieldType := fun k => match k with
  | 0 => .int
  | 1 => .array .int
  | _ => .int
theorem nm_Row : ∀ a, a < 3 → ∀ b, b < 3 → a ≠ b → (T_Row a).2.1 ≠ (T_Row b).2.1 := by decide +kernel
theorem tyo_Row : ∀ k, k < 3 → parseFieldDescriptor (T_Row k).2.2.1 = some (ty_Row k) := by decide +kernel
theorem df_Row : ∀ j, j < 3 → defaultValue (ty_Row j) = vp_V [.int 0, .null, .int 0] j := by decide +kernel
abbrev R_Meter : String := "FamilyKernel$Meter"
def T_Meter : u_T := fun k => match k with
  | 0 => ("FamilyKernel$Meter", "work", "I", false)
  | 1 => ("FamilyKernel$Meter", "code", "I", false)
  | 2 => ("FamilyKernel$Meter", "place", "I", false)
  | _ => ("FamilyKernel$Meter", "start", "I", false)
def ty_Meter : Nat → FieldType := fun k => match k with
  | 0 => .int
  | 1 => .int
  | 2 => .int
  | _ => .int
theorem nm_Meter : ∀ a, a < 4 → ∀ b, b < 4 → a ≠ b → (T_Meter a).2.1 ≠ (T_Meter b).2.1 := by decide +kernel
theorem tyo_Meter : ∀ k, k < 4 → parseFieldDescriptor (T_Meter k).2.2.1 = some (ty_Meter k) := by decide +kernel
theorem df_Meter : ∀ j, j < 4 → defaultValue (ty_Meter j) = vp_V [.int 0, .int 0, .int 0, .int 0] j := by decide +kernel
abbrev R_Terms : String := "FamilyKernel$Terms"
def T_Terms : u_T := fun k => match k with
  | 0 => ("FamilyKernel$Terms", "meter", "LFamilyKernel$Meter;", true)
  | 1 => ("FamilyKernel$Terms", "todo", "LFamilyKernel$Row;", true)
  | 2 => ("FamilyKernel$Terms", "offsets", "LFamilyKernel$Row;", true)
  | 3 => ("FamilyKernel$Terms", "built", "LFamilyKernel$Row;", true)
  | 4 => ("FamilyKernel$Terms", "infos", "[J", false)
  | 5 => ("FamilyKernel$Terms", "lefts", "[I", false)
  | 6 => ("FamilyKernel$Terms", "rights", "[I", false)
  | 7 => ("FamilyKernel$Terms", "links", "[I", false)
  | 8 => ("FamilyKernel$Terms", "heads", "[I", false)
  | _ => ("FamilyKernel$Terms", "length", "I", false)
def ty_Terms : Nat → FieldType := fun k => match k with
  | 0 => .object "FamilyKernel$Meter"
  | 1 => .object "FamilyKernel$Row"
  | 2 => .object "FamilyKernel$Row"
  | 3 => .object "FamilyKernel$Row"
  | 4 => .array .long
  | 5 => .array .int
  | 6 => .array .int
  | 7 => .array .int
  | 8 => .array .int
  | _ => .int
theorem nm_Terms : ∀ a, a < 10 → ∀ b, b < 10 → a ≠ b → (T_Terms a).2.1 ≠ (T_Terms b).2.1 := by decide +kernel
theorem tyo_Terms : ∀ k, k < 10 → parseFieldDescriptor (T_Terms k).2.2.1 = some (ty_Terms k) := by decide +kernel
theorem df_Terms : ∀ j, j < 10 → defaultValue (ty_Terms j) = vp_V [.null, .null, .null, .null, .null, .null, .null, .null, .null, .int 0] j := by decide +kernel
abbrev R_Env : String := "FamilyKernel$Environment"
def T_Env : u_T := fun k => match k with
  | 0 => ("FamilyKernel$Environment", "facts", "LFamilyKernel$Row;", true)
  | 1 => ("FamilyKernel$Environment", "names", "LFamilyKernel$Row;", true)
  | _ => ("FamilyKernel$Environment", "sizes", "I", false)
def ty_Env : Nat → FieldType := fun k => match k with
  | 0 => .object "FamilyKernel$Row"
  | 1 => .object "FamilyKernel$Row"
  | _ => .int
theorem nm_Env : ∀ a, a < 3 → ∀ b, b < 3 → a ≠ b → (T_Env a).2.1 ≠ (T_Env b).2.1 := by decide +kernel
theorem tyo_Env : ∀ k, k < 3 → parseFieldDescriptor (T_Env k).2.2.1 = some (ty_Env k) := by decide +kernel
theorem df_Env : ∀ j, j < 3 → defaultValue (ty_Env j) = vp_V [.null, .null, .int 0] j := by decide +kernel
abbrev R_Lex : String := "FamilyKernel$Lexer"
def T_Lex : u_T := fun k => match k with
  | 0 => ("FamilyKernel$Lexer", "text", "LFamilyKernel$Row;", true)
  | 1 => ("FamilyKernel$Lexer", "tokens", "LFamilyKernel$Row;", true)
  | 2 => ("FamilyKernel$Lexer", "place", "I", false)
  | 3 => ("FamilyKernel$Lexer", "at", "I", false)
  | 4 => ("FamilyKernel$Lexer", "kind", "I", false)
  | 5 => ("FamilyKernel$Lexer", "start", "I", false)
  | _ => ("FamilyKernel$Lexer", "length", "I", false)
def ty_Lex : Nat → FieldType := fun k => match k with
  | 0 => .object "FamilyKernel$Row"
  | 1 => .object "FamilyKernel$Row"
  | 2 => .int
  | 3 => .int
  | 4 => .int
  | 5 => .int
  | _ => .int
theorem nm_Lex : ∀ a, a < 7 → ∀ b, b < 7 → a ≠ b → (T_Lex a).2.1 ≠ (T_Lex b).2.1 := by decide +kernel
theorem tyo_Lex : ∀ k, k < 7 → parseFieldDescriptor (T_Lex k).2.2.1 = some (ty_Lex k) := by decide +kernel
theorem df_Lex : ∀ j, j < 7 → defaultValue (ty_Lex j) = vp_V [.null, .null, .int 0, .int 0, .int 0, .int 0, .int 0] j := by decide +kernel
abbrev R_Par : String := "FamilyKernel$Parser"
def T_Par : u_T := fun k => match k with
  | 0 => ("FamilyKernel$Parser", "text", "LFamilyKernel$Row;", true)
  | 1 => ("FamilyKernel$Parser", "lexer", "LFamilyKernel$Lexer;", true)
  | 2 => ("FamilyKernel$Parser", "meter", "LFamilyKernel$Meter;", true)
  | 3 => ("FamilyKernel$Parser", "terms", "LFamilyKernel$Terms;", true)
  | 4 => ("FamilyKernel$Parser", "environment", "LFamilyKernel$Environment;", true)
  | 5 => ("FamilyKernel$Parser", "open", "LFamilyKernel$Row;", true)
  | 6 => ("FamilyKernel$Parser", "scope", "LFamilyKernel$Row;", true)
  | 7 => ("FamilyKernel$Parser", "pending", "LFamilyKernel$Row;", true)
  | 8 => ("FamilyKernel$Parser", "binders", "LFamilyKernel$Row;", true)
  | 9 => ("FamilyKernel$Parser", "state", "I", false)
  | 10 => ("FamilyKernel$Parser", "nest", "I", false)
  | 11 => ("FamilyKernel$Parser", "current", "I", false)
  | 12 => ("FamilyKernel$Parser", "copies", "I", false)
  | 13 => ("FamilyKernel$Parser", "textSize", "I", false)
  | 14 => ("FamilyKernel$Parser", "known", "I", false)
  | 15 => ("FamilyKernel$Parser", "constant", "I", false)
  | 16 => ("FamilyKernel$Parser", "task", "I", false)
  | 17 => ("FamilyKernel$Parser", "type", "I", false)
  | 18 => ("FamilyKernel$Parser", "value", "I", false)
  | _ => ("FamilyKernel$Parser", "nodes", "I", false)
def ty_Par : Nat → FieldType := fun k => match k with
  | 0 => .object "FamilyKernel$Row"
  | 1 => .object "FamilyKernel$Lexer"
  | 2 => .object "FamilyKernel$Meter"
  | 3 => .object "FamilyKernel$Terms"
  | 4 => .object "FamilyKernel$Environment"
  | 5 => .object "FamilyKernel$Row"
  | 6 => .object "FamilyKernel$Row"
  | 7 => .object "FamilyKernel$Row"
  | 8 => .object "FamilyKernel$Row"
  | 9 => .int
  | 10 => .int
  | 11 => .int
  | 12 => .int
  | 13 => .int
  | 14 => .int
  | 15 => .int
  | 16 => .int
  | 17 => .int
  | 18 => .int
  | _ => .int
theorem nm_Par : ∀ a, a < 20 → ∀ b, b < 20 → a ≠ b → (T_Par a).2.1 ≠ (T_Par b).2.1 := by decide +kernel
theorem tyo_Par : ∀ k, k < 20 → parseFieldDescriptor (T_Par k).2.2.1 = some (ty_Par k) := by decide +kernel
theorem df_Par : ∀ j, j < 20 → defaultValue (ty_Par j) = vp_V [.null, .null, .null, .null, .null, .null, .null, .null, .null, .int 0, .int 0, .int 0, .int 0, .int 0, .int 0, .int 0, .int 0, .int 0, .int 0, .int 0] j := by decide +kernel
abbrev R_Fra : String := "FamilyKernel$Frames"
def T_Fra : u_T := fun k => match k with
  | 0 => ("FamilyKernel$Frames", "cells", "LFamilyKernel$Row;", true)
  | 1 => ("FamilyKernel$Frames", "types", "LFamilyKernel$Row;", true)
  | _ => ("FamilyKernel$Frames", "result", "I", false)
def ty_Fra : Nat → FieldType := fun k => match k with
  | 0 => .object "FamilyKernel$Row"
  | 1 => .object "FamilyKernel$Row"
  | _ => .int
theorem nm_Fra : ∀ a, a < 3 → ∀ b, b < 3 → a ≠ b → (T_Fra a).2.1 ≠ (T_Fra b).2.1 := by decide +kernel
theorem tyo_Fra : ∀ k, k < 3 → parseFieldDescriptor (T_Fra k).2.2.1 = some (ty_Fra k) := by decide +kernel
theorem df_Fra : ∀ j, j < 3 → defaultValue (ty_Fra j) = vp_V [.null, .null, .int 0] j := by decide +kernel
abbrev R_Red : String := "FamilyKernel$Reducer"
def T_Red : u_T := fun k => match k with
  | 0 => ("FamilyKernel$Reducer", "frames", "LFamilyKernel$Frames;", true)
  | 1 => ("FamilyKernel$Reducer", "meter", "LFamilyKernel$Meter;", true)
  | 2 => ("FamilyKernel$Reducer", "terms", "LFamilyKernel$Terms;", true)
  | 3 => ("FamilyKernel$Reducer", "environment", "LFamilyKernel$Environment;", true)
  | _ => ("FamilyKernel$Reducer", "given", "LFamilyKernel$Row;", true)
def ty_Red : Nat → FieldType := fun k => match k with
  | 0 => .object "FamilyKernel$Frames"
  | 1 => .object "FamilyKernel$Meter"
  | 2 => .object "FamilyKernel$Terms"
  | 3 => .object "FamilyKernel$Environment"
  | _ => .object "FamilyKernel$Row"
theorem nm_Red : ∀ a, a < 5 → ∀ b, b < 5 → a ≠ b → (T_Red a).2.1 ≠ (T_Red b).2.1 := by decide +kernel
theorem tyo_Red : ∀ k, k < 5 → parseFieldDescriptor (T_Red k).2.2.1 = some (ty_Red k) := by decide +kernel
theorem df_Red : ∀ j, j < 5 → defaultValue (ty_Red j) = vp_V [.null, .null, .null, .null, .null] j := by decide +kernel
abbrev R_Typ : String := "FamilyKernel$Typer"
def T_Typ : u_T := fun k => match k with
  | 0 => ("FamilyKernel$Typer", "frames", "LFamilyKernel$Frames;", true)
  | 1 => ("FamilyKernel$Typer", "meter", "LFamilyKernel$Meter;", true)
  | 2 => ("FamilyKernel$Typer", "terms", "LFamilyKernel$Terms;", true)
  | _ => ("FamilyKernel$Typer", "environment", "LFamilyKernel$Environment;", true)
def ty_Typ : Nat → FieldType := fun k => match k with
  | 0 => .object "FamilyKernel$Frames"
  | 1 => .object "FamilyKernel$Meter"
  | 2 => .object "FamilyKernel$Terms"
  | _ => .object "FamilyKernel$Environment"
theorem nm_Typ : ∀ a, a < 4 → ∀ b, b < 4 → a ≠ b → (T_Typ a).2.1 ≠ (T_Typ b).2.1 := by decide +kernel
theorem tyo_Typ : ∀ k, k < 4 → parseFieldDescriptor (T_Typ k).2.2.1 = some (ty_Typ k) := by decide +kernel
theorem df_Typ : ∀ j, j < 4 → defaultValue (ty_Typ j) = vp_V [.null, .null, .null, .null] j := by decide +kernel
abbrev R_Fam : String := "FamilyKernel$Families"
def T_Fam : u_T := fun k => match k with
  | 0 => ("FamilyKernel$Families", "frames", "LFamilyKernel$Frames;", true)
  | 1 => ("FamilyKernel$Families", "meter", "LFamilyKernel$Meter;", true)
  | 2 => ("FamilyKernel$Families", "terms", "LFamilyKernel$Terms;", true)
  | 3 => ("FamilyKernel$Families", "environment", "LFamilyKernel$Environment;", true)
  | 4 => ("FamilyKernel$Families", "parser", "LFamilyKernel$Parser;", true)
  | 5 => ("FamilyKernel$Families", "sorts", "LFamilyKernel$Row;", true)
  | 6 => ("FamilyKernel$Families", "domains", "LFamilyKernel$Row;", true)
  | 7 => ("FamilyKernel$Families", "hypotheses", "LFamilyKernel$Row;", true)
  | 8 => ("FamilyKernel$Families", "within", "LFamilyKernel$Row;", true)
  | 9 => ("FamilyKernel$Families", "minors", "LFamilyKernel$Row;", true)
  | 10 => ("FamilyKernel$Families", "family", "I", false)
  | 11 => ("FamilyKernel$Families", "parameters", "I", false)
  | 12 => ("FamilyKernel$Families", "indices", "I", false)
  | 13 => ("FamilyKernel$Families", "members", "I", false)
  | 14 => ("FamilyKernel$Families", "sort", "I", false)
  | 15 => ("FamilyKernel$Families", "motive", "I", false)
  | 16 => ("FamilyKernel$Families", "at", "I", false)
  | _ => ("FamilyKernel$Families", "rest", "I", false)
def ty_Fam : Nat → FieldType := fun k => match k with
  | 0 => .object "FamilyKernel$Frames"
  | 1 => .object "FamilyKernel$Meter"
  | 2 => .object "FamilyKernel$Terms"
  | 3 => .object "FamilyKernel$Environment"
  | 4 => .object "FamilyKernel$Parser"
  | 5 => .object "FamilyKernel$Row"
  | 6 => .object "FamilyKernel$Row"
  | 7 => .object "FamilyKernel$Row"
  | 8 => .object "FamilyKernel$Row"
  | 9 => .object "FamilyKernel$Row"
  | 10 => .int
  | 11 => .int
  | 12 => .int
  | 13 => .int
  | 14 => .int
  | 15 => .int
  | 16 => .int
  | _ => .int
theorem nm_Fam : ∀ a, a < 18 → ∀ b, b < 18 → a ≠ b → (T_Fam a).2.1 ≠ (T_Fam b).2.1 := by decide +kernel
theorem tyo_Fam : ∀ k, k < 18 → parseFieldDescriptor (T_Fam k).2.2.1 = some (ty_Fam k) := by decide +kernel
theorem df_Fam : ∀ j, j < 18 → defaultValue (ty_Fam j) = vp_V [.null, .null, .null, .null, .null, .null, .null, .null, .null, .null, .int 0, .int 0, .int 0, .int 0, .int 0, .int 0, .int 0, .int 0] j := by decide +kernel
abbrev R_Pri : String := "FamilyKernel$Printer"
def T_Pri : u_T := fun k => match k with
  | 0 => ("FamilyKernel$Printer", "shown", "LFamilyKernel$Row;", true)
  | 1 => ("FamilyKernel$Printer", "terms", "LFamilyKernel$Terms;", true)
  | 2 => ("FamilyKernel$Printer", "environment", "LFamilyKernel$Environment;", true)
  | _ => ("FamilyKernel$Printer", "todo", "LFamilyKernel$Row;", true)
def ty_Pri : Nat → FieldType := fun k => match k with
  | 0 => .object "FamilyKernel$Row"
  | 1 => .object "FamilyKernel$Terms"
  | 2 => .object "FamilyKernel$Environment"
  | _ => .object "FamilyKernel$Row"
theorem nm_Pri : ∀ a, a < 4 → ∀ b, b < 4 → a ≠ b → (T_Pri a).2.1 ≠ (T_Pri b).2.1 := by decide +kernel
theorem tyo_Pri : ∀ k, k < 4 → parseFieldDescriptor (T_Pri k).2.2.1 = some (ty_Pri k) := by decide +kernel
theorem df_Pri : ∀ j, j < 4 → defaultValue (ty_Pri j) = vp_V [.null, .null, .null, .null] j := by decide +kernel
abbrev R_Ker : String := "FamilyKernel"
def T_Ker : u_T := fun k => match k with
  | 0 => ("FamilyKernel", "tape", "LFamilyKernel$Row;", true)
  | 1 => ("FamilyKernel", "shown", "LFamilyKernel$Row;", true)
  | 2 => ("FamilyKernel", "meter", "LFamilyKernel$Meter;", true)
  | 3 => ("FamilyKernel", "terms", "LFamilyKernel$Terms;", true)
  | 4 => ("FamilyKernel", "environment", "LFamilyKernel$Environment;", true)
  | 5 => ("FamilyKernel", "lexer", "LFamilyKernel$Lexer;", true)
  | 6 => ("FamilyKernel", "parser", "LFamilyKernel$Parser;", true)
  | 7 => ("FamilyKernel", "frames", "LFamilyKernel$Frames;", true)
  | 8 => ("FamilyKernel", "reducer", "LFamilyKernel$Reducer;", true)
  | 9 => ("FamilyKernel", "typer", "LFamilyKernel$Typer;", true)
  | 10 => ("FamilyKernel", "families", "LFamilyKernel$Families;", true)
  | 11 => ("FamilyKernel", "printer", "LFamilyKernel$Printer;", true)
  | 12 => ("FamilyKernel", "declared", "I", false)
  | _ => ("FamilyKernel", "latestWork", "I", false)
def ty_Ker : Nat → FieldType := fun k => match k with
  | 0 => .object "FamilyKernel$Row"
  | 1 => .object "FamilyKernel$Row"
  | 2 => .object "FamilyKernel$Meter"
  | 3 => .object "FamilyKernel$Terms"
  | 4 => .object "FamilyKernel$Environment"
  | 5 => .object "FamilyKernel$Lexer"
  | 6 => .object "FamilyKernel$Parser"
  | 7 => .object "FamilyKernel$Frames"
  | 8 => .object "FamilyKernel$Reducer"
  | 9 => .object "FamilyKernel$Typer"
  | 10 => .object "FamilyKernel$Families"
  | 11 => .object "FamilyKernel$Printer"
  | 12 => .int
  | _ => .int
theorem nm_Ker : ∀ a, a < 14 → ∀ b, b < 14 → a ≠ b → (T_Ker a).2.1 ≠ (T_Ker b).2.1 := by decide +kernel
theorem tyo_Ker : ∀ k, k < 14 → parseFieldDescriptor (T_Ker k).2.2.1 = some (ty_Ker k) := by decide +kernel
theorem df_Ker : ∀ j, j < 14 → defaultValue (ty_Ker j) = vp_V [.null, .null, .null, .null, .null, .null, .null, .null, .null, .null, .null, .null, .int 0, .int 0] j := by decide +kernel
abbrev R_Mod : String := "FamilyKernelModel"
def T_Mod : u_T := fun k => match k with
  | 0 => ("FamilyKernelModel", "tape", "[B", true)
  | 1 => ("FamilyKernelModel", "out", "[B", true)
  | 2 => ("FamilyKernelModel", "size", "I", false)
  | 3 => ("FamilyKernelModel", "outSize", "I", false)
  | 4 => ("FamilyKernelModel", "thrown", "I", false)
  | 5 => ("FamilyKernelModel", "faultKind", "I", false)
  | 6 => ("FamilyKernelModel", "faultPlace", "I", false)
  | 7 => ("FamilyKernelModel", "pos", "I", false)
  | 8 => ("FamilyKernelModel", "token", "I", false)
  | 9 => ("FamilyKernelModel", "tokenAt", "I", false)
  | 10 => ("FamilyKernelModel", "tokenEnd", "I", false)
  | 11 => ("FamilyKernelModel", "seen", "Z", false)
  | 12 => ("FamilyKernelModel", "kind", "[B", true)
  | 13 => ("FamilyKernelModel", "one", "[I", true)
  | 14 => ("FamilyKernelModel", "two", "[I", true)
  | 15 => ("FamilyKernelModel", "three", "[I", true)
  | 16 => ("FamilyKernelModel", "big", "[I", true)
  | 17 => ("FamilyKernelModel", "deep", "[I", true)
  | 18 => ("FamilyKernelModel", "top", "I", false)
  | 19 => ("FamilyKernelModel", "spine", "[I", true)
  | 20 => ("FamilyKernelModel", "spineTop", "I", false)
  | 21 => ("FamilyKernelModel", "mapHow", "I", false)
  | 22 => ("FamilyKernelModel", "mapWhat", "I", false)
  | 23 => ("FamilyKernelModel", "mapTo", "I", false)
  | 24 => ("FamilyKernelModel", "words", "[B", true)
  | 25 => ("FamilyKernelModel", "wordAt", "[I", true)
  | 26 => ("FamilyKernelModel", "wordSize", "[I", true)
  | 27 => ("FamilyKernelModel", "wordsUsed", "I", false)
  | 28 => ("FamilyKernelModel", "constants", "I", false)
  | 29 => ("FamilyKernelModel", "sortOf", "[I", true)
  | 30 => ("FamilyKernelModel", "typeOf", "[I", true)
  | 31 => ("FamilyKernelModel", "valueOf", "[I", true)
  | 32 => ("FamilyKernelModel", "parameters", "[I", true)
  | 33 => ("FamilyKernelModel", "indices", "[I", true)
  | 34 => ("FamilyKernelModel", "constructors", "[I", true)
  | 35 => ("FamilyKernelModel", "arguments", "[I", true)
  | 36 => ("FamilyKernelModel", "recursive", "[I", true)
  | 37 => ("FamilyKernelModel", "level", "[I", true)
  | 38 => ("FamilyKernelModel", "recType", "[I", true)
  | 39 => ("FamilyKernelModel", "rule", "[I", true)
  | 40 => ("FamilyKernelModel", "family", "[I", true)
  | 41 => ("FamilyKernelModel", "large", "[Z", true)
  | 42 => ("FamilyKernelModel", "kept", "I", false)
  | 43 => ("FamilyKernelModel", "sizes", "I", false)
  | 44 => ("FamilyKernelModel", "scopeAt", "[I", true)
  | 45 => ("FamilyKernelModel", "scopeSize", "[I", true)
  | 46 => ("FamilyKernelModel", "scopes", "I", false)
  | 47 => ("FamilyKernelModel", "typeStack", "[I", true)
  | 48 => ("FamilyKernelModel", "pendingAt", "[I", true)
  | 49 => ("FamilyKernelModel", "pendingSize", "[I", true)
  | 50 => ("FamilyKernelModel", "heldAt", "[I", true)
  | 51 => ("FamilyKernelModel", "heldSize", "[I", true)
  | 52 => ("FamilyKernelModel", "pendingHeld", "I", false)
  | 53 => ("FamilyKernelModel", "copies", "I", false)
  | 54 => ("FamilyKernelModel", "work", "I", false)
  | 55 => ("FamilyKernelModel", "variables", "I", false)
  | 56 => ("FamilyKernelModel", "typeOfVariable", "[I", true)
  | 57 => ("FamilyKernelModel", "majors", "I", false)
  | 58 => ("FamilyKernelModel", "declarationAt", "I", false)
  | 59 => ("FamilyKernelModel", "accepted", "I", false)
  | 60 => ("FamilyKernelModel", "lastWork", "I", false)
  | 61 => ("FamilyKernelModel", "known", "I", false)
  | 62 => ("FamilyKernelModel", "are", "[I", true)
  | 63 => ("FamilyKernelModel", "texts", "[I", true)
  | 64 => ("FamilyKernelModel", "wholes", "[I", true)
  | 65 => ("FamilyKernelModel", "firstArgument", "[I", true)
  | 66 => ("FamilyKernelModel", "endAt", "[I", true)
  | 67 => ("FamilyKernelModel", "argument", "[I", true)
  | 68 => ("FamilyKernelModel", "isRecursive", "[Z", true)
  | 69 => ("FamilyKernelModel", "isProof", "[Z", true)
  | 70 => ("FamilyKernelModel", "argumentCount", "I", false)
  | 71 => ("FamilyKernelModel", "list", "[I", true)
  | 72 => ("FamilyKernelModel", "listed", "I", false)
  | 73 => ("FamilyKernelModel", "minors", "[I", true)
  | 74 => ("FamilyKernelModel", "openCost", "[I", true)
  | _ => ("FamilyKernelModel", "xs", "I", false)
def ty_Mod : Nat → FieldType := fun k => match k with
  | 0 => .array .byte
  | 1 => .array .byte
  | 2 => .int
  | 3 => .int
  | 4 => .int
  | 5 => .int
  | 6 => .int
  | 7 => .int
  | 8 => .int
  | 9 => .int
  | 10 => .int
  | 11 => .boolean
  | 12 => .array .byte
  | 13 => .array .int
  | 14 => .array .int
  | 15 => .array .int
  | 16 => .array .int
  | 17 => .array .int
  | 18 => .int
  | 19 => .array .int
  | 20 => .int
  | 21 => .int
  | 22 => .int
  | 23 => .int
  | 24 => .array .byte
  | 25 => .array .int
  | 26 => .array .int
  | 27 => .int
  | 28 => .int
  | 29 => .array .int
  | 30 => .array .int
  | 31 => .array .int
  | 32 => .array .int
  | 33 => .array .int
  | 34 => .array .int
  | 35 => .array .int
  | 36 => .array .int
  | 37 => .array .int
  | 38 => .array .int
  | 39 => .array .int
  | 40 => .array .int
  | 41 => .array .boolean
  | 42 => .int
  | 43 => .int
  | 44 => .array .int
  | 45 => .array .int
  | 46 => .int
  | 47 => .array .int
  | 48 => .array .int
  | 49 => .array .int
  | 50 => .array .int
  | 51 => .array .int
  | 52 => .int
  | 53 => .int
  | 54 => .int
  | 55 => .int
  | 56 => .array .int
  | 57 => .int
  | 58 => .int
  | 59 => .int
  | 60 => .int
  | 61 => .int
  | 62 => .array .int
  | 63 => .array .int
  | 64 => .array .int
  | 65 => .array .int
  | 66 => .array .int
  | 67 => .array .int
  | 68 => .array .boolean
  | 69 => .array .boolean
  | 70 => .int
  | 71 => .array .int
  | 72 => .int
  | 73 => .array .int
  | 74 => .array .int
  | _ => .int
theorem nm_Mod : ∀ a, a < 76 → ∀ b, b < 76 → a ≠ b → (T_Mod a).2.1 ≠ (T_Mod b).2.1 := by decide +kernel
theorem tyo_Mod : ∀ k, k < 76 → parseFieldDescriptor (T_Mod k).2.2.1 = some (ty_Mod k) := by decide +kernel
theorem df_Mod : ∀ j, j < 76 → defaultValue (ty_Mod j) = vp_V [.null, .null, .int 0, .int 0, .int 0, .int 0, .int 0, .int 0, .int 0, .int 0, .int 0, .int 0, .null, .null, .null, .null, .null, .null, .int 0, .null, .int 0, .int 0, .int 0, .int 0, .null, .null, .null, .int 0, .int 0, .null, .null, .null, .null, .null, .null, .null, .null, .null, .null, .null, .null, .null, .int 0, .int 0, .null, .null, .int 0, .null, .null, .null, .null, .null, .int 0, .int 0, .int 0, .int 0, .null, .int 0, .int 0, .int 0, .int 0, .int 0, .null, .null, .null, .null, .null, .null, .null, .null, .int 0, .null, .int 0, .null, .null, .int 0] j := by decide +kernel
abbrev R_Law : String := "FamilyKernelLaw"
abbrev classes : List vw_C := [(R_Row, T_Row, 3), (R_Meter, T_Meter, 4), (R_Terms, T_Terms, 10), (R_Env, T_Env, 3), (R_Lex, T_Lex, 7), (R_Par, T_Par, 20), (R_Fra, T_Fra, 3), (R_Red, T_Red, 5), (R_Typ, T_Typ, 4), (R_Fam, T_Fam, 18), (R_Pri, T_Pri, 4), (R_Ker, T_Ker, 14), (R_Mod, T_Mod, 76)]
def vR_0 : List Cond := [.fieldLink "FamilyKernel$Row" 17 "FamilyKernel$Row" "length" "I",
  .fieldLink "FamilyKernel$Row" 7 "FamilyKernel$Row" "cells" "[I",
  .fieldLink "FamilyKernel$Meter" 18 "FamilyKernel$Meter" "work" "I",
  .fieldLink "FamilyKernel$Meter" 9 "FamilyKernel$Meter" "code" "I",
  .fieldLink "FamilyKernel$Meter" 15 "FamilyKernel$Meter" "place" "I",
  .fieldLink "FamilyKernel$Meter" 21 "FamilyKernel$Meter" "start" "I",
  .fieldLink "FamilyKernel$Environment" 15 "FamilyKernel$Environment" "facts" "LFamilyKernel$Row;",
  .methodLink "FamilyKernel$Environment" 36 ⟨"FamilyKernel$Row", "at", "(I)I"⟩,
  .instanceMethod ⟨"FamilyKernel$Row", "at", "(I)I"⟩,
  .selects "FamilyKernel$Row" ⟨"FamilyKernel$Row", "at", "(I)I"⟩ ⟨"FamilyKernel$Row", "at", "(I)I"⟩,
  .initialized "FamilyKernel$Row",
  .code ⟨"FamilyKernel$Row", "at", "(I)I"⟩ prog_10_method_3_code 2 (some .int),
  .methodLink "FamilyKernel$Environment" 40 ⟨"FamilyKernel$Row", "put", "(II)V"⟩,
  .instanceMethod ⟨"FamilyKernel$Row", "put", "(II)V"⟩,
  .selects "FamilyKernel$Row" ⟨"FamilyKernel$Row", "put", "(II)V"⟩ ⟨"FamilyKernel$Row", "put", "(II)V"⟩,
  .code ⟨"FamilyKernel$Row", "put", "(II)V"⟩ prog_10_method_4_code 3 none,
  .methodLink "FamilyKernel$Environment" 24 ⟨"FamilyKernel$Row", "size", "()I"⟩,
  .instanceMethod ⟨"FamilyKernel$Row", "size", "()I"⟩,
  .selects "FamilyKernel$Row" ⟨"FamilyKernel$Row", "size", "()I"⟩ ⟨"FamilyKernel$Row", "size", "()I"⟩,
  .code ⟨"FamilyKernel$Row", "size", "()I"⟩ prog_10_method_2_code 1 (some .int),
  .fieldLink "FamilyKernel$Environment" 28 "FamilyKernel$Environment" "sizes" "I",
  .fieldLink "FamilyKernel$Frames" 17 "FamilyKernel$Frames" "cells" "LFamilyKernel$Row;",
  .methodLink "FamilyKernel$Frames" 32 ⟨"FamilyKernel$Row", "size", "()I"⟩,
  .methodLink "FamilyKernel$Frames" 38 ⟨"FamilyKernel$Row", "at", "(I)I"⟩,
  .methodLink "FamilyKernel$Frames" 42 ⟨"FamilyKernel$Row", "put", "(II)V"⟩,
  .methodLink "FamilyKernel$Frames" 24 ⟨"FamilyKernel$Row", "cut", "(I)V"⟩,
  .instanceMethod ⟨"FamilyKernel$Row", "cut", "(I)V"⟩,
  .selects "FamilyKernel$Row" ⟨"FamilyKernel$Row", "cut", "(I)V"⟩ ⟨"FamilyKernel$Row", "cut", "(I)V"⟩,
  .code ⟨"FamilyKernel$Row", "cut", "(I)V"⟩ prog_10_method_7_code 2 none,
  .fieldLink "FamilyKernel$Frames" 45 "FamilyKernel$Frames" "result" "I",
  .methodLink "FamilyKernel$Frames" 49 ⟨"FamilyKernel$Frames", "pop", "()V"⟩,
  .instanceMethod ⟨"FamilyKernel$Frames", "pop", "()V"⟩,
  .selects "FamilyKernel$Frames" ⟨"FamilyKernel$Frames", "pop", "()V"⟩ ⟨"FamilyKernel$Frames", "pop", "()V"⟩,
  .initialized "FamilyKernel$Frames",
  .code ⟨"FamilyKernel$Frames", "pop", "()V"⟩ prog_4_method_5_code 1 none,
  .fieldLink "FamilyKernel$Frames" 21 "FamilyKernel$Frames" "types" "LFamilyKernel$Row;",
  .initialized "java/lang/Throwable",
  .initialized "java/lang/Exception",
  .initialized "java/lang/RuntimeException",
  .initialized "java/lang/IllegalArgumentException"]
def vR_1 : List Cond := [.initialized "java/util/NoSuchElementException",
  .initialized "java/lang/IndexOutOfBoundsException",
  .methodLink "FamilyKernel" 1 ⟨"java/lang/Object", "<init>", "()V"⟩,
  .instanceMethod ⟨"java/lang/Object", "<init>", "()V"⟩,
  .code ⟨"java/lang/Object", "<init>", "()V"⟩ object_method_1_code 1 none,
  .methodLink "FamilyKernel$Row" 1 ⟨"java/lang/Object", "<init>", "()V"⟩,
  .methodLink "FamilyKernel$Meter" 3 ⟨"java/lang/Object", "<init>", "()V"⟩,
  .methodLink "FamilyKernel$Terms" 3 ⟨"java/lang/Object", "<init>", "()V"⟩,
  .methodLink "FamilyKernel$Environment" 3 ⟨"java/lang/Object", "<init>", "()V"⟩,
  .methodLink "FamilyKernel$Lexer" 3 ⟨"java/lang/Object", "<init>", "()V"⟩,
  .methodLink "FamilyKernel$Parser" 3 ⟨"java/lang/Object", "<init>", "()V"⟩,
  .methodLink "FamilyKernel$Frames" 3 ⟨"java/lang/Object", "<init>", "()V"⟩,
  .methodLink "FamilyKernel$Reducer" 3 ⟨"java/lang/Object", "<init>", "()V"⟩,
  .methodLink "FamilyKernel$Typer" 3 ⟨"java/lang/Object", "<init>", "()V"⟩,
  .methodLink "FamilyKernel$Families" 3 ⟨"java/lang/Object", "<init>", "()V"⟩,
  .methodLink "FamilyKernel$Printer" 3 ⟨"java/lang/Object", "<init>", "()V"⟩,
  .lays "java/lang/Throwable" "java/lang/Throwable" "cause" "Ljava/lang/Throwable;",
  .lays "java/lang/Throwable" "java/lang/Throwable" "stackTrace" "[Ljava/lang/StackTraceElement;",
  .lays "java/lang/Throwable" "java/lang/Throwable" "suppressedExceptions" "Ljava/util/List;",
  .lays "java/lang/Throwable" "java/lang/Throwable" "detailMessage" "Ljava/lang/String;",
  .lays "java/lang/Throwable" "java/lang/Throwable" "backtrace" "Ljava/lang/Object;",
  .fieldLink "java/lang/Throwable" 198 "java/lang/Throwable" "backtrace" "Ljava/lang/Object;",
  .superclass "java/lang/Throwable" "java/lang/Object",
  .instanceMethod ⟨"java/lang/Throwable", "<init>", "()V"⟩,
  .code ⟨"java/lang/Throwable", "<init>", "()V"⟩ prog_27_method_1_code 1 none,
  .methodLink "java/lang/Throwable" 1 ⟨"java/lang/Object", "<init>", "()V"⟩,
  .fieldLink "java/lang/Throwable" 13 "java/lang/Throwable" "UNASSIGNED_STACK" "[Ljava/lang/StackTraceElement;",
  .fieldLink "java/lang/Throwable" 20 "java/lang/Throwable" "SUPPRESSED_SENTINEL" "Ljava/util/List;",
  .methodLink "java/lang/Throwable" 27 ⟨"java/lang/Throwable", "fillInStackTrace", "()Ljava/lang/Throwable;"⟩,
  .instanceMethod ⟨"java/lang/Throwable", "fillInStackTrace", "()Ljava/lang/Throwable;"⟩,
  .sameMethod "java/lang/Throwable" "java/lang/Throwable" "fillInStackTrace" "()Ljava/lang/Throwable;",
  .selects "java/lang/IllegalArgumentException" ⟨"java/lang/Throwable", "fillInStackTrace", "()Ljava/lang/Throwable;"⟩ ⟨"java/lang/Throwable", "fillInStackTrace", "()Ljava/lang/Throwable;"⟩,
  .selects "java/lang/IndexOutOfBoundsException" ⟨"java/lang/Throwable", "fillInStackTrace", "()Ljava/lang/Throwable;"⟩ ⟨"java/lang/Throwable", "fillInStackTrace", "()Ljava/lang/Throwable;"⟩,
  .selects "java/util/NoSuchElementException" ⟨"java/lang/Throwable", "fillInStackTrace", "()Ljava/lang/Throwable;"⟩ ⟨"java/lang/Throwable", "fillInStackTrace", "()Ljava/lang/Throwable;"⟩,
  .codeSync ⟨"java/lang/Throwable", "fillInStackTrace", "()Ljava/lang/Throwable;"⟩ prog_27_method_18_code 1 (some (.object "java/lang/Throwable")),
  .methodLink "java/lang/Throwable" 202 ⟨"java/lang/Throwable", "fillInStackTrace", "(I)Ljava/lang/Throwable;"⟩,
  .instanceMethod ⟨"java/lang/Throwable", "fillInStackTrace", "(I)Ljava/lang/Throwable;"⟩,
  .instantiable "java/lang/Throwable" 6,
  .native ⟨"java/lang/Throwable", "fillInStackTrace", "(I)Ljava/lang/Throwable;"⟩,
  .instanceMethod ⟨"java/lang/RuntimeException", "<init>", "()V"⟩]
def vR_2 : List Cond := [.code ⟨"java/lang/RuntimeException", "<init>", "()V"⟩ prog_22_method_1_code 1 none,
  .methodLink "java/lang/RuntimeException" 1 ⟨"java/lang/Exception", "<init>", "()V"⟩,
  .instanceMethod ⟨"java/lang/Exception", "<init>", "()V"⟩,
  .code ⟨"java/lang/Exception", "<init>", "()V"⟩ prog_17_method_1_code 1 none,
  .methodLink "java/lang/Exception" 1 ⟨"java/lang/Throwable", "<init>", "()V"⟩,
  .fieldLink "java/lang/Throwable" 31 "java/lang/Throwable" "detailMessage" "Ljava/lang/String;",
  .fieldLink "java/lang/Throwable" 7 "java/lang/Throwable" "cause" "Ljava/lang/Throwable;",
  .fieldLink "java/lang/Throwable" 17 "java/lang/Throwable" "stackTrace" "[Ljava/lang/StackTraceElement;",
  .fieldLink "java/lang/Throwable" 24 "java/lang/Throwable" "suppressedExceptions" "Ljava/util/List;",
  .soleField "java/lang/Throwable" "backtrace",
  .soleField "java/lang/Throwable" "detailMessage",
  .soleField "java/lang/Throwable" "cause",
  .soleField "java/lang/Throwable" "stackTrace",
  .soleField "java/lang/Throwable" "depth",
  .soleField "java/lang/Throwable" "suppressedExceptions",
  .classLink "FamilyKernelLaw" 19 "java/lang/IllegalArgumentException",
  .classLink "FamilyKernel" 118 "java/lang/IllegalArgumentException",
  .instantiable "java/lang/IllegalArgumentException" 6,
  .selects "java/lang/IllegalArgumentException" ⟨"java/lang/Throwable", "fillInStackTrace", "(I)Ljava/lang/Throwable;"⟩ ⟨"java/lang/Throwable", "fillInStackTrace", "(I)Ljava/lang/Throwable;"⟩,
  .lays "java/lang/IllegalArgumentException" "java/lang/Throwable" "cause" "Ljava/lang/Throwable;",
  .lays "java/lang/IllegalArgumentException" "java/lang/Throwable" "stackTrace" "[Ljava/lang/StackTraceElement;",
  .lays "java/lang/IllegalArgumentException" "java/lang/Throwable" "suppressedExceptions" "Ljava/util/List;",
  .lays "java/lang/IllegalArgumentException" "java/lang/Throwable" "detailMessage" "Ljava/lang/String;",
  .lays "java/lang/IllegalArgumentException" "java/lang/Throwable" "backtrace" "Ljava/lang/Object;",
  .methodLink "FamilyKernel" 120 ⟨"java/lang/IllegalArgumentException", "<init>", "()V"⟩,
  .instanceMethod ⟨"java/lang/IllegalArgumentException", "<init>", "()V"⟩,
  .code ⟨"java/lang/IllegalArgumentException", "<init>", "()V"⟩ prog_18_method_1_code 1 none,
  .methodLink "java/lang/IllegalArgumentException" 1 ⟨"java/lang/RuntimeException", "<init>", "()V"⟩,
  .lays "java/lang/IllegalArgumentException" "java/lang/Throwable" "depth" "I",
  .superclass "java/lang/IllegalArgumentException" "java/lang/RuntimeException",
  .classLink "FamilyKernelLaw" 25 "java/util/NoSuchElementException",
  .classLink "FamilyKernel" 336 "java/util/NoSuchElementException",
  .instantiable "java/util/NoSuchElementException" 6,
  .selects "java/util/NoSuchElementException" ⟨"java/lang/Throwable", "fillInStackTrace", "(I)Ljava/lang/Throwable;"⟩ ⟨"java/lang/Throwable", "fillInStackTrace", "(I)Ljava/lang/Throwable;"⟩,
  .lays "java/util/NoSuchElementException" "java/lang/Throwable" "cause" "Ljava/lang/Throwable;",
  .lays "java/util/NoSuchElementException" "java/lang/Throwable" "stackTrace" "[Ljava/lang/StackTraceElement;",
  .lays "java/util/NoSuchElementException" "java/lang/Throwable" "suppressedExceptions" "Ljava/util/List;",
  .lays "java/util/NoSuchElementException" "java/lang/Throwable" "detailMessage" "Ljava/lang/String;",
  .lays "java/util/NoSuchElementException" "java/lang/Throwable" "backtrace" "Ljava/lang/Object;",
  .methodLink "FamilyKernel" 338 ⟨"java/util/NoSuchElementException", "<init>", "()V"⟩]
def vR_3 : List Cond := [.instanceMethod ⟨"java/util/NoSuchElementException", "<init>", "()V"⟩,
  .code ⟨"java/util/NoSuchElementException", "<init>", "()V"⟩ prog_29_method_1_code 1 none,
  .methodLink "java/util/NoSuchElementException" 1 ⟨"java/lang/RuntimeException", "<init>", "()V"⟩,
  .lays "java/util/NoSuchElementException" "java/lang/Throwable" "depth" "I",
  .superclass "java/util/NoSuchElementException" "java/lang/RuntimeException",
  .classLink "FamilyKernelLaw" 36 "java/lang/IndexOutOfBoundsException",
  .classLink "FamilyKernel" 350 "java/lang/IndexOutOfBoundsException",
  .instantiable "java/lang/IndexOutOfBoundsException" 6,
  .selects "java/lang/IndexOutOfBoundsException" ⟨"java/lang/Throwable", "fillInStackTrace", "(I)Ljava/lang/Throwable;"⟩ ⟨"java/lang/Throwable", "fillInStackTrace", "(I)Ljava/lang/Throwable;"⟩,
  .lays "java/lang/IndexOutOfBoundsException" "java/lang/Throwable" "cause" "Ljava/lang/Throwable;",
  .lays "java/lang/IndexOutOfBoundsException" "java/lang/Throwable" "stackTrace" "[Ljava/lang/StackTraceElement;",
  .lays "java/lang/IndexOutOfBoundsException" "java/lang/Throwable" "suppressedExceptions" "Ljava/util/List;",
  .lays "java/lang/IndexOutOfBoundsException" "java/lang/Throwable" "detailMessage" "Ljava/lang/String;",
  .lays "java/lang/IndexOutOfBoundsException" "java/lang/Throwable" "backtrace" "Ljava/lang/Object;",
  .methodLink "FamilyKernel" 352 ⟨"java/lang/IndexOutOfBoundsException", "<init>", "()V"⟩,
  .instanceMethod ⟨"java/lang/IndexOutOfBoundsException", "<init>", "()V"⟩,
  .code ⟨"java/lang/IndexOutOfBoundsException", "<init>", "()V"⟩ prog_20_method_1_code 1 none,
  .methodLink "java/lang/IndexOutOfBoundsException" 1 ⟨"java/lang/RuntimeException", "<init>", "()V"⟩,
  .lays "java/lang/IndexOutOfBoundsException" "java/lang/Throwable" "depth" "I",
  .superclass "java/lang/IndexOutOfBoundsException" "java/lang/RuntimeException",
  .methodLink "FamilyKernelModel" 7 ⟨"java/lang/Object", "<init>", "()V"⟩,
  .sameMethod "java/lang/Throwable" "java/lang/Throwable" "fillInStackTrace" "(I)Ljava/lang/Throwable;"]
def vT : List Cond := u_ws R_Row T_Row 3 ++ (u_ws R_Meter T_Meter 4 ++ (u_ws R_Terms T_Terms 10 ++ (u_ws R_Env T_Env 3 ++ (u_ws R_Lex T_Lex 7 ++ (u_ws R_Par T_Par 20 ++ (u_ws R_Fra T_Fra 3 ++ (u_ws R_Red T_Red 5 ++ (u_ws R_Typ T_Typ 4 ++ (u_ws R_Fam T_Fam 18 ++ (u_ws R_Pri T_Pri 4 ++ (u_ws R_Ker T_Ker 14 ++ (u_ws R_Mod T_Mod 76 ++ (vR_0 ++ (vR_1 ++ (vR_2 ++ (vR_3))))))))))))))))
theorem in_Row : ∀ w ∈ u_ws R_Row T_Row 3, w ∈ vT := fun _ h => List.mem_append_left _ (h)
theorem in_Meter : ∀ w ∈ u_ws R_Meter T_Meter 4, w ∈ vT := fun _ h => List.mem_append_right _ (List.mem_append_left _ (h))
theorem in_Terms : ∀ w ∈ u_ws R_Terms T_Terms 10, w ∈ vT := fun _ h => List.mem_append_right _ (List.mem_append_right _ (List.mem_append_left _ (h)))
theorem in_Env : ∀ w ∈ u_ws R_Env T_Env 3, w ∈ vT := fun _ h => List.mem_append_right _ (List.mem_append_right _ (List.mem_append_right _ (List.mem_append_left _ (h))))
theorem in_Lex : ∀ w ∈ u_ws R_Lex T_Lex 7, w ∈ vT := fun _ h => List.mem_append_right _ (List.mem_append_right _ (List.mem_append_right _ (List.mem_append_right _ (List.mem_append_left _ (h)))))
theorem in_Par : ∀ w ∈ u_ws R_Par T_Par 20, w ∈ vT := fun _ h => List.mem_append_right _ (List.mem_append_right _ (List.mem_append_right _ (List.mem_append_right _ (List.mem_append_right _ (List.mem_append_left _ (h))))))
theorem in_Fra : ∀ w ∈ u_ws R_Fra T_Fra 3, w ∈ vT := fun _ h => List.mem_append_right _ (List.mem_append_right _ (List.mem_append_right _ (List.mem_append_right _ (List.mem_append_right _ (List.mem_append_right _ (List.mem_append_left _ (h)))))))
theorem in_Red : ∀ w ∈ u_ws R_Red T_Red 5, w ∈ vT := fun _ h => List.mem_append_right _ (List.mem_append_right _ (List.mem_append_right _ (List.mem_append_right _ (List.mem_append_right _ (List.mem_append_right _ (List.mem_append_right _ (List.mem_append_left _ (h))))))))
theorem in_Typ : ∀ w ∈ u_ws R_Typ T_Typ 4, w ∈ vT := fun _ h => List.mem_append_right _ (List.mem_append_right _ (List.mem_append_right _ (List.mem_append_right _ (List.mem_append_right _ (List.mem_append_right _ (List.mem_append_right _ (List.mem_append_right _ (List.mem_append_left _ (h)))))))))
theorem in_Fam : ∀ w ∈ u_ws R_Fam T_Fam 18, w ∈ vT := fun _ h => List.mem_append_right _ (List.mem_append_right _ (List.mem_append_right _ (List.mem_append_right _ (List.mem_append_right _ (List.mem_append_right _ (List.mem_append_right _ (List.mem_append_right _ (List.mem_append_right _ (List.mem_append_left _ (h))))))))))
theorem in_Pri : ∀ w ∈ u_ws R_Pri T_Pri 4, w ∈ vT := fun _ h => List.mem_append_right _ (List.mem_append_right _ (List.mem_append_right _ (List.mem_append_right _ (List.mem_append_right _ (List.mem_append_right _ (List.mem_append_right _ (List.mem_append_right _ (List.mem_append_right _ (List.mem_append_right _ (List.mem_append_left _ (h)))))))))))
theorem in_Ker : ∀ w ∈ u_ws R_Ker T_Ker 14, w ∈ vT := fun _ h => List.mem_append_right _ (List.mem_append_right _ (List.mem_append_right _ (List.mem_append_right _ (List.mem_append_right _ (List.mem_append_right _ (List.mem_append_right _ (List.mem_append_right _ (List.mem_append_right _ (List.mem_append_right _ (List.mem_append_right _ (List.mem_append_left _ (h))))))))))))
theorem in_Mod : ∀ w ∈ u_ws R_Mod T_Mod 76, w ∈ vT := fun _ h => List.mem_append_right _ (List.mem_append_right _ (List.mem_append_right _ (List.mem_append_right _ (List.mem_append_right _ (List.mem_append_right _ (List.mem_append_right _ (List.mem_append_right _ (List.mem_append_right _ (List.mem_append_right _ (List.mem_append_right _ (List.mem_append_right _ (List.mem_append_left _ (h)))))))))))))
theorem inR_0 : ∀ w ∈ vR_0, w ∈ vT := fun _ h => List.mem_append_right _ (List.mem_append_right _ (List.mem_append_right _ (List.mem_append_right _ (List.mem_append_right _ (List.mem_append_right _ (List.mem_append_right _ (List.mem_append_right _ (List.mem_append_right _ (List.mem_append_right _ (List.mem_append_right _ (List.mem_append_right _ (List.mem_append_right _ (List.mem_append_left _ (h))))))))))))))
theorem inR_1 : ∀ w ∈ vR_1, w ∈ vT := fun _ h => List.mem_append_right _ (List.mem_append_right _ (List.mem_append_right _ (List.mem_append_right _ (List.mem_append_right _ (List.mem_append_right _ (List.mem_append_right _ (List.mem_append_right _ (List.mem_append_right _ (List.mem_append_right _ (List.mem_append_right _ (List.mem_append_right _ (List.mem_append_right _ (List.mem_append_right _ (List.mem_append_left _ (h)))))))))))))))
theorem inR_2 : ∀ w ∈ vR_2, w ∈ vT := fun _ h => List.mem_append_right _ (List.mem_append_right _ (List.mem_append_right _ (List.mem_append_right _ (List.mem_append_right _ (List.mem_append_right _ (List.mem_append_right _ (List.mem_append_right _ (List.mem_append_right _ (List.mem_append_right _ (List.mem_append_right _ (List.mem_append_right _ (List.mem_append_right _ (List.mem_append_right _ (List.mem_append_right _ (List.mem_append_left _ (h))))))))))))))))
theorem inR_3 : ∀ w ∈ vR_3, w ∈ vT := fun _ h => List.mem_append_right _ (List.mem_append_right _ (List.mem_append_right _ (List.mem_append_right _ (List.mem_append_right _ (List.mem_append_right _ (List.mem_append_right _ (List.mem_append_right _ (List.mem_append_right _ (List.mem_append_right _ (List.mem_append_right _ (List.mem_append_right _ (List.mem_append_right _ (List.mem_append_right _ (List.mem_append_right _ (List.mem_append_right _ (h))))))))))))))))
theorem vt_0 : (.fieldLink "FamilyKernel$Row" 17 "FamilyKernel$Row" "length" "I" : Cond) ∈ vT := inR_0 _ (List.mem_of_getElem? (i := 0) rfl)
theorem vt_1 : (.fieldLink "FamilyKernel$Row" 7 "FamilyKernel$Row" "cells" "[I" : Cond) ∈ vT := inR_0 _ (List.mem_of_getElem? (i := 1) rfl)
theorem vt_2 : (.fieldLink "FamilyKernel$Meter" 18 "FamilyKernel$Meter" "work" "I" : Cond) ∈ vT := inR_0 _ (List.mem_of_getElem? (i := 2) rfl)
theorem vt_3 : (.fieldLink "FamilyKernel$Meter" 9 "FamilyKernel$Meter" "code" "I" : Cond) ∈ vT := inR_0 _ (List.mem_of_getElem? (i := 3) rfl)
theorem vt_4 : (.fieldLink "FamilyKernel$Meter" 15 "FamilyKernel$Meter" "place" "I" : Cond) ∈ vT := inR_0 _ (List.mem_of_getElem? (i := 4) rfl)
theorem vt_5 : (.fieldLink "FamilyKernel$Meter" 21 "FamilyKernel$Meter" "start" "I" : Cond) ∈ vT := inR_0 _ (List.mem_of_getElem? (i := 5) rfl)
theorem vt_6 : (.fieldLink "FamilyKernel$Environment" 15 "FamilyKernel$Environment" "facts" "LFamilyKernel$Row;" : Cond) ∈ vT := inR_0 _ (List.mem_of_getElem? (i := 6) rfl)
theorem vt_7 : (.methodLink "FamilyKernel$Environment" 36 ⟨"FamilyKernel$Row", "at", "(I)I"⟩ : Cond) ∈ vT := inR_0 _ (List.mem_of_getElem? (i := 7) rfl)
theorem vt_8 : (.instanceMethod ⟨"FamilyKernel$Row", "at", "(I)I"⟩ : Cond) ∈ vT := inR_0 _ (List.mem_of_getElem? (i := 8) rfl)
theorem vt_9 : (.selects "FamilyKernel$Row" ⟨"FamilyKernel$Row", "at", "(I)I"⟩ ⟨"FamilyKernel$Row", "at", "(I)I"⟩ : Cond) ∈ vT := inR_0 _ (List.mem_of_getElem? (i := 9) rfl)
theorem vt_10 : (.initialized "FamilyKernel$Row" : Cond) ∈ vT := inR_0 _ (List.mem_of_getElem? (i := 10) rfl)
theorem vt_11 : (.code ⟨"FamilyKernel$Row", "at", "(I)I"⟩ prog_10_method_3_code 2 (some .int) : Cond) ∈ vT := inR_0 _ (List.mem_of_getElem? (i := 11) rfl)
theorem vt_12 : (.methodLink "FamilyKernel$Environment" 40 ⟨"FamilyKernel$Row", "put", "(II)V"⟩ : Cond) ∈ vT := inR_0 _ (List.mem_of_getElem? (i := 12) rfl)
theorem vt_13 : (.instanceMethod ⟨"FamilyKernel$Row", "put", "(II)V"⟩ : Cond) ∈ vT := inR_0 _ (List.mem_of_getElem? (i := 13) rfl)
theorem vt_14 : (.selects "FamilyKernel$Row" ⟨"FamilyKernel$Row", "put", "(II)V"⟩ ⟨"FamilyKernel$Row", "put", "(II)V"⟩ : Cond) ∈ vT := inR_0 _ (List.mem_of_getElem? (i := 14) rfl)
theorem vt_15 : (.code ⟨"FamilyKernel$Row", "put", "(II)V"⟩ prog_10_method_4_code 3 none : Cond) ∈ vT := inR_0 _ (List.mem_of_getElem? (i := 15) rfl)
theorem vt_16 : (.methodLink "FamilyKernel$Environment" 24 ⟨"FamilyKernel$Row", "size", "()I"⟩ : Cond) ∈ vT := inR_0 _ (List.mem_of_getElem? (i := 16) rfl)
theorem vt_17 : (.instanceMethod ⟨"FamilyKernel$Row", "size", "()I"⟩ : Cond) ∈ vT := inR_0 _ (List.mem_of_getElem? (i := 17) rfl)
theorem vt_18 : (.selects "FamilyKernel$Row" ⟨"FamilyKernel$Row", "size", "()I"⟩ ⟨"FamilyKernel$Row", "size", "()I"⟩ : Cond) ∈ vT := inR_0 _ (List.mem_of_getElem? (i := 18) rfl)
theorem vt_19 : (.code ⟨"FamilyKernel$Row", "size", "()I"⟩ prog_10_method_2_code 1 (some .int) : Cond) ∈ vT := inR_0 _ (List.mem_of_getElem? (i := 19) rfl)
theorem vt_20 : (.fieldLink "FamilyKernel$Environment" 28 "FamilyKernel$Environment" "sizes" "I" : Cond) ∈ vT := inR_0 _ (List.mem_of_getElem? (i := 20) rfl)
theorem vt_21 : (.fieldLink "FamilyKernel$Frames" 17 "FamilyKernel$Frames" "cells" "LFamilyKernel$Row;" : Cond) ∈ vT := inR_0 _ (List.mem_of_getElem? (i := 21) rfl)
theorem vt_22 : (.methodLink "FamilyKernel$Frames" 32 ⟨"FamilyKernel$Row", "size", "()I"⟩ : Cond) ∈ vT := inR_0 _ (List.mem_of_getElem? (i := 22) rfl)
theorem vt_23 : (.methodLink "FamilyKernel$Frames" 38 ⟨"FamilyKernel$Row", "at", "(I)I"⟩ : Cond) ∈ vT := inR_0 _ (List.mem_of_getElem? (i := 23) rfl)
theorem vt_24 : (.methodLink "FamilyKernel$Frames" 42 ⟨"FamilyKernel$Row", "put", "(II)V"⟩ : Cond) ∈ vT := inR_0 _ (List.mem_of_getElem? (i := 24) rfl)
theorem vt_25 : (.methodLink "FamilyKernel$Frames" 24 ⟨"FamilyKernel$Row", "cut", "(I)V"⟩ : Cond) ∈ vT := inR_0 _ (List.mem_of_getElem? (i := 25) rfl)
theorem vt_26 : (.instanceMethod ⟨"FamilyKernel$Row", "cut", "(I)V"⟩ : Cond) ∈ vT := inR_0 _ (List.mem_of_getElem? (i := 26) rfl)
theorem vt_27 : (.selects "FamilyKernel$Row" ⟨"FamilyKernel$Row", "cut", "(I)V"⟩ ⟨"FamilyKernel$Row", "cut", "(I)V"⟩ : Cond) ∈ vT := inR_0 _ (List.mem_of_getElem? (i := 27) rfl)
theorem vt_28 : (.code ⟨"FamilyKernel$Row", "cut", "(I)V"⟩ prog_10_method_7_code 2 none : Cond) ∈ vT := inR_0 _ (List.mem_of_getElem? (i := 28) rfl)
theorem vt_29 : (.fieldLink "FamilyKernel$Frames" 45 "FamilyKernel$Frames" "result" "I" : Cond) ∈ vT := inR_0 _ (List.mem_of_getElem? (i := 29) rfl)
theorem vt_30 : (.methodLink "FamilyKernel$Frames" 49 ⟨"FamilyKernel$Frames", "pop", "()V"⟩ : Cond) ∈ vT := inR_0 _ (List.mem_of_getElem? (i := 30) rfl)
theorem vt_31 : (.instanceMethod ⟨"FamilyKernel$Frames", "pop", "()V"⟩ : Cond) ∈ vT := inR_0 _ (List.mem_of_getElem? (i := 31) rfl)
theorem vt_32 : (.selects "FamilyKernel$Frames" ⟨"FamilyKernel$Frames", "pop", "()V"⟩ ⟨"FamilyKernel$Frames", "pop", "()V"⟩ : Cond) ∈ vT := inR_0 _ (List.mem_of_getElem? (i := 32) rfl)
theorem vt_33 : (.initialized "FamilyKernel$Frames" : Cond) ∈ vT := inR_0 _ (List.mem_of_getElem? (i := 33) rfl)
theorem vt_34 : (.code ⟨"FamilyKernel$Frames", "pop", "()V"⟩ prog_4_method_5_code 1 none : Cond) ∈ vT := inR_0 _ (List.mem_of_getElem? (i := 34) rfl)
theorem vt_35 : (.fieldLink "FamilyKernel$Frames" 21 "FamilyKernel$Frames" "types" "LFamilyKernel$Row;" : Cond) ∈ vT := inR_0 _ (List.mem_of_getElem? (i := 35) rfl)
theorem vt_36 : (.initialized "java/lang/Throwable" : Cond) ∈ vT := inR_0 _ (List.mem_of_getElem? (i := 36) rfl)
theorem vt_37 : (.initialized "java/lang/Exception" : Cond) ∈ vT := inR_0 _ (List.mem_of_getElem? (i := 37) rfl)
theorem vt_38 : (.initialized "java/lang/RuntimeException" : Cond) ∈ vT := inR_0 _ (List.mem_of_getElem? (i := 38) rfl)
theorem vt_39 : (.initialized "java/lang/IllegalArgumentException" : Cond) ∈ vT := inR_0 _ (List.mem_of_getElem? (i := 39) rfl)
theorem vt_40 : (.initialized "java/util/NoSuchElementException" : Cond) ∈ vT := inR_1 _ (List.mem_of_getElem? (i := 0) rfl)
theorem vt_41 : (.initialized "java/lang/IndexOutOfBoundsException" : Cond) ∈ vT := inR_1 _ (List.mem_of_getElem? (i := 1) rfl)
theorem vt_42 : (.methodLink "FamilyKernel" 1 ⟨"java/lang/Object", "<init>", "()V"⟩ : Cond) ∈ vT := inR_1 _ (List.mem_of_getElem? (i := 2) rfl)
theorem vt_43 : (.instanceMethod ⟨"java/lang/Object", "<init>", "()V"⟩ : Cond) ∈ vT := inR_1 _ (List.mem_of_getElem? (i := 3) rfl)
theorem vt_44 : (.code ⟨"java/lang/Object", "<init>", "()V"⟩ object_method_1_code 1 none : Cond) ∈ vT := inR_1 _ (List.mem_of_getElem? (i := 4) rfl)
theorem vt_45 : (.methodLink "FamilyKernel$Row" 1 ⟨"java/lang/Object", "<init>", "()V"⟩ : Cond) ∈ vT := inR_1 _ (List.mem_of_getElem? (i := 5) rfl)
theorem vt_46 : (.methodLink "FamilyKernel$Meter" 3 ⟨"java/lang/Object", "<init>", "()V"⟩ : Cond) ∈ vT := inR_1 _ (List.mem_of_getElem? (i := 6) rfl)
theorem vt_47 : (.methodLink "FamilyKernel$Terms" 3 ⟨"java/lang/Object", "<init>", "()V"⟩ : Cond) ∈ vT := inR_1 _ (List.mem_of_getElem? (i := 7) rfl)
theorem vt_48 : (.methodLink "FamilyKernel$Environment" 3 ⟨"java/lang/Object", "<init>", "()V"⟩ : Cond) ∈ vT := inR_1 _ (List.mem_of_getElem? (i := 8) rfl)
theorem vt_49 : (.methodLink "FamilyKernel$Lexer" 3 ⟨"java/lang/Object", "<init>", "()V"⟩ : Cond) ∈ vT := inR_1 _ (List.mem_of_getElem? (i := 9) rfl)
theorem vt_50 : (.methodLink "FamilyKernel$Parser" 3 ⟨"java/lang/Object", "<init>", "()V"⟩ : Cond) ∈ vT := inR_1 _ (List.mem_of_getElem? (i := 10) rfl)
theorem vt_51 : (.methodLink "FamilyKernel$Frames" 3 ⟨"java/lang/Object", "<init>", "()V"⟩ : Cond) ∈ vT := inR_1 _ (List.mem_of_getElem? (i := 11) rfl)
theorem vt_52 : (.methodLink "FamilyKernel$Reducer" 3 ⟨"java/lang/Object", "<init>", "()V"⟩ : Cond) ∈ vT := inR_1 _ (List.mem_of_getElem? (i := 12) rfl)
theorem vt_53 : (.methodLink "FamilyKernel$Typer" 3 ⟨"java/lang/Object", "<init>", "()V"⟩ : Cond) ∈ vT := inR_1 _ (List.mem_of_getElem? (i := 13) rfl)
theorem vt_54 : (.methodLink "FamilyKernel$Families" 3 ⟨"java/lang/Object", "<init>", "()V"⟩ : Cond) ∈ vT := inR_1 _ (List.mem_of_getElem? (i := 14) rfl)
theorem vt_55 : (.methodLink "FamilyKernel$Printer" 3 ⟨"java/lang/Object", "<init>", "()V"⟩ : Cond) ∈ vT := inR_1 _ (List.mem_of_getElem? (i := 15) rfl)
theorem vt_56 : (.lays "java/lang/Throwable" "java/lang/Throwable" "cause" "Ljava/lang/Throwable;" : Cond) ∈ vT := inR_1 _ (List.mem_of_getElem? (i := 16) rfl)
theorem vt_57 : (.lays "java/lang/Throwable" "java/lang/Throwable" "stackTrace" "[Ljava/lang/StackTraceElement;" : Cond) ∈ vT := inR_1 _ (List.mem_of_getElem? (i := 17) rfl)
theorem vt_58 : (.lays "java/lang/Throwable" "java/lang/Throwable" "suppressedExceptions" "Ljava/util/List;" : Cond) ∈ vT := inR_1 _ (List.mem_of_getElem? (i := 18) rfl)
theorem vt_59 : (.lays "java/lang/Throwable" "java/lang/Throwable" "detailMessage" "Ljava/lang/String;" : Cond) ∈ vT := inR_1 _ (List.mem_of_getElem? (i := 19) rfl)
theorem vt_60 : (.lays "java/lang/Throwable" "java/lang/Throwable" "backtrace" "Ljava/lang/Object;" : Cond) ∈ vT := inR_1 _ (List.mem_of_getElem? (i := 20) rfl)
theorem vt_61 : (.fieldLink "java/lang/Throwable" 198 "java/lang/Throwable" "backtrace" "Ljava/lang/Object;" : Cond) ∈ vT := inR_1 _ (List.mem_of_getElem? (i := 21) rfl)
theorem vt_62 : (.superclass "java/lang/Throwable" "java/lang/Object" : Cond) ∈ vT := inR_1 _ (List.mem_of_getElem? (i := 22) rfl)
theorem vt_63 : (.instanceMethod ⟨"java/lang/Throwable", "<init>", "()V"⟩ : Cond) ∈ vT := inR_1 _ (List.mem_of_getElem? (i := 23) rfl)
theorem vt_64 : (.code ⟨"java/lang/Throwable", "<init>", "()V"⟩ prog_27_method_1_code 1 none : Cond) ∈ vT := inR_1 _ (List.mem_of_getElem? (i := 24) rfl)
theorem vt_65 : (.methodLink "java/lang/Throwable" 1 ⟨"java/lang/Object", "<init>", "()V"⟩ : Cond) ∈ vT := inR_1 _ (List.mem_of_getElem? (i := 25) rfl)
theorem vt_66 : (.fieldLink "java/lang/Throwable" 13 "java/lang/Throwable" "UNASSIGNED_STACK" "[Ljava/lang/StackTraceElement;" : Cond) ∈ vT := inR_1 _ (List.mem_of_getElem? (i := 26) rfl)
theorem vt_67 : (.fieldLink "java/lang/Throwable" 20 "java/lang/Throwable" "SUPPRESSED_SENTINEL" "Ljava/util/List;" : Cond) ∈ vT := inR_1 _ (List.mem_of_getElem? (i := 27) rfl)
theorem vt_68 : (.methodLink "java/lang/Throwable" 27 ⟨"java/lang/Throwable", "fillInStackTrace", "()Ljava/lang/Throwable;"⟩ : Cond) ∈ vT := inR_1 _ (List.mem_of_getElem? (i := 28) rfl)
theorem vt_69 : (.instanceMethod ⟨"java/lang/Throwable", "fillInStackTrace", "()Ljava/lang/Throwable;"⟩ : Cond) ∈ vT := inR_1 _ (List.mem_of_getElem? (i := 29) rfl)
theorem vt_70 : (.sameMethod "java/lang/Throwable" "java/lang/Throwable" "fillInStackTrace" "()Ljava/lang/Throwable;" : Cond) ∈ vT := inR_1 _ (List.mem_of_getElem? (i := 30) rfl)
theorem vt_71 : (.selects "java/lang/IllegalArgumentException" ⟨"java/lang/Throwable", "fillInStackTrace", "()Ljava/lang/Throwable;"⟩ ⟨"java/lang/Throwable", "fillInStackTrace", "()Ljava/lang/Throwable;"⟩ : Cond) ∈ vT := inR_1 _ (List.mem_of_getElem? (i := 31) rfl)
theorem vt_72 : (.selects "java/lang/IndexOutOfBoundsException" ⟨"java/lang/Throwable", "fillInStackTrace", "()Ljava/lang/Throwable;"⟩ ⟨"java/lang/Throwable", "fillInStackTrace", "()Ljava/lang/Throwable;"⟩ : Cond) ∈ vT := inR_1 _ (List.mem_of_getElem? (i := 32) rfl)
theorem vt_73 : (.selects "java/util/NoSuchElementException" ⟨"java/lang/Throwable", "fillInStackTrace", "()Ljava/lang/Throwable;"⟩ ⟨"java/lang/Throwable", "fillInStackTrace", "()Ljava/lang/Throwable;"⟩ : Cond) ∈ vT := inR_1 _ (List.mem_of_getElem? (i := 33) rfl)
theorem vt_74 : (.codeSync ⟨"java/lang/Throwable", "fillInStackTrace", "()Ljava/lang/Throwable;"⟩ prog_27_method_18_code 1 (some (.object "java/lang/Throwable")) : Cond) ∈ vT := inR_1 _ (List.mem_of_getElem? (i := 34) rfl)
theorem vt_75 : (.methodLink "java/lang/Throwable" 202 ⟨"java/lang/Throwable", "fillInStackTrace", "(I)Ljava/lang/Throwable;"⟩ : Cond) ∈ vT := inR_1 _ (List.mem_of_getElem? (i := 35) rfl)
theorem vt_76 : (.instanceMethod ⟨"java/lang/Throwable", "fillInStackTrace", "(I)Ljava/lang/Throwable;"⟩ : Cond) ∈ vT := inR_1 _ (List.mem_of_getElem? (i := 36) rfl)
theorem vt_77 : (.instantiable "java/lang/Throwable" 6 : Cond) ∈ vT := inR_1 _ (List.mem_of_getElem? (i := 37) rfl)
theorem vt_78 : (.native ⟨"java/lang/Throwable", "fillInStackTrace", "(I)Ljava/lang/Throwable;"⟩ : Cond) ∈ vT := inR_1 _ (List.mem_of_getElem? (i := 38) rfl)
theorem vt_79 : (.instanceMethod ⟨"java/lang/RuntimeException", "<init>", "()V"⟩ : Cond) ∈ vT := inR_1 _ (List.mem_of_getElem? (i := 39) rfl)
theorem vt_80 : (.code ⟨"java/lang/RuntimeException", "<init>", "()V"⟩ prog_22_method_1_code 1 none : Cond) ∈ vT := inR_2 _ (List.mem_of_getElem? (i := 0) rfl)
theorem vt_81 : (.methodLink "java/lang/RuntimeException" 1 ⟨"java/lang/Exception", "<init>", "()V"⟩ : Cond) ∈ vT := inR_2 _ (List.mem_of_getElem? (i := 1) rfl)
theorem vt_82 : (.instanceMethod ⟨"java/lang/Exception", "<init>", "()V"⟩ : Cond) ∈ vT := inR_2 _ (List.mem_of_getElem? (i := 2) rfl)
theorem vt_83 : (.code ⟨"java/lang/Exception", "<init>", "()V"⟩ prog_17_method_1_code 1 none : Cond) ∈ vT := inR_2 _ (List.mem_of_getElem? (i := 3) rfl)
theorem vt_84 : (.methodLink "java/lang/Exception" 1 ⟨"java/lang/Throwable", "<init>", "()V"⟩ : Cond) ∈ vT := inR_2 _ (List.mem_of_getElem? (i := 4) rfl)
theorem vt_85 : (.fieldLink "java/lang/Throwable" 31 "java/lang/Throwable" "detailMessage" "Ljava/lang/String;" : Cond) ∈ vT := inR_2 _ (List.mem_of_getElem? (i := 5) rfl)
theorem vt_86 : (.fieldLink "java/lang/Throwable" 7 "java/lang/Throwable" "cause" "Ljava/lang/Throwable;" : Cond) ∈ vT := inR_2 _ (List.mem_of_getElem? (i := 6) rfl)
theorem vt_87 : (.fieldLink "java/lang/Throwable" 17 "java/lang/Throwable" "stackTrace" "[Ljava/lang/StackTraceElement;" : Cond) ∈ vT := inR_2 _ (List.mem_of_getElem? (i := 7) rfl)
theorem vt_88 : (.fieldLink "java/lang/Throwable" 24 "java/lang/Throwable" "suppressedExceptions" "Ljava/util/List;" : Cond) ∈ vT := inR_2 _ (List.mem_of_getElem? (i := 8) rfl)
theorem vt_89 : (.soleField "java/lang/Throwable" "backtrace" : Cond) ∈ vT := inR_2 _ (List.mem_of_getElem? (i := 9) rfl)
theorem vt_90 : (.soleField "java/lang/Throwable" "detailMessage" : Cond) ∈ vT := inR_2 _ (List.mem_of_getElem? (i := 10) rfl)
theorem vt_91 : (.soleField "java/lang/Throwable" "cause" : Cond) ∈ vT := inR_2 _ (List.mem_of_getElem? (i := 11) rfl)
theorem vt_92 : (.soleField "java/lang/Throwable" "stackTrace" : Cond) ∈ vT := inR_2 _ (List.mem_of_getElem? (i := 12) rfl)
theorem vt_93 : (.soleField "java/lang/Throwable" "depth" : Cond) ∈ vT := inR_2 _ (List.mem_of_getElem? (i := 13) rfl)
theorem vt_94 : (.soleField "java/lang/Throwable" "suppressedExceptions" : Cond) ∈ vT := inR_2 _ (List.mem_of_getElem? (i := 14) rfl)
theorem vt_95 : (.classLink "FamilyKernelLaw" 19 "java/lang/IllegalArgumentException" : Cond) ∈ vT := inR_2 _ (List.mem_of_getElem? (i := 15) rfl)
theorem vt_96 : (.classLink "FamilyKernel" 118 "java/lang/IllegalArgumentException" : Cond) ∈ vT := inR_2 _ (List.mem_of_getElem? (i := 16) rfl)
theorem vt_97 : (.instantiable "java/lang/IllegalArgumentException" 6 : Cond) ∈ vT := inR_2 _ (List.mem_of_getElem? (i := 17) rfl)
theorem vt_98 : (.selects "java/lang/IllegalArgumentException" ⟨"java/lang/Throwable", "fillInStackTrace", "(I)Ljava/lang/Throwable;"⟩ ⟨"java/lang/Throwable", "fillInStackTrace", "(I)Ljava/lang/Throwable;"⟩ : Cond) ∈ vT := inR_2 _ (List.mem_of_getElem? (i := 18) rfl)
theorem vt_99 : (.lays "java/lang/IllegalArgumentException" "java/lang/Throwable" "cause" "Ljava/lang/Throwable;" : Cond) ∈ vT := inR_2 _ (List.mem_of_getElem? (i := 19) rfl)
theorem vt_100 : (.lays "java/lang/IllegalArgumentException" "java/lang/Throwable" "stackTrace" "[Ljava/lang/StackTraceElement;" : Cond) ∈ vT := inR_2 _ (List.mem_of_getElem? (i := 20) rfl)
theorem vt_101 : (.lays "java/lang/IllegalArgumentException" "java/lang/Throwable" "suppressedExceptions" "Ljava/util/List;" : Cond) ∈ vT := inR_2 _ (List.mem_of_getElem? (i := 21) rfl)
theorem vt_102 : (.lays "java/lang/IllegalArgumentException" "java/lang/Throwable" "detailMessage" "Ljava/lang/String;" : Cond) ∈ vT := inR_2 _ (List.mem_of_getElem? (i := 22) rfl)
theorem vt_103 : (.lays "java/lang/IllegalArgumentException" "java/lang/Throwable" "backtrace" "Ljava/lang/Object;" : Cond) ∈ vT := inR_2 _ (List.mem_of_getElem? (i := 23) rfl)
theorem vt_104 : (.methodLink "FamilyKernel" 120 ⟨"java/lang/IllegalArgumentException", "<init>", "()V"⟩ : Cond) ∈ vT := inR_2 _ (List.mem_of_getElem? (i := 24) rfl)
theorem vt_105 : (.instanceMethod ⟨"java/lang/IllegalArgumentException", "<init>", "()V"⟩ : Cond) ∈ vT := inR_2 _ (List.mem_of_getElem? (i := 25) rfl)
theorem vt_106 : (.code ⟨"java/lang/IllegalArgumentException", "<init>", "()V"⟩ prog_18_method_1_code 1 none : Cond) ∈ vT := inR_2 _ (List.mem_of_getElem? (i := 26) rfl)
theorem vt_107 : (.methodLink "java/lang/IllegalArgumentException" 1 ⟨"java/lang/RuntimeException", "<init>", "()V"⟩ : Cond) ∈ vT := inR_2 _ (List.mem_of_getElem? (i := 27) rfl)
theorem vt_108 : (.lays "java/lang/IllegalArgumentException" "java/lang/Throwable" "depth" "I" : Cond) ∈ vT := inR_2 _ (List.mem_of_getElem? (i := 28) rfl)
theorem vt_109 : (.superclass "java/lang/IllegalArgumentException" "java/lang/RuntimeException" : Cond) ∈ vT := inR_2 _ (List.mem_of_getElem? (i := 29) rfl)
theorem vt_110 : (.classLink "FamilyKernelLaw" 25 "java/util/NoSuchElementException" : Cond) ∈ vT := inR_2 _ (List.mem_of_getElem? (i := 30) rfl)
theorem vt_111 : (.classLink "FamilyKernel" 336 "java/util/NoSuchElementException" : Cond) ∈ vT := inR_2 _ (List.mem_of_getElem? (i := 31) rfl)
theorem vt_112 : (.instantiable "java/util/NoSuchElementException" 6 : Cond) ∈ vT := inR_2 _ (List.mem_of_getElem? (i := 32) rfl)
theorem vt_113 : (.selects "java/util/NoSuchElementException" ⟨"java/lang/Throwable", "fillInStackTrace", "(I)Ljava/lang/Throwable;"⟩ ⟨"java/lang/Throwable", "fillInStackTrace", "(I)Ljava/lang/Throwable;"⟩ : Cond) ∈ vT := inR_2 _ (List.mem_of_getElem? (i := 33) rfl)
theorem vt_114 : (.lays "java/util/NoSuchElementException" "java/lang/Throwable" "cause" "Ljava/lang/Throwable;" : Cond) ∈ vT := inR_2 _ (List.mem_of_getElem? (i := 34) rfl)
theorem vt_115 : (.lays "java/util/NoSuchElementException" "java/lang/Throwable" "stackTrace" "[Ljava/lang/StackTraceElement;" : Cond) ∈ vT := inR_2 _ (List.mem_of_getElem? (i := 35) rfl)
theorem vt_116 : (.lays "java/util/NoSuchElementException" "java/lang/Throwable" "suppressedExceptions" "Ljava/util/List;" : Cond) ∈ vT := inR_2 _ (List.mem_of_getElem? (i := 36) rfl)
theorem vt_117 : (.lays "java/util/NoSuchElementException" "java/lang/Throwable" "detailMessage" "Ljava/lang/String;" : Cond) ∈ vT := inR_2 _ (List.mem_of_getElem? (i := 37) rfl)
theorem vt_118 : (.lays "java/util/NoSuchElementException" "java/lang/Throwable" "backtrace" "Ljava/lang/Object;" : Cond) ∈ vT := inR_2 _ (List.mem_of_getElem? (i := 38) rfl)
theorem vt_119 : (.methodLink "FamilyKernel" 338 ⟨"java/util/NoSuchElementException", "<init>", "()V"⟩ : Cond) ∈ vT := inR_2 _ (List.mem_of_getElem? (i := 39) rfl)
theorem vt_120 : (.instanceMethod ⟨"java/util/NoSuchElementException", "<init>", "()V"⟩ : Cond) ∈ vT := inR_3 _ (List.mem_of_getElem? (i := 0) rfl)
theorem vt_121 : (.code ⟨"java/util/NoSuchElementException", "<init>", "()V"⟩ prog_29_method_1_code 1 none : Cond) ∈ vT := inR_3 _ (List.mem_of_getElem? (i := 1) rfl)
theorem vt_122 : (.methodLink "java/util/NoSuchElementException" 1 ⟨"java/lang/RuntimeException", "<init>", "()V"⟩ : Cond) ∈ vT := inR_3 _ (List.mem_of_getElem? (i := 2) rfl)
theorem vt_123 : (.lays "java/util/NoSuchElementException" "java/lang/Throwable" "depth" "I" : Cond) ∈ vT := inR_3 _ (List.mem_of_getElem? (i := 3) rfl)
theorem vt_124 : (.superclass "java/util/NoSuchElementException" "java/lang/RuntimeException" : Cond) ∈ vT := inR_3 _ (List.mem_of_getElem? (i := 4) rfl)
theorem vt_125 : (.classLink "FamilyKernelLaw" 36 "java/lang/IndexOutOfBoundsException" : Cond) ∈ vT := inR_3 _ (List.mem_of_getElem? (i := 5) rfl)
theorem vt_126 : (.classLink "FamilyKernel" 350 "java/lang/IndexOutOfBoundsException" : Cond) ∈ vT := inR_3 _ (List.mem_of_getElem? (i := 6) rfl)
theorem vt_127 : (.instantiable "java/lang/IndexOutOfBoundsException" 6 : Cond) ∈ vT := inR_3 _ (List.mem_of_getElem? (i := 7) rfl)
theorem vt_128 : (.selects "java/lang/IndexOutOfBoundsException" ⟨"java/lang/Throwable", "fillInStackTrace", "(I)Ljava/lang/Throwable;"⟩ ⟨"java/lang/Throwable", "fillInStackTrace", "(I)Ljava/lang/Throwable;"⟩ : Cond) ∈ vT := inR_3 _ (List.mem_of_getElem? (i := 8) rfl)
theorem vt_129 : (.lays "java/lang/IndexOutOfBoundsException" "java/lang/Throwable" "cause" "Ljava/lang/Throwable;" : Cond) ∈ vT := inR_3 _ (List.mem_of_getElem? (i := 9) rfl)
theorem vt_130 : (.lays "java/lang/IndexOutOfBoundsException" "java/lang/Throwable" "stackTrace" "[Ljava/lang/StackTraceElement;" : Cond) ∈ vT := inR_3 _ (List.mem_of_getElem? (i := 10) rfl)
theorem vt_131 : (.lays "java/lang/IndexOutOfBoundsException" "java/lang/Throwable" "suppressedExceptions" "Ljava/util/List;" : Cond) ∈ vT := inR_3 _ (List.mem_of_getElem? (i := 11) rfl)
theorem vt_132 : (.lays "java/lang/IndexOutOfBoundsException" "java/lang/Throwable" "detailMessage" "Ljava/lang/String;" : Cond) ∈ vT := inR_3 _ (List.mem_of_getElem? (i := 12) rfl)
theorem vt_133 : (.lays "java/lang/IndexOutOfBoundsException" "java/lang/Throwable" "backtrace" "Ljava/lang/Object;" : Cond) ∈ vT := inR_3 _ (List.mem_of_getElem? (i := 13) rfl)
theorem vt_134 : (.methodLink "FamilyKernel" 352 ⟨"java/lang/IndexOutOfBoundsException", "<init>", "()V"⟩ : Cond) ∈ vT := inR_3 _ (List.mem_of_getElem? (i := 14) rfl)
theorem vt_135 : (.instanceMethod ⟨"java/lang/IndexOutOfBoundsException", "<init>", "()V"⟩ : Cond) ∈ vT := inR_3 _ (List.mem_of_getElem? (i := 15) rfl)
theorem vt_136 : (.code ⟨"java/lang/IndexOutOfBoundsException", "<init>", "()V"⟩ prog_20_method_1_code 1 none : Cond) ∈ vT := inR_3 _ (List.mem_of_getElem? (i := 16) rfl)
theorem vt_137 : (.methodLink "java/lang/IndexOutOfBoundsException" 1 ⟨"java/lang/RuntimeException", "<init>", "()V"⟩ : Cond) ∈ vT := inR_3 _ (List.mem_of_getElem? (i := 17) rfl)
theorem vt_138 : (.lays "java/lang/IndexOutOfBoundsException" "java/lang/Throwable" "depth" "I" : Cond) ∈ vT := inR_3 _ (List.mem_of_getElem? (i := 18) rfl)
theorem vt_139 : (.superclass "java/lang/IndexOutOfBoundsException" "java/lang/RuntimeException" : Cond) ∈ vT := inR_3 _ (List.mem_of_getElem? (i := 19) rfl)
theorem vt_140 : (.methodLink "FamilyKernelModel" 7 ⟨"java/lang/Object", "<init>", "()V"⟩ : Cond) ∈ vT := inR_3 _ (List.mem_of_getElem? (i := 20) rfl)
theorem vt_141 : (.sameMethod "java/lang/Throwable" "java/lang/Throwable" "fillInStackTrace" "(I)Ljava/lang/Throwable;" : Cond) ∈ vT := inR_3 _ (List.mem_of_getElem? (i := 21) rfl)
theorem vr_f {big : List Cond} (ws : List Cond) (ps : List Nat) (hp : ws = ps.filterMap (fun i => big[i]?)) : ∀ w ∈ ws, w ∈ big := by
  intro w hw
  rw [hp] at hw
  obtain ⟨i, -, hi⟩ := List.mem_filterMap.mp hw
  exact List.mem_of_getElem? hi
theorem tl_Row : ∀ w ∈ u_ws R_Row T_Row 3, w ∈ lw_tbl := vr_f _ [54, 56, 58] (by decide +kernel)
theorem gd_Row : (u_ws R_Row T_Row 3).all goodWord = true := by decide +kernel
theorem tl_Meter : ∀ w ∈ u_ws R_Meter T_Meter 4, w ∈ lw_tbl := vr_f _ [72, 74, 76, 78] (by decide +kernel)
theorem gd_Meter : (u_ws R_Meter T_Meter 4).all goodWord = true := by decide +kernel
theorem tl_Terms : ∀ w ∈ u_ws R_Terms T_Terms 10, w ∈ lw_tbl := vr_f _ [100, 102, 104, 106, 108, 110, 112, 114, 116, 118] (by decide +kernel)
theorem gd_Terms : (u_ws R_Terms T_Terms 10).all goodWord = true := by decide +kernel
theorem tl_Env : ∀ w ∈ u_ws R_Env T_Env 3, w ∈ lw_tbl := vr_f _ [134, 136, 138] (by decide +kernel)
theorem gd_Env : (u_ws R_Env T_Env 3).all goodWord = true := by decide +kernel
theorem tl_Lex : ∀ w ∈ u_ws R_Lex T_Lex 7, w ∈ lw_tbl := vr_f _ [157, 159, 161, 163, 165, 167, 169] (by decide +kernel)
theorem gd_Lex : (u_ws R_Lex T_Lex 7).all goodWord = true := by decide +kernel
theorem tl_Par : ∀ w ∈ u_ws R_Par T_Par 20, w ∈ lw_tbl := vr_f _ [201, 203, 205, 207, 209, 211, 213, 215, 217, 219, 221, 223, 225, 227, 229, 231, 233, 235, 237, 239] (by decide +kernel)
theorem gd_Par : (u_ws R_Par T_Par 20).all goodWord = true := by decide +kernel
theorem tl_Fra : ∀ w ∈ u_ws R_Fra T_Fra 3, w ∈ lw_tbl := vr_f _ [254, 256, 258] (by decide +kernel)
theorem gd_Fra : (u_ws R_Fra T_Fra 3).all goodWord = true := by decide +kernel
theorem tl_Red : ∀ w ∈ u_ws R_Red T_Red 5, w ∈ lw_tbl := vr_f _ [275, 277, 279, 281, 283] (by decide +kernel)
theorem gd_Red : (u_ws R_Red T_Red 5).all goodWord = true := by decide +kernel
theorem tl_Typ : ∀ w ∈ u_ws R_Typ T_Typ 4, w ∈ lw_tbl := vr_f _ [296, 298, 300, 302] (by decide +kernel)
theorem gd_Typ : (u_ws R_Typ T_Typ 4).all goodWord = true := by decide +kernel
theorem tl_Fam : ∀ w ∈ u_ws R_Fam T_Fam 18, w ∈ lw_tbl := vr_f _ [332, 334, 336, 338, 340, 342, 344, 346, 348, 350, 352, 354, 356, 358, 360, 362, 364, 366] (by decide +kernel)
theorem gd_Fam : (u_ws R_Fam T_Fam 18).all goodWord = true := by decide +kernel
theorem tl_Pri : ∀ w ∈ u_ws R_Pri T_Pri 4, w ∈ lw_tbl := vr_f _ [382, 384, 386, 388] (by decide +kernel)
theorem gd_Pri : (u_ws R_Pri T_Pri 4).all goodWord = true := by decide +kernel
theorem tl_Ker : ∀ w ∈ u_ws R_Ker T_Ker 14, w ∈ lw_tbl := vr_f _ [405, 407, 409, 411, 413, 415, 417, 419, 421, 423, 425, 427, 429, 431] (by decide +kernel)
theorem gd_Ker : (u_ws R_Ker T_Ker 14).all goodWord = true := by decide +kernel
theorem tl_Mod : ∀ w ∈ u_ws R_Mod T_Mod 76, w ∈ lw_tbl := vr_f _ [1769, 1771, 1773, 1775, 1777, 1779, 1781, 1783, 1785, 1787, 1789, 1791, 1793, 1795, 1797, 1799, 1801, 1803, 1805, 1807, 1809, 1811, 1813, 1815, 1817, 1819, 1821, 1823, 1825, 1827, 1829, 1831, 1833, 1835, 1837, 1839, 1841, 1843, 1845, 1847, 1849, 1851, 1853, 1855, 1857, 1859, 1861, 1863, 1865, 1867, 1869, 1871, 1873, 1875, 1877, 1879, 1881, 1883, 1885, 1887, 1889, 1891, 1893, 1895, 1897, 1899, 1901, 1903, 1905, 1907, 1909, 1911, 1913, 1915, 1917, 1919] (by decide +kernel)
theorem gd_Mod : (u_ws R_Mod T_Mod 76).all goodWord = true := by decide +kernel
set_option maxRecDepth 100000 in
theorem tr_0 : ∀ w ∈ vR_0, w ∈ lw_tbl := vr_f _ [53, 52, 68, 69, 70, 71, 131, 711, 465, 466, 9, 467, 744, 745, 746, 747, 593, 461, 462, 463, 133, 251, 1015, 1020, 1065, 1004, 448, 449, 450, 253, 1081, 1082, 1083, 15, 1084, 252, 21, 22, 23, 28] rfl
theorem gdr_0 : vR_0.all goodWord = true := by decide +kernel
set_option maxRecDepth 100000 in
theorem tr_1 : ∀ w ∈ vR_1, w ∈ lw_tbl := vr_f _ [34, 35, 41, 42, 43, 50, 67, 86, 127, 146, 177, 247, 266, 291, 310, 374, 638, 640, 642, 644, 646, 647, 648, 649, 650, 651, 652, 654, 656, 657, 658, 660, 661, 662, 663, 664, 666, 667, 668, 673] rfl
theorem gdr_1 : vR_1.all goodWord = true := by decide +kernel
set_option maxRecDepth 100000 in
theorem tr_2 : ∀ w ∈ vR_2, w ∈ lw_tbl := vr_f _ [674, 675, 676, 677, 678, 680, 681, 682, 683, 684, 685, 686, 687, 689, 690, 1597, 1602, 1603, 1605, 1606, 1607, 1608, 1609, 1610, 1611, 1612, 1613, 1614, 1615, 1616, 1620, 1625, 1626, 1628, 1629, 1630, 1631, 1632, 1633, 1634] rfl
theorem gdr_2 : vR_2.all goodWord = true := by decide +kernel
set_option maxRecDepth 100000 in
theorem tr_3 : ∀ w ∈ vR_3, w ∈ lw_tbl := vr_f _ [1635, 1636, 1637, 1638, 1639, 1663, 1668, 1669, 1671, 1672, 1673, 1674, 1675, 1676, 1677, 1678, 1679, 1680, 1681, 1682, 1689, 2406] rfl
theorem gdr_3 : vR_3.all goodWord = true := by decide +kernel
theorem vT_in : ∀ w ∈ vT, w ∈ lw_tbl := (fun w h => (List.mem_append.mp h).elim (tl_Row w) ((fun w h => (List.mem_append.mp h).elim (tl_Meter w) ((fun w h => (List.mem_append.mp h).elim (tl_Terms w) ((fun w h => (List.mem_append.mp h).elim (tl_Env w) ((fun w h => (List.mem_append.mp h).elim (tl_Lex w) ((fun w h => (List.mem_append.mp h).elim (tl_Par w) ((fun w h => (List.mem_append.mp h).elim (tl_Fra w) ((fun w h => (List.mem_append.mp h).elim (tl_Red w) ((fun w h => (List.mem_append.mp h).elim (tl_Typ w) ((fun w h => (List.mem_append.mp h).elim (tl_Fam w) ((fun w h => (List.mem_append.mp h).elim (tl_Pri w) ((fun w h => (List.mem_append.mp h).elim (tl_Ker w) ((fun w h => (List.mem_append.mp h).elim (tl_Mod w) ((fun w h => (List.mem_append.mp h).elim (tr_0 w) ((fun w h => (List.mem_append.mp h).elim (tr_1 w) ((fun w h => (List.mem_append.mp h).elim (tr_2 w) (tr_3 w)) w)) w)) w)) w)) w)) w)) w)) w)) w)) w)) w)) w)) w)) w)) w))
theorem ga {l : List Cond} (h : l.all goodWord = true) : ∀ w ∈ l, goodWord w = true := List.all_eq_true.mp h
theorem vT_good : ∀ w ∈ vT, goodWord w = true := (fun w h => (List.mem_append.mp h).elim ((ga gd_Row) w) ((fun w h => (List.mem_append.mp h).elim ((ga gd_Meter) w) ((fun w h => (List.mem_append.mp h).elim ((ga gd_Terms) w) ((fun w h => (List.mem_append.mp h).elim ((ga gd_Env) w) ((fun w h => (List.mem_append.mp h).elim ((ga gd_Lex) w) ((fun w h => (List.mem_append.mp h).elim ((ga gd_Par) w) ((fun w h => (List.mem_append.mp h).elim ((ga gd_Fra) w) ((fun w h => (List.mem_append.mp h).elim ((ga gd_Red) w) ((fun w h => (List.mem_append.mp h).elim ((ga gd_Typ) w) ((fun w h => (List.mem_append.mp h).elim ((ga gd_Fam) w) ((fun w h => (List.mem_append.mp h).elim ((ga gd_Pri) w) ((fun w h => (List.mem_append.mp h).elim ((ga gd_Ker) w) ((fun w h => (List.mem_append.mp h).elim ((ga gd_Mod) w) ((fun w h => (List.mem_append.mp h).elim ((ga gdr_0) w) ((fun w h => (List.mem_append.mp h).elim ((ga gdr_1) w) ((fun w h => (List.mem_append.mp h).elim ((ga gdr_2) w) ((ga gdr_3) w)) w)) w)) w)) w)) w)) w)) w)) w)) w)) w)) w)) w)) w)) w)) w))
abbrev b_Row_size : ByteArray := prog_10_method_2_code
abbrev y_Row_size : MethodName := ⟨"FamilyKernel$Row", "size", "()I"⟩
abbrev w_Row_size : List Cond := .code y_Row_size b_Row_size 1 (some .int) :: vT
abbrev b_Row_at : ByteArray := prog_10_method_3_code
abbrev y_Row_at : MethodName := ⟨"FamilyKernel$Row", "at", "(I)I"⟩
abbrev w_Row_at : List Cond := .code y_Row_at b_Row_at 2 (some .int) :: vT
abbrev b_Row_put : ByteArray := prog_10_method_4_code
abbrev y_Row_put : MethodName := ⟨"FamilyKernel$Row", "put", "(II)V"⟩
abbrev w_Row_put : List Cond := .code y_Row_put b_Row_put 3 none :: vT
abbrev b_Row_cut : ByteArray := prog_10_method_7_code
abbrev y_Row_cut : MethodName := ⟨"FamilyKernel$Row", "cut", "(I)V"⟩
abbrev w_Row_cut : List Cond := .code y_Row_cut b_Row_cut 2 none :: vT
abbrev b_Row_pop : ByteArray := prog_10_method_6_code
abbrev y_Row_pop : MethodName := ⟨"FamilyKernel$Row", "pop", "()I"⟩
abbrev w_Row_pop : List Cond := .code y_Row_pop b_Row_pop 1 (some .int) :: vT
abbrev b_Meter_work : ByteArray := prog_6_method_4_code
abbrev y_Meter_work : MethodName := ⟨"FamilyKernel$Meter", "work", "()I"⟩
abbrev w_Meter_work : List Cond := .code y_Meter_work b_Meter_work 1 (some .int) :: vT
abbrev b_Meter_code : ByteArray := prog_6_method_5_code
abbrev y_Meter_code : MethodName := ⟨"FamilyKernel$Meter", "code", "()I"⟩
abbrev w_Meter_code : List Cond := .code y_Meter_code b_Meter_code 1 (some .int) :: vT
abbrev b_Meter_place : ByteArray := prog_6_method_6_code
abbrev y_Meter_place : MethodName := ⟨"FamilyKernel$Meter", "place", "()I"⟩
abbrev w_Meter_place : List Cond := .code y_Meter_place b_Meter_place 1 (some .int) :: vT
abbrev b_Meter_forget : ByteArray := prog_6_method_2_code
abbrev y_Meter_forget : MethodName := ⟨"FamilyKernel$Meter", "forget", "()V"⟩
abbrev w_Meter_forget : List Cond := .code y_Meter_forget b_Meter_forget 1 none :: vT
abbrev b_Meter_begin : ByteArray := prog_6_method_3_code
abbrev y_Meter_begin : MethodName := ⟨"FamilyKernel$Meter", "begin", "(I)V"⟩
abbrev w_Meter_begin : List Cond := .code y_Meter_begin b_Meter_begin 2 none :: vT
abbrev b_Env_fact : ByteArray := prog_2_method_6_code
abbrev y_Env_fact : MethodName := ⟨"FamilyKernel$Environment", "fact", "(II)I"⟩
abbrev w_Env_fact : List Cond := .code y_Env_fact b_Env_fact 3 (some .int) :: vT
abbrev b_Env_fix : ByteArray := prog_2_method_7_code
abbrev y_Env_fix : MethodName := ⟨"FamilyKernel$Environment", "fix", "(III)V"⟩
abbrev w_Env_fix : List Cond := .code y_Env_fix b_Env_fix 4 none :: vT
abbrev b_Env_length : ByteArray := prog_2_method_2_code
abbrev y_Env_length : MethodName := ⟨"FamilyKernel$Environment", "length", "()I"⟩
abbrev w_Env_length : List Cond := .code y_Env_length b_Env_length 1 (some .int) :: vT
abbrev b_Env_sizes : ByteArray := prog_2_method_3_code
abbrev y_Env_sizes : MethodName := ⟨"FamilyKernel$Environment", "sizes", "()I"⟩
abbrev w_Env_sizes : List Cond := .code y_Env_sizes b_Env_sizes 1 (some .int) :: vT
abbrev b_Env_addSizes : ByteArray := prog_2_method_4_code
abbrev y_Env_addSizes : MethodName := ⟨"FamilyKernel$Environment", "addSizes", "(I)V"⟩
abbrev w_Env_addSizes : List Cond := .code y_Env_addSizes b_Env_addSizes 2 none :: vT
abbrev b_Fra_top : ByteArray := prog_4_method_6_code
abbrev y_Fra_top : MethodName := ⟨"FamilyKernel$Frames", "top", "(I)I"⟩
abbrev w_Fra_top : List Cond := .code y_Fra_top b_Fra_top 2 (some .int) :: vT
abbrev b_Fra_set : ByteArray := prog_4_method_7_code
abbrev y_Fra_set : MethodName := ⟨"FamilyKernel$Frames", "set", "(II)V"⟩
abbrev w_Fra_set : List Cond := .code y_Fra_set b_Fra_set 3 none :: vT
abbrev b_Fra_pop : ByteArray := prog_4_method_5_code
abbrev y_Fra_pop : MethodName := ⟨"FamilyKernel$Frames", "pop", "()V"⟩
abbrev w_Fra_pop : List Cond := .code y_Fra_pop b_Fra_pop 1 none :: vT
abbrev b_Fra_give : ByteArray := prog_4_method_8_code
abbrev y_Fra_give : MethodName := ⟨"FamilyKernel$Frames", "give", "(I)V"⟩
abbrev w_Fra_give : List Cond := .code y_Fra_give b_Fra_give 2 none :: vT
abbrev b_Fra_result : ByteArray := prog_4_method_9_code
abbrev y_Fra_result : MethodName := ⟨"FamilyKernel$Frames", "result", "()I"⟩
abbrev w_Fra_result : List Cond := .code y_Fra_result b_Fra_result 1 (some .int) :: vT
abbrev b_Fra_typeOf : ByteArray := prog_4_method_13_code
abbrev y_Fra_typeOf : MethodName := ⟨"FamilyKernel$Frames", "typeOf", "(I)I"⟩
abbrev w_Fra_typeOf : List Cond := .code y_Fra_typeOf b_Fra_typeOf 2 (some .int) :: vT
abbrev b_Fra_dropVariables : ByteArray := prog_4_method_12_code
abbrev y_Fra_dropVariables : MethodName := ⟨"FamilyKernel$Frames", "dropVariables", "()V"⟩
abbrev w_Fra_dropVariables : List Cond := .code y_Fra_dropVariables b_Fra_dropVariables 1 none :: vT
