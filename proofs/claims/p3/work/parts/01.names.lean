-- names: classes, fields, methods, the words that every contract carries (vT), their places
abbrev R_Row : String := "FamilyKernel$Row"
def T_Row : u_T := fun k => match k with
  | 0 => ("FamilyKernel$Row", "most", "I", true)
  | 1 => ("FamilyKernel$Row", "cells", "[I", false)
  | _ => ("FamilyKernel$Row", "length", "I", false)
def ty_Row : Nat → FieldType := fun k => match k with
  | 0 => .int
  | 1 => .array .int
  | _ => .int
theorem nm_Row : ∀ a, a < 3 → ∀ b, b < 3 → a ≠ b → (T_Row a).2.1 ≠ (T_Row b).2.1 := by decide +kernel
theorem tyo_Row : ∀ k, k < 3 → parseFieldDescriptor (T_Row k).2.2.1 = some (ty_Row k) := by decide +kernel
theorem df_Row : ∀ j, j < 3 → defaultValue (ty_Row j) = vp_V [.int 0, .null, .int 0] j := by decide +kernel
abbrev R_Meter : String := "FamilyKernel$Meter"
def T_Meter : u_T := fun k => match k with
  | 0 => ("FamilyKernel$Meter", "work", "I", false)
  | 1 => ("FamilyKernel$Meter", "code", "I", false)
  | 2 => ("FamilyKernel$Meter", "place", "I", false)
  | _ => ("FamilyKernel$Meter", "start", "I", false)
def ty_Meter : Nat → FieldType := fun k => match k with
  | 0 => .int
  | 1 => .int
  | 2 => .int
  | _ => .int
theorem nm_Meter : ∀ a, a < 4 → ∀ b, b < 4 → a ≠ b → (T_Meter a).2.1 ≠ (T_Meter b).2.1 := by decide +kernel
theorem tyo_Meter : ∀ k, k < 4 → parseFieldDescriptor (T_Meter k).2.2.1 = some (ty_Meter k) := by decide +kernel
theorem df_Meter : ∀ j, j < 4 → defaultValue (ty_Meter j) = vp_V [.int 0, .int 0, .int 0, .int 0] j := by decide +kernel
abbrev R_Terms : String := "FamilyKernel$Terms"
def T_Terms : u_T := fun k => match k with
  | 0 => ("FamilyKernel$Terms", "meter", "LFamilyKernel$Meter;", true)
  | 1 => ("FamilyKernel$Terms", "todo", "LFamilyKernel$Row;", true)
  | 2 => ("FamilyKernel$Terms", "offsets", "LFamilyKernel$Row;", true)
  | 3 => ("FamilyKernel$Terms", "built", "LFamilyKernel$Row;", true)
  | 4 => ("FamilyKernel$Terms", "infos", "[J", false)
  | 5 => ("FamilyKernel$Terms", "lefts", "[I", false)
  | 6 => ("FamilyKernel$Terms", "rights", "[I", false)
  | 7 => ("FamilyKernel$Terms", "links", "[I", false)
  | 8 => ("FamilyKernel$Terms", "heads", "[I", false)
  | _ => ("FamilyKernel$Terms", "length", "I", false)
def ty_Terms : Nat → FieldType := fun k => match k with
  | 0 => .object "FamilyKernel$Meter"
  | 1 => .object "FamilyKernel$Row"
  | 2 => .object "FamilyKernel$Row"
  | 3 => .object "FamilyKernel$Row"
  | 4 => .array .long
  | 5 => .array .int
  | 6 => .array .int
  | 7 => .array .int
  | 8 => .array .int
  | _ => .int
theorem nm_Terms : ∀ a, a < 10 → ∀ b, b < 10 → a ≠ b → (T_Terms a).2.1 ≠ (T_Terms b).2.1 := by decide +kernel
theorem tyo_Terms : ∀ k, k < 10 → parseFieldDescriptor (T_Terms k).2.2.1 = some (ty_Terms k) := by decide +kernel
theorem df_Terms : ∀ j, j < 10 → defaultValue (ty_Terms j) = vp_V [.null, .null, .null, .null, .null, .null, .null, .null, .null, .int 0] j := by decide +kernel
abbrev R_Env : String := "FamilyKernel$Environment"
def T_Env : u_T := fun k => match k with
  | 0 => ("FamilyKernel$Environment", "facts", "LFamilyKernel$Row;", true)
  | 1 => ("FamilyKernel$Environment", "names", "LFamilyKernel$Row;", true)
  | _ => ("FamilyKernel$Environment", "sizes", "I", false)
def ty_Env : Nat → FieldType := fun k => match k with
  | 0 => .object "FamilyKernel$Row"
  | 1 => .object "FamilyKernel$Row"
  | _ => .int
theorem nm_Env : ∀ a, a < 3 → ∀ b, b < 3 → a ≠ b → (T_Env a).2.1 ≠ (T_Env b).2.1 := by decide +kernel
theorem tyo_Env : ∀ k, k < 3 → parseFieldDescriptor (T_Env k).2.2.1 = some (ty_Env k) := by decide +kernel
theorem df_Env : ∀ j, j < 3 → defaultValue (ty_Env j) = vp_V [.null, .null, .int 0] j := by decide +kernel
abbrev R_Lex : String := "FamilyKernel$Lexer"
def T_Lex : u_T := fun k => match k with
  | 0 => ("FamilyKernel$Lexer", "text", "LFamilyKernel$Row;", true)
  | 1 => ("FamilyKernel$Lexer", "tokens", "LFamilyKernel$Row;", true)
  | 2 => ("FamilyKernel$Lexer", "place", "I", false)
  | 3 => ("FamilyKernel$Lexer", "at", "I", false)
  | 4 => ("FamilyKernel$Lexer", "kind", "I", false)
  | 5 => ("FamilyKernel$Lexer", "start", "I", false)
  | _ => ("FamilyKernel$Lexer", "length", "I", false)
def ty_Lex : Nat → FieldType := fun k => match k with
  | 0 => .object "FamilyKernel$Row"
  | 1 => .object "FamilyKernel$Row"
  | 2 => .int
  | 3 => .int
  | 4 => .int
  | 5 => .int
  | _ => .int
theorem nm_Lex : ∀ a, a < 7 → ∀ b, b < 7 → a ≠ b → (T_Lex a).2.1 ≠ (T_Lex b).2.1 := by decide +kernel
theorem tyo_Lex : ∀ k, k < 7 → parseFieldDescriptor (T_Lex k).2.2.1 = some (ty_Lex k) := by decide +kernel
theorem df_Lex : ∀ j, j < 7 → defaultValue (ty_Lex j) = vp_V [.null, .null, .int 0, .int 0, .int 0, .int 0, .int 0] j := by decide +kernel
abbrev R_Par : String := "FamilyKernel$Parser"
def T_Par : u_T := fun k => match k with
  | 0 => ("FamilyKernel$Parser", "text", "LFamilyKernel$Row;", true)
  | 1 => ("FamilyKernel$Parser", "lexer", "LFamilyKernel$Lexer;", true)
  | 2 => ("FamilyKernel$Parser", "meter", "LFamilyKernel$Meter;", true)
  | 3 => ("FamilyKernel$Parser", "terms", "LFamilyKernel$Terms;", true)
  | 4 => ("FamilyKernel$Parser", "environment", "LFamilyKernel$Environment;", true)
  | 5 => ("FamilyKernel$Parser", "open", "LFamilyKernel$Row;", true)
  | 6 => ("FamilyKernel$Parser", "scope", "LFamilyKernel$Row;", true)
  | 7 => ("FamilyKernel$Parser", "pending", "LFamilyKernel$Row;", true)
  | 8 => ("FamilyKernel$Parser", "binders", "LFamilyKernel$Row;", true)
  | 9 => ("FamilyKernel$Parser", "state", "I", false)
  | 10 => ("FamilyKernel$Parser", "nest", "I", false)
  | 11 => ("FamilyKernel$Parser", "current", "I", false)
  | 12 => ("FamilyKernel$Parser", "copies", "I", false)
  | 13 => ("FamilyKernel$Parser", "textSize", "I", false)
  | 14 => ("FamilyKernel$Parser", "known", "I", false)
  | 15 => ("FamilyKernel$Parser", "constant", "I", false)
  | 16 => ("FamilyKernel$Parser", "task", "I", false)
  | 17 => ("FamilyKernel$Parser", "type", "I", false)
  | 18 => ("FamilyKernel$Parser", "value", "I", false)
  | _ => ("FamilyKernel$Parser", "nodes", "I", false)
def ty_Par : Nat → FieldType := fun k => match k with
  | 0 => .object "FamilyKernel$Row"
  | 1 => .object "FamilyKernel$Lexer"
  | 2 => .object "FamilyKernel$Meter"
  | 3 => .object "FamilyKernel$Terms"
  | 4 => .object "FamilyKernel$Environment"
  | 5 => .object "FamilyKernel$Row"
  | 6 => .object "FamilyKernel$Row"
  | 7 => .object "FamilyKernel$Row"
  | 8 => .object "FamilyKernel$Row"
  | 9 => .int
  | 10 => .int
  | 11 => .int
  | 12 => .int
  | 13 => .int
  | 14 => .int
  | 15 => .int
  | 16 => .int
  | 17 => .int
  | 18 => .int
  | _ => .int
theorem nm_Par : ∀ a, a < 20 → ∀ b, b < 20 → a ≠ b → (T_Par a).2.1 ≠ (T_Par b).2.1 := by decide +kernel
theorem tyo_Par : ∀ k, k < 20 → parseFieldDescriptor (T_Par k).2.2.1 = some (ty_Par k) := by decide +kernel
theorem df_Par : ∀ j, j < 20 → defaultValue (ty_Par j) = vp_V [.null, .null, .null, .null, .null, .null, .null, .null, .null, .int 0, .int 0, .int 0, .int 0, .int 0, .int 0, .int 0, .int 0, .int 0, .int 0, .int 0] j := by decide +kernel
abbrev R_Fra : String := "FamilyKernel$Frames"
def T_Fra : u_T := fun k => match k with
  | 0 => ("FamilyKernel$Frames", "cells", "LFamilyKernel$Row;", true)
  | 1 => ("FamilyKernel$Frames", "types", "LFamilyKernel$Row;", true)
  | _ => ("FamilyKernel$Frames", "result", "I", false)
def ty_Fra : Nat → FieldType := fun k => match k with
  | 0 => .object "FamilyKernel$Row"
  | 1 => .object "FamilyKernel$Row"
  | _ => .int
theorem nm_Fra : ∀ a, a < 3 → ∀ b, b < 3 → a ≠ b → (T_Fra a).2.1 ≠ (T_Fra b).2.1 := by decide +kernel
theorem tyo_Fra : ∀ k, k < 3 → parseFieldDescriptor (T_Fra k).2.2.1 = some (ty_Fra k) := by decide +kernel
theorem df_Fra : ∀ j, j < 3 → defaultValue (ty_Fra j) = vp_V [.null, .null, .int 0] j := by decide +kernel
abbrev R_Red : String := "FamilyKernel$Reducer"
def T_Red : u_T := fun k => match k with
  | 0 => ("FamilyKernel$Reducer", "frames", "LFamilyKernel$Frames;", true)
  | 1 => ("FamilyKernel$Reducer", "meter", "LFamilyKernel$Meter;", true)
  | 2 => ("FamilyKernel$Reducer", "terms", "LFamilyKernel$Terms;", true)
  | 3 => ("FamilyKernel$Reducer", "environment", "LFamilyKernel$Environment;", true)
  | _ => ("FamilyKernel$Reducer", "given", "LFamilyKernel$Row;", true)
def ty_Red : Nat → FieldType := fun k => match k with
  | 0 => .object "FamilyKernel$Frames"
  | 1 => .object "FamilyKernel$Meter"
  | 2 => .object "FamilyKernel$Terms"
  | 3 => .object "FamilyKernel$Environment"
  | _ => .object "FamilyKernel$Row"
theorem nm_Red : ∀ a, a < 5 → ∀ b, b < 5 → a ≠ b → (T_Red a).2.1 ≠ (T_Red b).2.1 := by decide +kernel
theorem tyo_Red : ∀ k, k < 5 → parseFieldDescriptor (T_Red k).2.2.1 = some (ty_Red k) := by decide +kernel
theorem df_Red : ∀ j, j < 5 → defaultValue (ty_Red j) = vp_V [.null, .null, .null, .null, .null] j := by decide +kernel
abbrev R_Typ : String := "FamilyKernel$Typer"
def T_Typ : u_T := fun k => match k with
  | 0 => ("FamilyKernel$Typer", "frames", "LFamilyKernel$Frames;", true)
  | 1 => ("FamilyKernel$Typer", "meter", "LFamilyKernel$Meter;", true)
  | 2 => ("FamilyKernel$Typer", "terms", "LFamilyKernel$Terms;", true)
  | _ => ("FamilyKernel$Typer", "environment", "LFamilyKernel$Environment;", true)
def ty_Typ : Nat → FieldType := fun k => match k with
  | 0 => .object "FamilyKernel$Frames"
  | 1 => .object "FamilyKernel$Meter"
  | 2 => .object "FamilyKernel$Terms"
  | _ => .object "FamilyKernel$Environment"
theorem nm_Typ : ∀ a, a < 4 → ∀ b, b < 4 → a ≠ b → (T_Typ a).2.1 ≠ (T_Typ b).2.1 := by decide +kernel
theorem tyo_Typ : ∀ k, k < 4 → parseFieldDescriptor (T_Typ k).2.2.1 = some (ty_Typ k) := by decide +kernel
theorem df_Typ : ∀ j, j < 4 → defaultValue (ty_Typ j) = vp_V [.null, .null, .null, .null] j := by decide +kernel
abbrev R_Fam : String := "FamilyKernel$Families"
def T_Fam : u_T := fun k => match k with
  | 0 => ("FamilyKernel$Families", "frames", "LFamilyKernel$Frames;", true)
  | 1 => ("FamilyKernel$Families", "meter", "LFamilyKernel$Meter;", true)
  | 2 => ("FamilyKernel$Families", "terms", "LFamilyKernel$Terms;", true)
  | 3 => ("FamilyKernel$Families", "environment", "LFamilyKernel$Environment;", true)
  | 4 => ("FamilyKernel$Families", "parser", "LFamilyKernel$Parser;", true)
  | 5 => ("FamilyKernel$Families", "sorts", "LFamilyKernel$Row;", true)
  | 6 => ("FamilyKernel$Families", "domains", "LFamilyKernel$Row;", true)
  | 7 => ("FamilyKernel$Families", "hypotheses", "LFamilyKernel$Row;", true)
  | 8 => ("FamilyKernel$Families", "within", "LFamilyKernel$Row;", true)
  | 9 => ("FamilyKernel$Families", "minors", "LFamilyKernel$Row;", true)
  | 10 => ("FamilyKernel$Families", "family", "I", false)
  | 11 => ("FamilyKernel$Families", "parameters", "I", false)
  | 12 => ("FamilyKernel$Families", "indices", "I", false)
  | 13 => ("FamilyKernel$Families", "members", "I", false)
  | 14 => ("FamilyKernel$Families", "sort", "I", false)
  | 15 => ("FamilyKernel$Families", "motive", "I", false)
  | 16 => ("FamilyKernel$Families", "at", "I", false)
  | _ => ("FamilyKernel$Families", "rest", "I", false)
def ty_Fam : Nat → FieldType := fun k => match k with
  | 0 => .object "FamilyKernel$Frames"
  | 1 => .object "FamilyKernel$Meter"
  | 2 => .object "FamilyKernel$Terms"
  | 3 => .object "FamilyKernel$Environment"
  | 4 => .object "FamilyKernel$Parser"
  | 5 => .object "FamilyKernel$Row"
  | 6 => .object "FamilyKernel$Row"
  | 7 => .object "FamilyKernel$Row"
  | 8 => .object "FamilyKernel$Row"
  | 9 => .object "FamilyKernel$Row"
  | 10 => .int
  | 11 => .int
  | 12 => .int
  | 13 => .int
  | 14 => .int
  | 15 => .int
  | 16 => .int
  | _ => .int
theorem nm_Fam : ∀ a, a < 18 → ∀ b, b < 18 → a ≠ b → (T_Fam a).2.1 ≠ (T_Fam b).2.1 := by decide +kernel
theorem tyo_Fam : ∀ k, k < 18 → parseFieldDescriptor (T_Fam k).2.2.1 = some (ty_Fam k) := by decide +kernel
theorem df_Fam : ∀ j, j < 18 → defaultValue (ty_Fam j) = vp_V [.null, .null, .null, .null, .null, .null, .null, .null, .null, .null, .int 0, .int 0, .int 0, .int 0, .int 0, .int 0, .int 0, .int 0] j := by decide +kernel
abbrev R_Pri : String := "FamilyKernel$Printer"
def T_Pri : u_T := fun k => match k with
  | 0 => ("FamilyKernel$Printer", "shown", "LFamilyKernel$Row;", true)
  | 1 => ("FamilyKernel$Printer", "terms", "LFamilyKernel$Terms;", true)
  | 2 => ("FamilyKernel$Printer", "environment", "LFamilyKernel$Environment;", true)
  | _ => ("FamilyKernel$Printer", "todo", "LFamilyKernel$Row;", true)
def ty_Pri : Nat → FieldType := fun k => match k with
  | 0 => .object "FamilyKernel$Row"
  | 1 => .object "FamilyKernel$Terms"
  | 2 => .object "FamilyKernel$Environment"
  | _ => .object "FamilyKernel$Row"
theorem nm_Pri : ∀ a, a < 4 → ∀ b, b < 4 → a ≠ b → (T_Pri a).2.1 ≠ (T_Pri b).2.1 := by decide +kernel
theorem tyo_Pri : ∀ k, k < 4 → parseFieldDescriptor (T_Pri k).2.2.1 = some (ty_Pri k) := by decide +kernel
theorem df_Pri : ∀ j, j < 4 → defaultValue (ty_Pri j) = vp_V [.null, .null, .null, .null] j := by decide +kernel
abbrev R_Ker : String := "FamilyKernel"
def T_Ker : u_T := fun k => match k with
  | 0 => ("FamilyKernel", "tape", "LFamilyKernel$Row;", true)
  | 1 => ("FamilyKernel", "shown", "LFamilyKernel$Row;", true)
  | 2 => ("FamilyKernel", "meter", "LFamilyKernel$Meter;", true)
  | 3 => ("FamilyKernel", "terms", "LFamilyKernel$Terms;", true)
  | 4 => ("FamilyKernel", "environment", "LFamilyKernel$Environment;", true)
  | 5 => ("FamilyKernel", "lexer", "LFamilyKernel$Lexer;", true)
  | 6 => ("FamilyKernel", "parser", "LFamilyKernel$Parser;", true)
  | 7 => ("FamilyKernel", "frames", "LFamilyKernel$Frames;", true)
  | 8 => ("FamilyKernel", "reducer", "LFamilyKernel$Reducer;", true)
  | 9 => ("FamilyKernel", "typer", "LFamilyKernel$Typer;", true)
  | 10 => ("FamilyKernel", "families", "LFamilyKernel$Families;", true)
  | 11 => ("FamilyKernel", "printer", "LFamilyKernel$Printer;", true)
  | 12 => ("FamilyKernel", "declared", "I", false)
  | _ => ("FamilyKernel", "latestWork", "I", false)
def ty_Ker : Nat → FieldType := fun k => match k with
  | 0 => .object "FamilyKernel$Row"
  | 1 => .object "FamilyKernel$Row"
  | 2 => .object "FamilyKernel$Meter"
  | 3 => .object "FamilyKernel$Terms"
  | 4 => .object "FamilyKernel$Environment"
  | 5 => .object "FamilyKernel$Lexer"
  | 6 => .object "FamilyKernel$Parser"
  | 7 => .object "FamilyKernel$Frames"
  | 8 => .object "FamilyKernel$Reducer"
  | 9 => .object "FamilyKernel$Typer"
  | 10 => .object "FamilyKernel$Families"
  | 11 => .object "FamilyKernel$Printer"
  | 12 => .int
  | _ => .int
theorem nm_Ker : ∀ a, a < 14 → ∀ b, b < 14 → a ≠ b → (T_Ker a).2.1 ≠ (T_Ker b).2.1 := by decide +kernel
theorem tyo_Ker : ∀ k, k < 14 → parseFieldDescriptor (T_Ker k).2.2.1 = some (ty_Ker k) := by decide +kernel
theorem df_Ker : ∀ j, j < 14 → defaultValue (ty_Ker j) = vp_V [.null, .null, .null, .null, .null, .null, .null, .null, .null, .null, .null, .null, .int 0, .int 0] j := by decide +kernel
abbrev R_Mod : String := "FamilyKernelModel"
def T_Mod : u_T := fun k => match k with
  | 0 => ("FamilyKernelModel", "tape", "[B", true)
  | 1 => ("FamilyKernelModel", "out", "[B", true)
  | 2 => ("FamilyKernelModel", "size", "I", false)
  | 3 => ("FamilyKernelModel", "outSize", "I", false)
  | 4 => ("FamilyKernelModel", "thrown", "I", false)
  | 5 => ("FamilyKernelModel", "faultKind", "I", false)
  | 6 => ("FamilyKernelModel", "faultPlace", "I", false)
  | 7 => ("FamilyKernelModel", "pos", "I", false)
  | 8 => ("FamilyKernelModel", "token", "I", false)
  | 9 => ("FamilyKernelModel", "tokenAt", "I", false)
  | 10 => ("FamilyKernelModel", "tokenEnd", "I", false)
  | 11 => ("FamilyKernelModel", "seen", "Z", false)
  | 12 => ("FamilyKernelModel", "kind", "[B", true)
  | 13 => ("FamilyKernelModel", "one", "[I", true)
  | 14 => ("FamilyKernelModel", "two", "[I", true)
  | 15 => ("FamilyKernelModel", "three", "[I", true)
  | 16 => ("FamilyKernelModel", "big", "[I", true)
  | 17 => ("FamilyKernelModel", "deep", "[I", true)
  | 18 => ("FamilyKernelModel", "top", "I", false)
  | 19 => ("FamilyKernelModel", "spine", "[I", true)
  | 20 => ("FamilyKernelModel", "spineTop", "I", false)
  | 21 => ("FamilyKernelModel", "mapHow", "I", false)
  | 22 => ("FamilyKernelModel", "mapWhat", "I", false)
  | 23 => ("FamilyKernelModel", "mapTo", "I", false)
  | 24 => ("FamilyKernelModel", "words", "[B", true)
  | 25 => ("FamilyKernelModel", "wordAt", "[I", true)
  | 26 => ("FamilyKernelModel", "wordSize", "[I", true)
  | 27 => ("FamilyKernelModel", "wordsUsed", "I", false)
  | 28 => ("FamilyKernelModel", "constants", "I", false)
  | 29 => ("FamilyKernelModel", "sortOf", "[I", true)
  | 30 => ("FamilyKernelModel", "typeOf", "[I", true)
  | 31 => ("FamilyKernelModel", "valueOf", "[I", true)
  | 32 => ("FamilyKernelModel", "parameters", "[I", true)
  | 33 => ("FamilyKernelModel", "indices", "[I", true)
  | 34 => ("FamilyKernelModel", "constructors", "[I", true)
  | 35 => ("FamilyKernelModel", "arguments", "[I", true)
  | 36 => ("FamilyKernelModel", "recursive", "[I", true)
  | 37 => ("FamilyKernelModel", "level", "[I", true)
  | 38 => ("FamilyKernelModel", "recType", "[I", true)
  | 39 => ("FamilyKernelModel", "rule", "[I", true)
  | 40 => ("FamilyKernelModel", "family", "[I", true)
  | 41 => ("FamilyKernelModel", "large", "[Z", true)
  | 42 => ("FamilyKernelModel", "kept", "I", false)
  | 43 => ("FamilyKernelModel", "sizes", "I", false)
  | 44 => ("FamilyKernelModel", "scopeAt", "[I", true)
  | 45 => ("FamilyKernelModel", "scopeSize", "[I", true)
  | 46 => ("FamilyKernelModel", "scopes", "I", false)
  | 47 => ("FamilyKernelModel", "typeStack", "[I", true)
  | 48 => ("FamilyKernelModel", "pendingAt", "[I", true)
  | 49 => ("FamilyKernelModel", "pendingSize", "[I", true)
  | 50 => ("FamilyKernelModel", "heldAt", "[I", true)
  | 51 => ("FamilyKernelModel", "heldSize", "[I", true)
  | 52 => ("FamilyKernelModel", "pendingHeld", "I", false)
  | 53 => ("FamilyKernelModel", "copies", "I", false)
  | 54 => ("FamilyKernelModel", "work", "I", false)
  | 55 => ("FamilyKernelModel", "variables", "I", false)
  | 56 => ("FamilyKernelModel", "typeOfVariable", "[I", true)
  | 57 => ("FamilyKernelModel", "majors", "I", false)
  | 58 => ("FamilyKernelModel", "declarationAt", "I", false)
  | 59 => ("FamilyKernelModel", "accepted", "I", false)
  | 60 => ("FamilyKernelModel", "lastWork", "I", false)
  | 61 => ("FamilyKernelModel", "known", "I", false)
  | 62 => ("FamilyKernelModel", "are", "[I", true)
  | 63 => ("FamilyKernelModel", "texts", "[I", true)
  | 64 => ("FamilyKernelModel", "wholes", "[I", true)
  | 65 => ("FamilyKernelModel", "firstArgument", "[I", true)
  | 66 => ("FamilyKernelModel", "endAt", "[I", true)
  | 67 => ("FamilyKernelModel", "argument", "[I", true)
  | 68 => ("FamilyKernelModel", "isRecursive", "[Z", true)
  | 69 => ("FamilyKernelModel", "isProof", "[Z", true)
  | 70 => ("FamilyKernelModel", "argumentCount", "I", false)
  | 71 => ("FamilyKernelModel", "list", "[I", true)
  | 72 => ("FamilyKernelModel", "listed", "I", false)
  | 73 => ("FamilyKernelModel", "minors", "[I", true)
  | 74 => ("FamilyKernelModel", "openCost", "[I", true)
  | _ => ("FamilyKernelModel", "xs", "I", false)
def ty_Mod : Nat → FieldType := fun k => match k with
  | 0 => .array .byte
  | 1 => .array .byte
  | 2 => .int
  | 3 => .int
  | 4 => .int
  | 5 => .int
  | 6 => .int
  | 7 => .int
  | 8 => .int
  | 9 => .int
  | 10 => .int
  | 11 => .boolean
  | 12 => .array .byte
  | 13 => .array .int
  | 14 => .array .int
  | 15 => .array .int
  | 16 => .array .int
  | 17 => .array .int
  | 18 => .int
  | 19 => .array .int
  | 20 => .int
  | 21 => .int
  | 22 => .int
  | 23 => .int
  | 24 => .array .byte
  | 25 => .array .int
  | 26 => .array .int
  | 27 => .int
  | 28 => .int
  | 29 => .array .int
  | 30 => .array .int
  | 31 => .array .int
  | 32 => .array .int
  | 33 => .array .int
  | 34 => .array .int
  | 35 => .array .int
  | 36 => .array .int
  | 37 => .array .int
  | 38 => .array .int
  | 39 => .array .int
  | 40 => .array .int
  | 41 => .array .boolean
  | 42 => .int
  | 43 => .int
  | 44 => .array .int
  | 45 => .array .int
  | 46 => .int
  | 47 => .array .int
  | 48 => .array .int
  | 49 => .array .int
  | 50 => .array .int
  | 51 => .array .int
  | 52 => .int
  | 53 => .int
  | 54 => .int
  | 55 => .int
  | 56 => .array .int
  | 57 => .int
  | 58 => .int
  | 59 => .int
  | 60 => .int
  | 61 => .int
  | 62 => .array .int
  | 63 => .array .int
  | 64 => .array .int
  | 65 => .array .int
  | 66 => .array .int
  | 67 => .array .int
  | 68 => .array .boolean
  | 69 => .array .boolean
  | 70 => .int
  | 71 => .array .int
  | 72 => .int
  | 73 => .array .int
  | 74 => .array .int
  | _ => .int
theorem nm_Mod : ∀ a, a < 76 → ∀ b, b < 76 → a ≠ b → (T_Mod a).2.1 ≠ (T_Mod b).2.1 := by decide +kernel
theorem tyo_Mod : ∀ k, k < 76 → parseFieldDescriptor (T_Mod k).2.2.1 = some (ty_Mod k) := by decide +kernel
theorem df_Mod : ∀ j, j < 76 → defaultValue (ty_Mod j) = vp_V [.null, .null, .int 0, .int 0, .int 0, .int 0, .int 0, .int 0, .int 0, .int 0, .int 0, .int 0, .null, .null, .null, .null, .null, .null, .int 0, .null, .int 0, .int 0, .int 0, .int 0, .null, .null, .null, .int 0, .int 0, .null, .null, .null, .null, .null, .null, .null, .null, .null, .null, .null, .null, .null, .int 0, .int 0, .null, .null, .int 0, .null, .null, .null, .null, .null, .int 0, .int 0, .int 0, .int 0, .null, .int 0, .int 0, .int 0, .int 0, .int 0, .null, .null, .null, .null, .null, .null, .null, .null, .int 0, .null, .int 0, .null, .null, .int 0] j := by decide +kernel
abbrev R_Wro : String := "FamilyKernelModel$Wrong"
def T_Wro : u_T := fun k => match k with
  | 0 => ("java/lang/Throwable", "cause", "Ljava/lang/Throwable;", false)
  | 1 => ("java/lang/Throwable", "stackTrace", "[Ljava/lang/StackTraceElement;", false)
  | 2 => ("java/lang/Throwable", "suppressedExceptions", "Ljava/util/List;", false)
  | 3 => ("java/lang/Throwable", "detailMessage", "Ljava/lang/String;", false)
  | 4 => ("java/lang/Throwable", "backtrace", "Ljava/lang/Object;", false)
  | 5 => ("FamilyKernelModel$Wrong", "kind", "I", true)
  | 6 => ("FamilyKernelModel$Wrong", "place", "I", true)
  | _ => ("java/lang/Throwable", "depth", "I", false)
def ty_Wro : Nat → FieldType := fun k => match k with
  | 0 => .object "java/lang/Throwable"
  | 1 => .array (.object "java/lang/StackTraceElement")
  | 2 => .object "java/util/List"
  | 3 => .object "java/lang/String"
  | 4 => .object "java/lang/Object"
  | 5 => .int
  | 6 => .int
  | _ => .int
theorem nm_Wro : ∀ a, a < 8 → ∀ b, b < 8 → a ≠ b → (T_Wro a).2.1 ≠ (T_Wro b).2.1 := by decide +kernel
theorem tyo_Wro : ∀ k, k < 8 → parseFieldDescriptor (T_Wro k).2.2.1 = some (ty_Wro k) := by decide +kernel
theorem df_Wro : ∀ j, j < 8 → defaultValue (ty_Wro j) = vp_V [.null, .null, .null, .null, .null, .int 0, .int 0, .int 0] j := by decide +kernel
abbrev R_Law : String := "FamilyKernelLaw"
abbrev R_Arr : String := "java/util/Arrays"
abbrev R_Str : String := "java/lang/String"
abbrev R_Lat : String := "java/lang/StringLatin1"
abbrev R_Prc : String := "jdk/internal/util/Preconditions"
abbrev R_Mth : String := "java/lang/Math"
abbrev classes : List vw_C := [(R_Row, T_Row, 3), (R_Meter, T_Meter, 4), (R_Terms, T_Terms, 10), (R_Env, T_Env, 3), (R_Lex, T_Lex, 7), (R_Par, T_Par, 20), (R_Fra, T_Fra, 3), (R_Red, T_Red, 5), (R_Typ, T_Typ, 4), (R_Fam, T_Fam, 18), (R_Pri, T_Pri, 4), (R_Ker, T_Ker, 14), (R_Mod, T_Mod, 76), (R_Wro, T_Wro, 8)]
def vR_0 : List Cond := [.methodLink "FamilyKernel" 1 ⟨"java/lang/Object", "<init>", "()V"⟩,
  .instanceMethod ⟨"java/lang/Object", "<init>", "()V"⟩,
  .code ⟨"java/lang/Object", "<init>", "()V"⟩ object_method_1_code 1 none,
  .classLink "FamilyKernel" 7 "FamilyKernel$Row",
  .initialized "FamilyKernel$Row",
  .instantiable "FamilyKernel$Row" 3,
  .constant "FamilyKernel" 11 65536,
  .methodLink "FamilyKernel" 12 ⟨"FamilyKernel$Row", "<init>", "(II)V"⟩,
  .instanceMethod ⟨"FamilyKernel$Row", "<init>", "(II)V"⟩,
  .code ⟨"FamilyKernel$Row", "<init>", "(II)V"⟩ prog_10_method_1_code 3 none,
  .fieldLink "FamilyKernel" 15 "FamilyKernel" "tape" "LFamilyKernel$Row;",
  .fieldLink "FamilyKernel" 19 "FamilyKernel" "shown" "LFamilyKernel$Row;",
  .classLink "FamilyKernel" 22 "FamilyKernel$Meter",
  .initialized "FamilyKernel$Meter",
  .instantiable "FamilyKernel$Meter" 4,
  .instanceMethod ⟨"FamilyKernel$Meter", "<init>", "()V"⟩,
  .code ⟨"FamilyKernel$Meter", "<init>", "()V"⟩ prog_6_method_1_code 1 none,
  .fieldLink "FamilyKernel" 25 "FamilyKernel" "meter" "LFamilyKernel$Meter;",
  .classLink "FamilyKernel" 29 "FamilyKernel$Terms",
  .initialized "FamilyKernel$Terms",
  .instantiable "FamilyKernel$Terms" 10,
  .methodLink "FamilyKernel" 31 ⟨"FamilyKernel$Terms", "<init>", "(LFamilyKernel$Meter;)V"⟩,
  .instanceMethod ⟨"FamilyKernel$Terms", "<init>", "(LFamilyKernel$Meter;)V"⟩,
  .code ⟨"FamilyKernel$Terms", "<init>", "(LFamilyKernel$Meter;)V"⟩ prog_11_method_1_code 2 none,
  .fieldLink "FamilyKernel" 34 "FamilyKernel" "terms" "LFamilyKernel$Terms;",
  .classLink "FamilyKernel" 38 "FamilyKernel$Environment",
  .initialized "FamilyKernel$Environment",
  .instantiable "FamilyKernel$Environment" 3,
  .methodLink "FamilyKernel" 40 ⟨"FamilyKernel$Environment", "<init>", "()V"⟩,
  .instanceMethod ⟨"FamilyKernel$Environment", "<init>", "()V"⟩,
  .code ⟨"FamilyKernel$Environment", "<init>", "()V"⟩ prog_2_method_1_code 1 none,
  .fieldLink "FamilyKernel" 41 "FamilyKernel" "environment" "LFamilyKernel$Environment;",
  .classLink "FamilyKernel" 45 "FamilyKernel$Lexer",
  .initialized "FamilyKernel$Lexer",
  .instantiable "FamilyKernel$Lexer" 7,
  .methodLink "FamilyKernel" 47 ⟨"FamilyKernel$Lexer", "<init>", "(LFamilyKernel$Row;)V"⟩,
  .instanceMethod ⟨"FamilyKernel$Lexer", "<init>", "(LFamilyKernel$Row;)V"⟩,
  .code ⟨"FamilyKernel$Lexer", "<init>", "(LFamilyKernel$Row;)V"⟩ prog_5_method_1_code 2 none,
  .fieldLink "FamilyKernel" 50 "FamilyKernel" "lexer" "LFamilyKernel$Lexer;",
  .classLink "FamilyKernel" 54 "FamilyKernel$Parser"]
def vR_1 : List Cond := [.initialized "FamilyKernel$Parser",
  .instantiable "FamilyKernel$Parser" 20,
  .methodLink "FamilyKernel" 56 ⟨"FamilyKernel$Parser", "<init>", "(LFamilyKernel$Row;LFamilyKernel$Lexer;LFamilyKernel$Meter;LFamilyKernel$Terms;LFamilyKernel$Environment;)V"⟩,
  .instanceMethod ⟨"FamilyKernel$Parser", "<init>", "(LFamilyKernel$Row;LFamilyKernel$Lexer;LFamilyKernel$Meter;LFamilyKernel$Terms;LFamilyKernel$Environment;)V"⟩,
  .code ⟨"FamilyKernel$Parser", "<init>", "(LFamilyKernel$Row;LFamilyKernel$Lexer;LFamilyKernel$Meter;LFamilyKernel$Terms;LFamilyKernel$Environment;)V"⟩ prog_7_method_1_code 6 none,
  .fieldLink "FamilyKernel" 59 "FamilyKernel" "parser" "LFamilyKernel$Parser;",
  .classLink "FamilyKernel" 63 "FamilyKernel$Frames",
  .initialized "FamilyKernel$Frames",
  .instantiable "FamilyKernel$Frames" 3,
  .methodLink "FamilyKernel" 65 ⟨"FamilyKernel$Frames", "<init>", "()V"⟩,
  .instanceMethod ⟨"FamilyKernel$Frames", "<init>", "()V"⟩,
  .code ⟨"FamilyKernel$Frames", "<init>", "()V"⟩ prog_4_method_1_code 1 none,
  .fieldLink "FamilyKernel" 66 "FamilyKernel" "frames" "LFamilyKernel$Frames;",
  .classLink "FamilyKernel" 70 "FamilyKernel$Reducer",
  .initialized "FamilyKernel$Reducer",
  .instantiable "FamilyKernel$Reducer" 5,
  .methodLink "FamilyKernel" 72 ⟨"FamilyKernel$Reducer", "<init>", "(LFamilyKernel$Frames;LFamilyKernel$Meter;LFamilyKernel$Terms;LFamilyKernel$Environment;)V"⟩,
  .instanceMethod ⟨"FamilyKernel$Reducer", "<init>", "(LFamilyKernel$Frames;LFamilyKernel$Meter;LFamilyKernel$Terms;LFamilyKernel$Environment;)V"⟩,
  .code ⟨"FamilyKernel$Reducer", "<init>", "(LFamilyKernel$Frames;LFamilyKernel$Meter;LFamilyKernel$Terms;LFamilyKernel$Environment;)V"⟩ prog_9_method_1_code 5 none,
  .fieldLink "FamilyKernel" 75 "FamilyKernel" "reducer" "LFamilyKernel$Reducer;",
  .classLink "FamilyKernel" 79 "FamilyKernel$Typer",
  .initialized "FamilyKernel$Typer",
  .instantiable "FamilyKernel$Typer" 4,
  .methodLink "FamilyKernel" 81 ⟨"FamilyKernel$Typer", "<init>", "(LFamilyKernel$Frames;LFamilyKernel$Meter;LFamilyKernel$Terms;LFamilyKernel$Environment;)V"⟩,
  .instanceMethod ⟨"FamilyKernel$Typer", "<init>", "(LFamilyKernel$Frames;LFamilyKernel$Meter;LFamilyKernel$Terms;LFamilyKernel$Environment;)V"⟩,
  .code ⟨"FamilyKernel$Typer", "<init>", "(LFamilyKernel$Frames;LFamilyKernel$Meter;LFamilyKernel$Terms;LFamilyKernel$Environment;)V"⟩ prog_12_method_1_code 5 none,
  .fieldLink "FamilyKernel" 82 "FamilyKernel" "typer" "LFamilyKernel$Typer;",
  .classLink "FamilyKernel" 86 "FamilyKernel$Families",
  .initialized "FamilyKernel$Families",
  .instantiable "FamilyKernel$Families" 18,
  .methodLink "FamilyKernel" 88 ⟨"FamilyKernel$Families", "<init>", "(LFamilyKernel$Frames;LFamilyKernel$Meter;LFamilyKernel$Terms;LFamilyKernel$Environment;LFamilyKernel$Parser;)V"⟩,
  .instanceMethod ⟨"FamilyKernel$Families", "<init>", "(LFamilyKernel$Frames;LFamilyKernel$Meter;LFamilyKernel$Terms;LFamilyKernel$Environment;LFamilyKernel$Parser;)V"⟩,
  .code ⟨"FamilyKernel$Families", "<init>", "(LFamilyKernel$Frames;LFamilyKernel$Meter;LFamilyKernel$Terms;LFamilyKernel$Environment;LFamilyKernel$Parser;)V"⟩ prog_3_method_1_code 6 none,
  .fieldLink "FamilyKernel" 91 "FamilyKernel" "families" "LFamilyKernel$Families;",
  .classLink "FamilyKernel" 95 "FamilyKernel$Printer",
  .initialized "FamilyKernel$Printer",
  .instantiable "FamilyKernel$Printer" 4,
  .methodLink "FamilyKernel" 97 ⟨"FamilyKernel$Printer", "<init>", "(LFamilyKernel$Row;LFamilyKernel$Terms;LFamilyKernel$Environment;)V"⟩,
  .instanceMethod ⟨"FamilyKernel$Printer", "<init>", "(LFamilyKernel$Row;LFamilyKernel$Terms;LFamilyKernel$Environment;)V"⟩,
  .code ⟨"FamilyKernel$Printer", "<init>", "(LFamilyKernel$Row;LFamilyKernel$Terms;LFamilyKernel$Environment;)V"⟩ prog_8_method_1_code 4 none]
def vR_2 : List Cond := [.fieldLink "FamilyKernel" 100 "FamilyKernel" "printer" "LFamilyKernel$Printer;",
  .code ⟨"FamilyKernel", "<init>", "()V"⟩ prog_1_method_1_code 1 none,
  .methodLink "FamilyKernel$Row" 1 ⟨"java/lang/Object", "<init>", "()V"⟩,
  .arrayClass .int,
  .fieldLink "FamilyKernel$Row" 7 "FamilyKernel$Row" "cells" "[I",
  .fieldLink "FamilyKernel$Row" 13 "FamilyKernel$Row" "most" "I",
  .methodLink "FamilyKernel$Meter" 3 ⟨"java/lang/Object", "<init>", "()V"⟩,
  .methodLink "FamilyKernel$Terms" 3 ⟨"java/lang/Object", "<init>", "()V"⟩,
  .fieldLink "FamilyKernel$Terms" 9 "FamilyKernel$Terms" "meter" "LFamilyKernel$Meter;",
  .classLink "FamilyKernel$Terms" 15 "FamilyKernel$Row",
  .constant "FamilyKernel$Terms" 17 16777216,
  .methodLink "FamilyKernel$Terms" 18 ⟨"FamilyKernel$Row", "<init>", "(II)V"⟩,
  .fieldLink "FamilyKernel$Terms" 21 "FamilyKernel$Terms" "todo" "LFamilyKernel$Row;",
  .fieldLink "FamilyKernel$Terms" 25 "FamilyKernel$Terms" "offsets" "LFamilyKernel$Row;",
  .fieldLink "FamilyKernel$Terms" 28 "FamilyKernel$Terms" "built" "LFamilyKernel$Row;",
  .arrayClass .long,
  .fieldLink "FamilyKernel$Terms" 31 "FamilyKernel$Terms" "infos" "[J",
  .fieldLink "FamilyKernel$Terms" 35 "FamilyKernel$Terms" "lefts" "[I",
  .fieldLink "FamilyKernel$Terms" 39 "FamilyKernel$Terms" "rights" "[I",
  .fieldLink "FamilyKernel$Terms" 42 "FamilyKernel$Terms" "links" "[I",
  .fieldLink "FamilyKernel$Terms" 45 "FamilyKernel$Terms" "heads" "[I",
  .methodLink "FamilyKernel$Environment" 3 ⟨"java/lang/Object", "<init>", "()V"⟩,
  .classLink "FamilyKernel$Environment" 9 "FamilyKernel$Row",
  .constant "FamilyKernel$Environment" 11 16777216,
  .methodLink "FamilyKernel$Environment" 12 ⟨"FamilyKernel$Row", "<init>", "(II)V"⟩,
  .fieldLink "FamilyKernel$Environment" 15 "FamilyKernel$Environment" "facts" "LFamilyKernel$Row;",
  .fieldLink "FamilyKernel$Environment" 21 "FamilyKernel$Environment" "names" "LFamilyKernel$Row;",
  .methodLink "FamilyKernel$Lexer" 3 ⟨"java/lang/Object", "<init>", "()V"⟩,
  .fieldLink "FamilyKernel$Lexer" 9 "FamilyKernel$Lexer" "text" "LFamilyKernel$Row;",
  .classLink "FamilyKernel$Lexer" 15 "FamilyKernel$Row",
  .constant "FamilyKernel$Lexer" 17 16777216,
  .methodLink "FamilyKernel$Lexer" 18 ⟨"FamilyKernel$Row", "<init>", "(II)V"⟩,
  .fieldLink "FamilyKernel$Lexer" 21 "FamilyKernel$Lexer" "tokens" "LFamilyKernel$Row;",
  .methodLink "FamilyKernel$Parser" 3 ⟨"java/lang/Object", "<init>", "()V"⟩,
  .fieldLink "FamilyKernel$Parser" 9 "FamilyKernel$Parser" "text" "LFamilyKernel$Row;",
  .fieldLink "FamilyKernel$Parser" 15 "FamilyKernel$Parser" "lexer" "LFamilyKernel$Lexer;",
  .fieldLink "FamilyKernel$Parser" 19 "FamilyKernel$Parser" "meter" "LFamilyKernel$Meter;",
  .fieldLink "FamilyKernel$Parser" 23 "FamilyKernel$Parser" "terms" "LFamilyKernel$Terms;",
  .fieldLink "FamilyKernel$Parser" 27 "FamilyKernel$Parser" "environment" "LFamilyKernel$Environment;",
  .classLink "FamilyKernel$Parser" 31 "FamilyKernel$Row"]
def vR_3 : List Cond := [.constant "FamilyKernel$Parser" 33 16777216,
  .methodLink "FamilyKernel$Parser" 34 ⟨"FamilyKernel$Row", "<init>", "(II)V"⟩,
  .fieldLink "FamilyKernel$Parser" 37 "FamilyKernel$Parser" "open" "LFamilyKernel$Row;",
  .fieldLink "FamilyKernel$Parser" 40 "FamilyKernel$Parser" "scope" "LFamilyKernel$Row;",
  .fieldLink "FamilyKernel$Parser" 43 "FamilyKernel$Parser" "pending" "LFamilyKernel$Row;",
  .fieldLink "FamilyKernel$Parser" 46 "FamilyKernel$Parser" "binders" "LFamilyKernel$Row;",
  .methodLink "FamilyKernel$Frames" 3 ⟨"java/lang/Object", "<init>", "()V"⟩,
  .classLink "FamilyKernel$Frames" 9 "FamilyKernel$Row",
  .constant "FamilyKernel$Frames" 13 16777216,
  .methodLink "FamilyKernel$Frames" 14 ⟨"FamilyKernel$Row", "<init>", "(II)V"⟩,
  .fieldLink "FamilyKernel$Frames" 17 "FamilyKernel$Frames" "cells" "LFamilyKernel$Row;",
  .fieldLink "FamilyKernel$Frames" 21 "FamilyKernel$Frames" "types" "LFamilyKernel$Row;",
  .methodLink "FamilyKernel$Reducer" 3 ⟨"java/lang/Object", "<init>", "()V"⟩,
  .fieldLink "FamilyKernel$Reducer" 9 "FamilyKernel$Reducer" "frames" "LFamilyKernel$Frames;",
  .fieldLink "FamilyKernel$Reducer" 15 "FamilyKernel$Reducer" "meter" "LFamilyKernel$Meter;",
  .fieldLink "FamilyKernel$Reducer" 19 "FamilyKernel$Reducer" "terms" "LFamilyKernel$Terms;",
  .fieldLink "FamilyKernel$Reducer" 23 "FamilyKernel$Reducer" "environment" "LFamilyKernel$Environment;",
  .classLink "FamilyKernel$Reducer" 27 "FamilyKernel$Row",
  .constant "FamilyKernel$Reducer" 29 16777216,
  .methodLink "FamilyKernel$Reducer" 30 ⟨"FamilyKernel$Row", "<init>", "(II)V"⟩,
  .fieldLink "FamilyKernel$Reducer" 33 "FamilyKernel$Reducer" "given" "LFamilyKernel$Row;",
  .methodLink "FamilyKernel$Typer" 3 ⟨"java/lang/Object", "<init>", "()V"⟩,
  .fieldLink "FamilyKernel$Typer" 9 "FamilyKernel$Typer" "frames" "LFamilyKernel$Frames;",
  .fieldLink "FamilyKernel$Typer" 15 "FamilyKernel$Typer" "meter" "LFamilyKernel$Meter;",
  .fieldLink "FamilyKernel$Typer" 19 "FamilyKernel$Typer" "terms" "LFamilyKernel$Terms;",
  .fieldLink "FamilyKernel$Typer" 23 "FamilyKernel$Typer" "environment" "LFamilyKernel$Environment;",
  .methodLink "FamilyKernel$Families" 3 ⟨"java/lang/Object", "<init>", "()V"⟩,
  .fieldLink "FamilyKernel$Families" 9 "FamilyKernel$Families" "frames" "LFamilyKernel$Frames;",
  .fieldLink "FamilyKernel$Families" 15 "FamilyKernel$Families" "meter" "LFamilyKernel$Meter;",
  .fieldLink "FamilyKernel$Families" 19 "FamilyKernel$Families" "terms" "LFamilyKernel$Terms;",
  .fieldLink "FamilyKernel$Families" 23 "FamilyKernel$Families" "environment" "LFamilyKernel$Environment;",
  .fieldLink "FamilyKernel$Families" 27 "FamilyKernel$Families" "parser" "LFamilyKernel$Parser;",
  .classLink "FamilyKernel$Families" 31 "FamilyKernel$Row",
  .constant "FamilyKernel$Families" 33 16777216,
  .methodLink "FamilyKernel$Families" 34 ⟨"FamilyKernel$Row", "<init>", "(II)V"⟩,
  .fieldLink "FamilyKernel$Families" 37 "FamilyKernel$Families" "sorts" "LFamilyKernel$Row;",
  .fieldLink "FamilyKernel$Families" 41 "FamilyKernel$Families" "domains" "LFamilyKernel$Row;",
  .fieldLink "FamilyKernel$Families" 44 "FamilyKernel$Families" "hypotheses" "LFamilyKernel$Row;",
  .fieldLink "FamilyKernel$Families" 47 "FamilyKernel$Families" "within" "LFamilyKernel$Row;",
  .fieldLink "FamilyKernel$Families" 50 "FamilyKernel$Families" "minors" "LFamilyKernel$Row;"]
def vR_4 : List Cond := [.methodLink "FamilyKernel$Printer" 3 ⟨"java/lang/Object", "<init>", "()V"⟩,
  .fieldLink "FamilyKernel$Printer" 9 "FamilyKernel$Printer" "shown" "LFamilyKernel$Row;",
  .fieldLink "FamilyKernel$Printer" 15 "FamilyKernel$Printer" "terms" "LFamilyKernel$Terms;",
  .fieldLink "FamilyKernel$Printer" 19 "FamilyKernel$Printer" "environment" "LFamilyKernel$Environment;",
  .classLink "FamilyKernel$Printer" 23 "FamilyKernel$Row",
  .constant "FamilyKernel$Printer" 25 16777216,
  .methodLink "FamilyKernel$Printer" 26 ⟨"FamilyKernel$Row", "<init>", "(II)V"⟩,
  .fieldLink "FamilyKernel$Printer" 29 "FamilyKernel$Printer" "todo" "LFamilyKernel$Row;",
  .methodLink "FamilyKernel" 124 ⟨"FamilyKernel$Meter", "forget", "()V"⟩,
  .instanceMethod ⟨"FamilyKernel$Meter", "forget", "()V"⟩,
  .selects "FamilyKernel$Meter" ⟨"FamilyKernel$Meter", "forget", "()V"⟩ ⟨"FamilyKernel$Meter", "forget", "()V"⟩,
  .code ⟨"FamilyKernel$Meter", "forget", "()V"⟩ prog_6_method_2_code 1 none,
  .methodLink "FamilyKernel" 127 ⟨"FamilyKernel$Lexer", "begin", "()V"⟩,
  .instanceMethod ⟨"FamilyKernel$Lexer", "begin", "()V"⟩,
  .selects "FamilyKernel$Lexer" ⟨"FamilyKernel$Lexer", "begin", "()V"⟩ ⟨"FamilyKernel$Lexer", "begin", "()V"⟩,
  .code ⟨"FamilyKernel$Lexer", "begin", "()V"⟩ prog_5_method_2_code 2 none,
  .methodLink "FamilyKernel" 130 ⟨"FamilyKernel$Lexer", "kind", "()I"⟩,
  .instanceMethod ⟨"FamilyKernel$Lexer", "kind", "()I"⟩,
  .selects "FamilyKernel$Lexer" ⟨"FamilyKernel$Lexer", "kind", "()I"⟩ ⟨"FamilyKernel$Lexer", "kind", "()I"⟩,
  .code ⟨"FamilyKernel$Lexer", "kind", "()I"⟩ prog_5_method_4_code 1 (some .int),
  .methodLink "FamilyKernel" 133 ⟨"FamilyKernel$Environment", "length", "()I"⟩,
  .instanceMethod ⟨"FamilyKernel$Environment", "length", "()I"⟩,
  .selects "FamilyKernel$Environment" ⟨"FamilyKernel$Environment", "length", "()I"⟩ ⟨"FamilyKernel$Environment", "length", "()I"⟩,
  .code ⟨"FamilyKernel$Environment", "length", "()I"⟩ prog_2_method_2_code 1 (some .int),
  .methodLink "FamilyKernel" 136 ⟨"FamilyKernel$Terms", "length", "()I"⟩,
  .instanceMethod ⟨"FamilyKernel$Terms", "length", "()I"⟩,
  .selects "FamilyKernel$Terms" ⟨"FamilyKernel$Terms", "length", "()I"⟩ ⟨"FamilyKernel$Terms", "length", "()I"⟩,
  .code ⟨"FamilyKernel$Terms", "length", "()I"⟩ prog_11_method_2_code 1 (some .int),
  .methodLink "FamilyKernel" 137 ⟨"FamilyKernel$Lexer", "start", "()I"⟩,
  .instanceMethod ⟨"FamilyKernel$Lexer", "start", "()I"⟩,
  .selects "FamilyKernel$Lexer" ⟨"FamilyKernel$Lexer", "start", "()I"⟩ ⟨"FamilyKernel$Lexer", "start", "()I"⟩,
  .code ⟨"FamilyKernel$Lexer", "start", "()I"⟩ prog_5_method_5_code 1 (some .int),
  .methodLink "FamilyKernel" 140 ⟨"FamilyKernel$Meter", "begin", "(I)V"⟩,
  .instanceMethod ⟨"FamilyKernel$Meter", "begin", "(I)V"⟩,
  .selects "FamilyKernel$Meter" ⟨"FamilyKernel$Meter", "begin", "(I)V"⟩ ⟨"FamilyKernel$Meter", "begin", "(I)V"⟩,
  .code ⟨"FamilyKernel$Meter", "begin", "(I)V"⟩ prog_6_method_3_code 2 none,
  .methodLink "FamilyKernel" 142 ⟨"FamilyKernel$Parser", "declaration", "()V"⟩,
  .instanceMethod ⟨"FamilyKernel$Parser", "declaration", "()V"⟩,
  .selects "FamilyKernel$Parser" ⟨"FamilyKernel$Parser", "declaration", "()V"⟩ ⟨"FamilyKernel$Parser", "declaration", "()V"⟩,
  .code ⟨"FamilyKernel$Parser", "declaration", "()V"⟩ prog_7_method_10_code 2 none]
def vR_5 : List Cond := [.methodLink "FamilyKernel" 145 ⟨"FamilyKernel", "work", "()V"⟩,
  .initialized "FamilyKernel",
  .instanceMethod ⟨"FamilyKernel", "work", "()V"⟩,
  .selects "FamilyKernel" ⟨"FamilyKernel", "work", "()V"⟩ ⟨"FamilyKernel", "work", "()V"⟩,
  .code ⟨"FamilyKernel", "work", "()V"⟩ prog_1_method_6_code 2 none,
  .methodLink "FamilyKernel" 148 ⟨"FamilyKernel$Parser", "task", "()I"⟩,
  .instanceMethod ⟨"FamilyKernel$Parser", "task", "()I"⟩,
  .selects "FamilyKernel$Parser" ⟨"FamilyKernel$Parser", "task", "()I"⟩ ⟨"FamilyKernel$Parser", "task", "()I"⟩,
  .code ⟨"FamilyKernel$Parser", "task", "()I"⟩ prog_7_method_2_code 1 (some .int),
  .methodLink "FamilyKernel" 151 ⟨"FamilyKernel$Families", "build", "()V"⟩,
  .instanceMethod ⟨"FamilyKernel$Families", "build", "()V"⟩,
  .selects "FamilyKernel$Families" ⟨"FamilyKernel$Families", "build", "()V"⟩ ⟨"FamilyKernel$Families", "build", "()V"⟩,
  .code ⟨"FamilyKernel$Families", "build", "()V"⟩ prog_3_method_14_code 6 none,
  .methodLink "FamilyKernel" 154 ⟨"FamilyKernel", "keep", "(I)V"⟩,
  .instanceMethod ⟨"FamilyKernel", "keep", "(I)V"⟩,
  .selects "FamilyKernel" ⟨"FamilyKernel", "keep", "(I)V"⟩ ⟨"FamilyKernel", "keep", "(I)V"⟩,
  .code ⟨"FamilyKernel", "keep", "(I)V"⟩ prog_1_method_7_code 2 none,
  .methodLink "FamilyKernel" 157 ⟨"FamilyKernel$Environment", "cut", "(I)V"⟩,
  .instanceMethod ⟨"FamilyKernel$Environment", "cut", "(I)V"⟩,
  .selects "FamilyKernel$Environment" ⟨"FamilyKernel$Environment", "cut", "(I)V"⟩ ⟨"FamilyKernel$Environment", "cut", "(I)V"⟩,
  .code ⟨"FamilyKernel$Environment", "cut", "(I)V"⟩ prog_2_method_9_code 2 none,
  .methodLink "FamilyKernel" 158 ⟨"FamilyKernel$Terms", "release", "(I)V"⟩,
  .instanceMethod ⟨"FamilyKernel$Terms", "release", "(I)V"⟩,
  .selects "FamilyKernel$Terms" ⟨"FamilyKernel$Terms", "release", "(I)V"⟩ ⟨"FamilyKernel$Terms", "release", "(I)V"⟩,
  .code ⟨"FamilyKernel$Terms", "release", "(I)V"⟩ prog_11_method_17_code 3 none,
  .fieldLink "FamilyKernel" 161 "FamilyKernel" "declared" "I",
  .methodLink "FamilyKernel" 165 ⟨"FamilyKernel$Meter", "work", "()I"⟩,
  .instanceMethod ⟨"FamilyKernel$Meter", "work", "()I"⟩,
  .selects "FamilyKernel$Meter" ⟨"FamilyKernel$Meter", "work", "()I"⟩ ⟨"FamilyKernel$Meter", "work", "()I"⟩,
  .code ⟨"FamilyKernel$Meter", "work", "()I"⟩ prog_6_method_4_code 1 (some .int),
  .fieldLink "FamilyKernel" 167 "FamilyKernel" "latestWork" "I",
  .methodLink "FamilyKernel" 121 ⟨"FamilyKernel$Row", "cut", "(I)V"⟩,
  .instanceMethod ⟨"FamilyKernel$Row", "cut", "(I)V"⟩,
  .selects "FamilyKernel$Row" ⟨"FamilyKernel$Row", "cut", "(I)V"⟩ ⟨"FamilyKernel$Row", "cut", "(I)V"⟩,
  .code ⟨"FamilyKernel$Row", "cut", "(I)V"⟩ prog_10_method_7_code 2 none,
  .codeWith ⟨"FamilyKernel", "read", "()I"⟩ prog_1_method_5_code 6 (some .int) [(65, 104, 107, 108)],
  .fieldLink "FamilyKernel$Meter" 9 "FamilyKernel$Meter" "code" "I",
  .fieldLink "FamilyKernel$Meter" 15 "FamilyKernel$Meter" "place" "I",
  .methodLink "FamilyKernel$Lexer" 24 ⟨"FamilyKernel$Row", "cut", "(I)V"⟩,
  .fieldLink "FamilyKernel$Lexer" 28 "FamilyKernel$Lexer" "place" "I"]
def vR_6 : List Cond := [.fieldLink "FamilyKernel$Lexer" 32 "FamilyKernel$Lexer" "kind" "I",
  .constant "FamilyKernel$Lexer" 35 65536,
  .methodLink "FamilyKernel$Lexer" 36 ⟨"FamilyKernel$Lexer", "scan", "()V"⟩,
  .instanceMethod ⟨"FamilyKernel$Lexer", "scan", "()V"⟩,
  .selects "FamilyKernel$Lexer" ⟨"FamilyKernel$Lexer", "scan", "()V"⟩ ⟨"FamilyKernel$Lexer", "scan", "()V"⟩,
  .code ⟨"FamilyKernel$Lexer", "scan", "()V"⟩ prog_5_method_14_code 2 none,
  .fieldLink "FamilyKernel$Lexer" 39 "FamilyKernel$Lexer" "start" "I",
  .fieldLink "FamilyKernel$Lexer" 42 "FamilyKernel$Lexer" "length" "I",
  .methodLink "FamilyKernel$Lexer" 45 ⟨"FamilyKernel$Lexer", "named", "(II)I"⟩,
  .static ⟨"FamilyKernel$Lexer", "named", "(II)I"⟩,
  .code ⟨"FamilyKernel$Lexer", "named", "(II)I"⟩ prog_5_method_7_code 2 (some .int),
  .methodLink "FamilyKernel$Lexer" 49 ⟨"FamilyKernel$Row", "push", "(I)V"⟩,
  .instanceMethod ⟨"FamilyKernel$Row", "push", "(I)V"⟩,
  .selects "FamilyKernel$Row" ⟨"FamilyKernel$Row", "push", "(I)V"⟩ ⟨"FamilyKernel$Row", "push", "(I)V"⟩,
  .code ⟨"FamilyKernel$Row", "push", "(I)V"⟩ prog_10_method_5_code 2 none,
  .fieldLink "FamilyKernel$Lexer" 52 "FamilyKernel$Lexer" "at" "I",
  .methodLink "FamilyKernel$Lexer" 55 ⟨"FamilyKernel$Lexer", "advance", "()V"⟩,
  .instanceMethod ⟨"FamilyKernel$Lexer", "advance", "()V"⟩,
  .selects "FamilyKernel$Lexer" ⟨"FamilyKernel$Lexer", "advance", "()V"⟩ ⟨"FamilyKernel$Lexer", "advance", "()V"⟩,
  .code ⟨"FamilyKernel$Lexer", "advance", "()V"⟩ prog_5_method_3_code 2 none,
  .fieldLink "FamilyKernel$Row" 17 "FamilyKernel$Row" "length" "I",
  .methodLink "FamilyKernel$Lexer" 70 ⟨"FamilyKernel$Lexer", "skip", "()V"⟩,
  .instanceMethod ⟨"FamilyKernel$Lexer", "skip", "()V"⟩,
  .selects "FamilyKernel$Lexer" ⟨"FamilyKernel$Lexer", "skip", "()V"⟩ ⟨"FamilyKernel$Lexer", "skip", "()V"⟩,
  .code ⟨"FamilyKernel$Lexer", "skip", "()V"⟩ prog_5_method_15_code 3 none,
  .methodLink "FamilyKernel$Lexer" 58 ⟨"FamilyKernel$Row", "at", "(I)I"⟩,
  .instanceMethod ⟨"FamilyKernel$Row", "at", "(I)I"⟩,
  .selects "FamilyKernel$Row" ⟨"FamilyKernel$Row", "at", "(I)I"⟩ ⟨"FamilyKernel$Row", "at", "(I)I"⟩,
  .code ⟨"FamilyKernel$Row", "at", "(I)I"⟩ prog_10_method_3_code 2 (some .int),
  .methodLink "FamilyKernel$Lexer" 73 ⟨"FamilyKernel$Row", "size", "()I"⟩,
  .instanceMethod ⟨"FamilyKernel$Row", "size", "()I"⟩,
  .selects "FamilyKernel$Row" ⟨"FamilyKernel$Row", "size", "()I"⟩ ⟨"FamilyKernel$Row", "size", "()I"⟩,
  .code ⟨"FamilyKernel$Row", "size", "()I"⟩ prog_10_method_2_code 1 (some .int),
  .methodLink "FamilyKernel$Lexer" 77 ⟨"FamilyKernel$Lexer", "isLetter", "(I)Z"⟩,
  .static ⟨"FamilyKernel$Lexer", "isLetter", "(I)Z"⟩,
  .code ⟨"FamilyKernel$Lexer", "isLetter", "(I)Z"⟩ prog_5_method_16_code 1 (some .boolean),
  .methodLink "FamilyKernel$Lexer" 81 ⟨"FamilyKernel$Lexer", "scanWord", "()V"⟩,
  .instanceMethod ⟨"FamilyKernel$Lexer", "scanWord", "()V"⟩,
  .selects "FamilyKernel$Lexer" ⟨"FamilyKernel$Lexer", "scanWord", "()V"⟩ ⟨"FamilyKernel$Lexer", "scanWord", "()V"⟩,
  .code ⟨"FamilyKernel$Lexer", "scanWord", "()V"⟩ prog_5_method_19_code 2 none]
def vR_7 : List Cond := [.methodLink "FamilyKernel$Lexer" 84 ⟨"FamilyKernel$Lexer", "isDigit", "(I)Z"⟩,
  .static ⟨"FamilyKernel$Lexer", "isDigit", "(I)Z"⟩,
  .code ⟨"FamilyKernel$Lexer", "isDigit", "(I)Z"⟩ prog_5_method_17_code 1 (some .boolean),
  .methodLink "FamilyKernel$Lexer" 87 ⟨"FamilyKernel$Lexer", "scanNumber", "()V"⟩,
  .instanceMethod ⟨"FamilyKernel$Lexer", "scanNumber", "()V"⟩,
  .selects "FamilyKernel$Lexer" ⟨"FamilyKernel$Lexer", "scanNumber", "()V"⟩ ⟨"FamilyKernel$Lexer", "scanNumber", "()V"⟩,
  .code ⟨"FamilyKernel$Lexer", "scanNumber", "()V"⟩ prog_5_method_20_code 2 none,
  .methodLink "FamilyKernel$Lexer" 90 ⟨"FamilyKernel$Lexer", "scanSign", "(II)V"⟩,
  .instanceMethod ⟨"FamilyKernel$Lexer", "scanSign", "(II)V"⟩,
  .selects "FamilyKernel$Lexer" ⟨"FamilyKernel$Lexer", "scanSign", "(II)V"⟩ ⟨"FamilyKernel$Lexer", "scanSign", "(II)V"⟩,
  .code ⟨"FamilyKernel$Lexer", "scanSign", "(II)V"⟩ prog_5_method_21_code 4 none,
  .methodLink "FamilyKernel$Lexer" 93 ⟨"FamilyKernel$Lexer", "isInWord", "(I)Z"⟩,
  .static ⟨"FamilyKernel$Lexer", "isInWord", "(I)Z"⟩,
  .code ⟨"FamilyKernel$Lexer", "isInWord", "(I)Z"⟩ prog_5_method_18_code 1 (some .boolean),
  .methodLink "FamilyKernel$Lexer" 96 ⟨"FamilyKernel$Lexer", "wordKind", "()I"⟩,
  .instanceMethod ⟨"FamilyKernel$Lexer", "wordKind", "()I"⟩,
  .selects "FamilyKernel$Lexer" ⟨"FamilyKernel$Lexer", "wordKind", "()I"⟩ ⟨"FamilyKernel$Lexer", "wordKind", "()I"⟩,
  .code ⟨"FamilyKernel$Lexer", "wordKind", "()I"⟩ prog_5_method_22_code 1 (some .int),
  .methodLink "FamilyKernel$Lexer" 101 ⟨"FamilyKernel$Lexer", "reads", "(Ljava/lang/String;)Z"⟩,
  .instanceMethod ⟨"FamilyKernel$Lexer", "reads", "(Ljava/lang/String;)Z"⟩,
  .selects "FamilyKernel$Lexer" ⟨"FamilyKernel$Lexer", "reads", "(Ljava/lang/String;)Z"⟩ ⟨"FamilyKernel$Lexer", "reads", "(Ljava/lang/String;)Z"⟩,
  .code ⟨"FamilyKernel$Lexer", "reads", "(Ljava/lang/String;)Z"⟩ prog_5_method_23_code 4 (some .boolean),
  .methodLink "FamilyKernel$Lexer" 129 ⟨"java/lang/String", "length", "()I"⟩,
  .initialized "java/lang/String",
  .instanceMethod ⟨"java/lang/String", "length", "()I"⟩,
  .selects "java/lang/String" ⟨"java/lang/String", "length", "()I"⟩ ⟨"java/lang/String", "length", "()I"⟩,
  .code ⟨"java/lang/String", "length", "()I"⟩ prog_23_method_54_code 1 (some .int),
  .methodLink "FamilyKernel$Lexer" 133 ⟨"java/lang/String", "charAt", "(I)C"⟩,
  .instanceMethod ⟨"java/lang/String", "charAt", "(I)C"⟩,
  .selects "java/lang/String" ⟨"java/lang/String", "charAt", "(I)C"⟩ ⟨"java/lang/String", "charAt", "(I)C"⟩,
  .code ⟨"java/lang/String", "charAt", "(I)C"⟩ prog_23_method_56_code 2 (some .char),
  .methodLink "FamilyKernel$Row" 20 ⟨"java/util/Arrays", "copyOf", "([II)[I"⟩,
  .initialized "java/util/Arrays",
  .static ⟨"java/util/Arrays", "copyOf", "([II)[I"⟩,
  .code ⟨"java/util/Arrays", "copyOf", "([II)[I"⟩ prog_28_method_123_code 3 (some (.array .int)),
  .methodLink "java/util/Arrays" 316 ⟨"[I", "clone", "()Ljava/lang/Object;"⟩,
  .methodLink "java/util/Arrays" 304 ⟨"java/lang/Math", "min", "(II)I"⟩,
  .initialized "java/lang/Math",
  .static ⟨"java/lang/Math", "min", "(II)I"⟩,
  .code ⟨"java/lang/Math", "min", "(II)I"⟩ prog_21_method_69_code 2 (some .int)]
def vR_8 : List Cond := [.methodLink "java/util/Arrays" 150 ⟨"java/lang/System", "arraycopy", "(Ljava/lang/Object;ILjava/lang/Object;II)V"⟩,
  .initialized "java/lang/System",
  .static ⟨"java/lang/System", "arraycopy", "(Ljava/lang/Object;ILjava/lang/Object;II)V"⟩,
  .methodLink "FamilyKernel$Environment" 24 ⟨"FamilyKernel$Row", "size", "()I"⟩,
  .fieldLink "FamilyKernel$Terms" 48 "FamilyKernel$Terms" "length" "I",
  .fieldLink "FamilyKernel$Meter" 18 "FamilyKernel$Meter" "work" "I",
  .fieldLink "FamilyKernel$Meter" 21 "FamilyKernel$Meter" "start" "I",
  .methodLink "FamilyKernel$Parser" 79 ⟨"FamilyKernel$Row", "cut", "(I)V"⟩,
  .fieldLink "FamilyKernel$Parser" 83 "FamilyKernel$Parser" "nest" "I",
  .fieldLink "FamilyKernel$Parser" 86 "FamilyKernel$Parser" "copies" "I",
  .fieldLink "FamilyKernel$Parser" 89 "FamilyKernel$Parser" "textSize" "I",
  .methodLink "FamilyKernel$Parser" 92 ⟨"FamilyKernel$Environment", "length", "()I"⟩,
  .fieldLink "FamilyKernel$Parser" 97 "FamilyKernel$Parser" "known" "I",
  .fieldLink "FamilyKernel$Parser" 53 "FamilyKernel$Parser" "constant" "I",
  .fieldLink "FamilyKernel$Parser" 56 "FamilyKernel$Parser" "type" "I",
  .fieldLink "FamilyKernel$Parser" 59 "FamilyKernel$Parser" "value" "I",
  .methodLink "FamilyKernel$Parser" 100 ⟨"FamilyKernel$Parser", "begin", "()V"⟩,
  .instanceMethod ⟨"FamilyKernel$Parser", "begin", "()V"⟩,
  .selects "FamilyKernel$Parser" ⟨"FamilyKernel$Parser", "begin", "()V"⟩ ⟨"FamilyKernel$Parser", "begin", "()V"⟩,
  .code ⟨"FamilyKernel$Parser", "begin", "()V"⟩ prog_7_method_11_code 2 none,
  .fieldLink "FamilyKernel$Parser" 103 "FamilyKernel$Parser" "state" "I",
  .methodLink "FamilyKernel$Parser" 106 ⟨"FamilyKernel$Parser", "startTerm", "()V"⟩,
  .instanceMethod ⟨"FamilyKernel$Parser", "startTerm", "()V"⟩,
  .selects "FamilyKernel$Parser" ⟨"FamilyKernel$Parser", "startTerm", "()V"⟩ ⟨"FamilyKernel$Parser", "startTerm", "()V"⟩,
  .code ⟨"FamilyKernel$Parser", "startTerm", "()V"⟩ prog_7_method_24_code 3 none,
  .methodLink "FamilyKernel$Parser" 109 ⟨"FamilyKernel$Parser", "takeAtom", "()V"⟩,
  .instanceMethod ⟨"FamilyKernel$Parser", "takeAtom", "()V"⟩,
  .selects "FamilyKernel$Parser" ⟨"FamilyKernel$Parser", "takeAtom", "()V"⟩ ⟨"FamilyKernel$Parser", "takeAtom", "()V"⟩,
  .code ⟨"FamilyKernel$Parser", "takeAtom", "()V"⟩ prog_7_method_25_code 2 none,
  .methodLink "FamilyKernel$Parser" 112 ⟨"FamilyKernel$Parser", "startGroup", "()V"⟩,
  .instanceMethod ⟨"FamilyKernel$Parser", "startGroup", "()V"⟩,
  .selects "FamilyKernel$Parser" ⟨"FamilyKernel$Parser", "startGroup", "()V"⟩ ⟨"FamilyKernel$Parser", "startGroup", "()V"⟩,
  .code ⟨"FamilyKernel$Parser", "startGroup", "()V"⟩ prog_7_method_31_code 2 none,
  .methodLink "FamilyKernel$Parser" 115 ⟨"FamilyKernel$Parser", "takeMember", "()V"⟩,
  .instanceMethod ⟨"FamilyKernel$Parser", "takeMember", "()V"⟩,
  .selects "FamilyKernel$Parser" ⟨"FamilyKernel$Parser", "takeMember", "()V"⟩ ⟨"FamilyKernel$Parser", "takeMember", "()V"⟩,
  .code ⟨"FamilyKernel$Parser", "takeMember", "()V"⟩ prog_7_method_44_code 2 none,
  .methodLink "FamilyKernel$Parser" 118 ⟨"FamilyKernel$Parser", "endParen", "()V"⟩,
  .instanceMethod ⟨"FamilyKernel$Parser", "endParen", "()V"⟩,
  .selects "FamilyKernel$Parser" ⟨"FamilyKernel$Parser", "endParen", "()V"⟩ ⟨"FamilyKernel$Parser", "endParen", "()V"⟩]
def vR_9 : List Cond := [.code ⟨"FamilyKernel$Parser", "endParen", "()V"⟩ prog_7_method_35_code 3 none,
  .methodLink "FamilyKernel$Parser" 121 ⟨"FamilyKernel$Parser", "endArrow", "()V"⟩,
  .instanceMethod ⟨"FamilyKernel$Parser", "endArrow", "()V"⟩,
  .selects "FamilyKernel$Parser" ⟨"FamilyKernel$Parser", "endArrow", "()V"⟩ ⟨"FamilyKernel$Parser", "endArrow", "()V"⟩,
  .code ⟨"FamilyKernel$Parser", "endArrow", "()V"⟩ prog_7_method_36_code 2 none,
  .methodLink "FamilyKernel$Parser" 124 ⟨"FamilyKernel$Parser", "endGroup", "()V"⟩,
  .instanceMethod ⟨"FamilyKernel$Parser", "endGroup", "()V"⟩,
  .selects "FamilyKernel$Parser" ⟨"FamilyKernel$Parser", "endGroup", "()V"⟩ ⟨"FamilyKernel$Parser", "endGroup", "()V"⟩,
  .code ⟨"FamilyKernel$Parser", "endGroup", "()V"⟩ prog_7_method_32_code 4 none,
  .methodLink "FamilyKernel$Parser" 127 ⟨"FamilyKernel$Parser", "endBody", "()V"⟩,
  .instanceMethod ⟨"FamilyKernel$Parser", "endBody", "()V"⟩,
  .selects "FamilyKernel$Parser" ⟨"FamilyKernel$Parser", "endBody", "()V"⟩ ⟨"FamilyKernel$Parser", "endBody", "()V"⟩,
  .code ⟨"FamilyKernel$Parser", "endBody", "()V"⟩ prog_7_method_34_code 3 none,
  .methodLink "FamilyKernel$Parser" 130 ⟨"FamilyKernel$Parser", "endLetType", "()V"⟩,
  .instanceMethod ⟨"FamilyKernel$Parser", "endLetType", "()V"⟩,
  .selects "FamilyKernel$Parser" ⟨"FamilyKernel$Parser", "endLetType", "()V"⟩ ⟨"FamilyKernel$Parser", "endLetType", "()V"⟩,
  .code ⟨"FamilyKernel$Parser", "endLetType", "()V"⟩ prog_7_method_37_code 2 none,
  .methodLink "FamilyKernel$Parser" 133 ⟨"FamilyKernel$Parser", "endLetValue", "()V"⟩,
  .instanceMethod ⟨"FamilyKernel$Parser", "endLetValue", "()V"⟩,
  .selects "FamilyKernel$Parser" ⟨"FamilyKernel$Parser", "endLetValue", "()V"⟩ ⟨"FamilyKernel$Parser", "endLetValue", "()V"⟩,
  .code ⟨"FamilyKernel$Parser", "endLetValue", "()V"⟩ prog_7_method_38_code 3 none,
  .methodLink "FamilyKernel$Parser" 136 ⟨"FamilyKernel$Parser", "endLetBody", "()V"⟩,
  .instanceMethod ⟨"FamilyKernel$Parser", "endLetBody", "()V"⟩,
  .selects "FamilyKernel$Parser" ⟨"FamilyKernel$Parser", "endLetBody", "()V"⟩ ⟨"FamilyKernel$Parser", "endLetBody", "()V"⟩,
  .code ⟨"FamilyKernel$Parser", "endLetBody", "()V"⟩ prog_7_method_39_code 2 none,
  .methodLink "FamilyKernel$Parser" 139 ⟨"FamilyKernel$Parser", "endType", "()V"⟩,
  .instanceMethod ⟨"FamilyKernel$Parser", "endType", "()V"⟩,
  .selects "FamilyKernel$Parser" ⟨"FamilyKernel$Parser", "endType", "()V"⟩ ⟨"FamilyKernel$Parser", "endType", "()V"⟩,
  .code ⟨"FamilyKernel$Parser", "endType", "()V"⟩ prog_7_method_40_code 2 none,
  .methodLink "FamilyKernel$Parser" 142 ⟨"FamilyKernel$Parser", "endValue", "()V"⟩,
  .instanceMethod ⟨"FamilyKernel$Parser", "endValue", "()V"⟩,
  .selects "FamilyKernel$Parser" ⟨"FamilyKernel$Parser", "endValue", "()V"⟩ ⟨"FamilyKernel$Parser", "endValue", "()V"⟩,
  .code ⟨"FamilyKernel$Parser", "endValue", "()V"⟩ prog_7_method_41_code 1 none,
  .methodLink "FamilyKernel$Parser" 145 ⟨"FamilyKernel$Parser", "endChecked", "()V"⟩,
  .instanceMethod ⟨"FamilyKernel$Parser", "endChecked", "()V"⟩,
  .selects "FamilyKernel$Parser" ⟨"FamilyKernel$Parser", "endChecked", "()V"⟩ ⟨"FamilyKernel$Parser", "endChecked", "()V"⟩,
  .code ⟨"FamilyKernel$Parser", "endChecked", "()V"⟩ prog_7_method_42_code 1 none,
  .methodLink "FamilyKernel$Parser" 148 ⟨"FamilyKernel$Parser", "endFamilyType", "()V"⟩,
  .instanceMethod ⟨"FamilyKernel$Parser", "endFamilyType", "()V"⟩,
  .selects "FamilyKernel$Parser" ⟨"FamilyKernel$Parser", "endFamilyType", "()V"⟩ ⟨"FamilyKernel$Parser", "endFamilyType", "()V"⟩]
def vR_10 : List Cond := [.code ⟨"FamilyKernel$Parser", "endFamilyType", "()V"⟩ prog_7_method_43_code 2 none,
  .methodLink "FamilyKernel$Parser" 151 ⟨"FamilyKernel$Parser", "endMember", "()V"⟩,
  .instanceMethod ⟨"FamilyKernel$Parser", "endMember", "()V"⟩,
  .selects "FamilyKernel$Parser" ⟨"FamilyKernel$Parser", "endMember", "()V"⟩ ⟨"FamilyKernel$Parser", "endMember", "()V"⟩,
  .code ⟨"FamilyKernel$Parser", "endMember", "()V"⟩ prog_7_method_45_code 1 none,
  .methodLink "FamilyKernel$Parser" 154 ⟨"FamilyKernel$Meter", "fail", "(I)V"⟩,
  .instanceMethod ⟨"FamilyKernel$Meter", "fail", "(I)V"⟩,
  .selects "FamilyKernel$Meter" ⟨"FamilyKernel$Meter", "fail", "(I)V"⟩ ⟨"FamilyKernel$Meter", "fail", "(I)V"⟩,
  .code ⟨"FamilyKernel$Meter", "fail", "(I)V"⟩ prog_6_method_8_code 2 none,
  .methodLink "FamilyKernel$Parser" 159 ⟨"FamilyKernel$Terms", "length", "()I"⟩,
  .fieldLink "FamilyKernel$Parser" 62 "FamilyKernel$Parser" "nodes" "I",
  .methodLink "FamilyKernel$Parser" 160 ⟨"FamilyKernel$Lexer", "kind", "()I"⟩,
  .methodLink "FamilyKernel$Parser" 165 ⟨"FamilyKernel$Parser", "refuse", "()V"⟩,
  .instanceMethod ⟨"FamilyKernel$Parser", "refuse", "()V"⟩,
  .selects "FamilyKernel$Parser" ⟨"FamilyKernel$Parser", "refuse", "()V"⟩ ⟨"FamilyKernel$Parser", "refuse", "()V"⟩,
  .code ⟨"FamilyKernel$Parser", "refuse", "()V"⟩ prog_7_method_14_code 1 none,
  .methodLink "FamilyKernel$Parser" 168 ⟨"FamilyKernel$Lexer", "advance", "()V"⟩,
  .fieldLink "FamilyKernel$Parser" 49 "FamilyKernel$Parser" "task" "I",
  .methodLink "FamilyKernel$Parser" 171 ⟨"FamilyKernel$Parser", "beginConstant", "(I)V"⟩,
  .instanceMethod ⟨"FamilyKernel$Parser", "beginConstant", "(I)V"⟩,
  .selects "FamilyKernel$Parser" ⟨"FamilyKernel$Parser", "beginConstant", "(I)V"⟩ ⟨"FamilyKernel$Parser", "beginConstant", "(I)V"⟩,
  .code ⟨"FamilyKernel$Parser", "beginConstant", "(I)V"⟩ prog_7_method_12_code 2 none,
  .methodLink "FamilyKernel$Parser" 174 ⟨"FamilyKernel$Parser", "beginFamily", "()V"⟩,
  .instanceMethod ⟨"FamilyKernel$Parser", "beginFamily", "()V"⟩,
  .selects "FamilyKernel$Parser" ⟨"FamilyKernel$Parser", "beginFamily", "()V"⟩ ⟨"FamilyKernel$Parser", "beginFamily", "()V"⟩,
  .code ⟨"FamilyKernel$Parser", "beginFamily", "()V"⟩ prog_7_method_13_code 1 none,
  .methodLink "FamilyKernel$Parser" 177 ⟨"FamilyKernel$Parser", "await", "(III)V"⟩,
  .instanceMethod ⟨"FamilyKernel$Parser", "await", "(III)V"⟩,
  .selects "FamilyKernel$Parser" ⟨"FamilyKernel$Parser", "await", "(III)V"⟩ ⟨"FamilyKernel$Parser", "await", "(III)V"⟩,
  .code ⟨"FamilyKernel$Parser", "await", "(III)V"⟩ prog_7_method_18_code 4 none,
  .methodLink "FamilyKernel$Parser" 190 ⟨"FamilyKernel$Lexer", "start", "()I"⟩,
  .methodLink "FamilyKernel$Parser" 193 ⟨"FamilyKernel$Meter", "failAt", "(II)V"⟩,
  .instanceMethod ⟨"FamilyKernel$Meter", "failAt", "(II)V"⟩,
  .selects "FamilyKernel$Meter" ⟨"FamilyKernel$Meter", "failAt", "(II)V"⟩ ⟨"FamilyKernel$Meter", "failAt", "(II)V"⟩,
  .code ⟨"FamilyKernel$Meter", "failAt", "(II)V"⟩ prog_6_method_9_code 3 none,
  .classLink "FamilyKernel$Meter" 29 "java/lang/IllegalStateException",
  .initialized "java/lang/IllegalStateException",
  .instantiable "java/lang/IllegalStateException" 6,
  .methodLink "FamilyKernel$Meter" 31 ⟨"java/lang/IllegalStateException", "<init>", "()V"⟩,
  .instanceMethod ⟨"java/lang/IllegalStateException", "<init>", "()V"⟩]
def vR_11 : List Cond := [.code ⟨"java/lang/IllegalStateException", "<init>", "()V"⟩ prog_19_method_1_code 1 none,
  .methodLink "FamilyKernel$Parser" 181 ⟨"FamilyKernel$Parser", "takeNewName", "(I)I"⟩,
  .instanceMethod ⟨"FamilyKernel$Parser", "takeNewName", "(I)I"⟩,
  .selects "FamilyKernel$Parser" ⟨"FamilyKernel$Parser", "takeNewName", "(I)I"⟩ ⟨"FamilyKernel$Parser", "takeNewName", "(I)I"⟩,
  .code ⟨"FamilyKernel$Parser", "takeNewName", "(I)I"⟩ prog_7_method_16_code 3 (some .int),
  .methodLink "FamilyKernel$Parser" 184 ⟨"FamilyKernel$Parser", "expect", "(I)V"⟩,
  .instanceMethod ⟨"FamilyKernel$Parser", "expect", "(I)V"⟩,
  .selects "FamilyKernel$Parser" ⟨"FamilyKernel$Parser", "expect", "(I)V"⟩ ⟨"FamilyKernel$Parser", "expect", "(I)V"⟩,
  .code ⟨"FamilyKernel$Parser", "expect", "(I)V"⟩ prog_7_method_15_code 2 none,
  .methodLink "FamilyKernel$Parser" 196 ⟨"FamilyKernel$Environment", "find", "(LFamilyKernel$Lexer;I)I"⟩,
  .instanceMethod ⟨"FamilyKernel$Environment", "find", "(LFamilyKernel$Lexer;I)I"⟩,
  .selects "FamilyKernel$Environment" ⟨"FamilyKernel$Environment", "find", "(LFamilyKernel$Lexer;I)I"⟩ ⟨"FamilyKernel$Environment", "find", "(LFamilyKernel$Lexer;I)I"⟩,
  .code ⟨"FamilyKernel$Environment", "find", "(LFamilyKernel$Lexer;I)I"⟩ prog_2_method_10_code 4 (some .int),
  .methodLink "FamilyKernel$Parser" 200 ⟨"FamilyKernel$Environment", "add", "(ILFamilyKernel$Lexer;)I"⟩,
  .instanceMethod ⟨"FamilyKernel$Environment", "add", "(ILFamilyKernel$Lexer;)I"⟩,
  .selects "FamilyKernel$Environment" ⟨"FamilyKernel$Environment", "add", "(ILFamilyKernel$Lexer;)I"⟩ ⟨"FamilyKernel$Environment", "add", "(ILFamilyKernel$Lexer;)I"⟩,
  .code ⟨"FamilyKernel$Environment", "add", "(ILFamilyKernel$Lexer;)I"⟩ prog_2_method_8_code 6 (some .int),
  .methodLink "FamilyKernel$Environment" 43 ⟨"FamilyKernel$Environment", "length", "()I"⟩,
  .methodLink "FamilyKernel$Environment" 63 ⟨"FamilyKernel$Environment", "fact", "(II)I"⟩,
  .instanceMethod ⟨"FamilyKernel$Environment", "fact", "(II)I"⟩,
  .selects "FamilyKernel$Environment" ⟨"FamilyKernel$Environment", "fact", "(II)I"⟩ ⟨"FamilyKernel$Environment", "fact", "(II)I"⟩,
  .code ⟨"FamilyKernel$Environment", "fact", "(II)I"⟩ prog_2_method_6_code 3 (some .int),
  .methodLink "FamilyKernel$Environment" 70 ⟨"FamilyKernel$Lexer", "standsAt", "(LFamilyKernel$Row;I)Z"⟩,
  .instanceMethod ⟨"FamilyKernel$Lexer", "standsAt", "(LFamilyKernel$Row;I)Z"⟩,
  .selects "FamilyKernel$Lexer" ⟨"FamilyKernel$Lexer", "standsAt", "(LFamilyKernel$Row;I)Z"⟩ ⟨"FamilyKernel$Lexer", "standsAt", "(LFamilyKernel$Row;I)Z"⟩,
  .code ⟨"FamilyKernel$Lexer", "standsAt", "(LFamilyKernel$Row;I)Z"⟩ prog_5_method_13_code 5 (some .boolean),
  .methodLink "FamilyKernel$Environment" 36 ⟨"FamilyKernel$Row", "at", "(I)I"⟩,
  .methodLink "FamilyKernel$Lexer" 64 ⟨"FamilyKernel$Lexer", "lengthOf", "(I)I"⟩,
  .static ⟨"FamilyKernel$Lexer", "lengthOf", "(I)I"⟩,
  .code ⟨"FamilyKernel$Lexer", "lengthOf", "(I)I"⟩ prog_5_method_9_code 1 (some .int),
  .methodLink "FamilyKernel$Lexer" 67 ⟨"FamilyKernel$Lexer", "startOf", "(I)I"⟩,
  .static ⟨"FamilyKernel$Lexer", "startOf", "(I)I"⟩,
  .code ⟨"FamilyKernel$Lexer", "startOf", "(I)I"⟩ prog_5_method_8_code 1 (some .int),
  .methodLink "FamilyKernel$Environment" 46 ⟨"FamilyKernel$Lexer", "length", "()I"⟩,
  .instanceMethod ⟨"FamilyKernel$Lexer", "length", "()I"⟩,
  .selects "FamilyKernel$Lexer" ⟨"FamilyKernel$Lexer", "length", "()I"⟩ ⟨"FamilyKernel$Lexer", "length", "()I"⟩,
  .code ⟨"FamilyKernel$Lexer", "length", "()I"⟩ prog_5_method_6_code 1 (some .int),
  .methodLink "FamilyKernel$Environment" 49 ⟨"FamilyKernel$Lexer", "named", "(II)I"⟩,
  .methodLink "FamilyKernel$Environment" 53 ⟨"FamilyKernel$Lexer", "sign", "(I)I"⟩,
  .instanceMethod ⟨"FamilyKernel$Lexer", "sign", "(I)I"⟩]
def vR_12 : List Cond := [.selects "FamilyKernel$Lexer" ⟨"FamilyKernel$Lexer", "sign", "(I)I"⟩ ⟨"FamilyKernel$Lexer", "sign", "(I)I"⟩,
  .code ⟨"FamilyKernel$Lexer", "sign", "(I)I"⟩ prog_5_method_11_code 2 (some .int),
  .methodLink "FamilyKernel$Environment" 56 ⟨"FamilyKernel$Row", "push", "(I)V"⟩,
  .methodLink "FamilyKernel$Environment" 59 ⟨"FamilyKernel$Environment", "fix", "(III)V"⟩,
  .instanceMethod ⟨"FamilyKernel$Environment", "fix", "(III)V"⟩,
  .selects "FamilyKernel$Environment" ⟨"FamilyKernel$Environment", "fix", "(III)V"⟩ ⟨"FamilyKernel$Environment", "fix", "(III)V"⟩,
  .code ⟨"FamilyKernel$Environment", "fix", "(III)V"⟩ prog_2_method_7_code 4 none,
  .methodLink "FamilyKernel$Environment" 40 ⟨"FamilyKernel$Row", "put", "(II)V"⟩,
  .instanceMethod ⟨"FamilyKernel$Row", "put", "(II)V"⟩,
  .selects "FamilyKernel$Row" ⟨"FamilyKernel$Row", "put", "(II)V"⟩ ⟨"FamilyKernel$Row", "put", "(II)V"⟩,
  .code ⟨"FamilyKernel$Row", "put", "(II)V"⟩ prog_10_method_4_code 3 none,
  .methodLink "FamilyKernel$Parser" 187 ⟨"FamilyKernel$Parser", "hold", "(III)V"⟩,
  .instanceMethod ⟨"FamilyKernel$Parser", "hold", "(III)V"⟩,
  .selects "FamilyKernel$Parser" ⟨"FamilyKernel$Parser", "hold", "(III)V"⟩ ⟨"FamilyKernel$Parser", "hold", "(III)V"⟩,
  .code ⟨"FamilyKernel$Parser", "hold", "(III)V"⟩ prog_7_method_17_code 4 none,
  .methodLink "FamilyKernel$Parser" 204 ⟨"FamilyKernel$Row", "push", "(I)V"⟩,
  .fieldLink "FamilyKernel$Parser" 210 "FamilyKernel$Parser" "current" "I",
  .methodLink "FamilyKernel$Parser" 216 ⟨"FamilyKernel$Lexer", "word", "()I"⟩,
  .instanceMethod ⟨"FamilyKernel$Lexer", "word", "()I"⟩,
  .selects "FamilyKernel$Lexer" ⟨"FamilyKernel$Lexer", "word", "()I"⟩ ⟨"FamilyKernel$Lexer", "word", "()I"⟩,
  .code ⟨"FamilyKernel$Lexer", "word", "()I"⟩ prog_5_method_10_code 1 (some .int),
  .methodLink "FamilyKernel$Parser" 219 ⟨"FamilyKernel$Parser", "nest", "(III)V"⟩,
  .instanceMethod ⟨"FamilyKernel$Parser", "nest", "(III)V"⟩,
  .selects "FamilyKernel$Parser" ⟨"FamilyKernel$Parser", "nest", "(III)V"⟩ ⟨"FamilyKernel$Parser", "nest", "(III)V"⟩,
  .code ⟨"FamilyKernel$Parser", "nest", "(III)V"⟩ prog_7_method_19_code 4 none,
  .methodLink "FamilyKernel$Parser" 221 ⟨"FamilyKernel$Parser", "resolve", "()I"⟩,
  .instanceMethod ⟨"FamilyKernel$Parser", "resolve", "()I"⟩,
  .selects "FamilyKernel$Parser" ⟨"FamilyKernel$Parser", "resolve", "()I"⟩ ⟨"FamilyKernel$Parser", "resolve", "()I"⟩,
  .code ⟨"FamilyKernel$Parser", "resolve", "()I"⟩ prog_7_method_28_code 3 (some .int),
  .methodLink "FamilyKernel$Parser" 224 ⟨"FamilyKernel$Parser", "apply", "(I)V"⟩,
  .instanceMethod ⟨"FamilyKernel$Parser", "apply", "(I)V"⟩,
  .selects "FamilyKernel$Parser" ⟨"FamilyKernel$Parser", "apply", "(I)V"⟩ ⟨"FamilyKernel$Parser", "apply", "(I)V"⟩,
  .code ⟨"FamilyKernel$Parser", "apply", "(I)V"⟩ prog_7_method_26_code 2 none,
  .methodLink "FamilyKernel$Parser" 227 ⟨"FamilyKernel$Parser", "takeSort", "()I"⟩,
  .instanceMethod ⟨"FamilyKernel$Parser", "takeSort", "()I"⟩,
  .selects "FamilyKernel$Parser" ⟨"FamilyKernel$Parser", "takeSort", "()I"⟩ ⟨"FamilyKernel$Parser", "takeSort", "()I"⟩,
  .code ⟨"FamilyKernel$Parser", "takeSort", "()I"⟩ prog_7_method_30_code 2 (some .int),
  .methodLink "FamilyKernel$Parser" 73 ⟨"FamilyKernel$Terms", "make", "(III)I"⟩,
  .instanceMethod ⟨"FamilyKernel$Terms", "make", "(III)I"⟩,
  .selects "FamilyKernel$Terms" ⟨"FamilyKernel$Terms", "make", "(III)I"⟩ ⟨"FamilyKernel$Terms", "make", "(III)I"⟩]
def vR_13 : List Cond := [.code ⟨"FamilyKernel$Terms", "make", "(III)I"⟩ prog_11_method_13_code 10 (some .int),
  .methodLink "FamilyKernel$Parser" 230 ⟨"FamilyKernel$Parser", "takeRecursor", "()I"⟩,
  .instanceMethod ⟨"FamilyKernel$Parser", "takeRecursor", "()I"⟩,
  .selects "FamilyKernel$Parser" ⟨"FamilyKernel$Parser", "takeRecursor", "()I"⟩ ⟨"FamilyKernel$Parser", "takeRecursor", "()I"⟩,
  .code ⟨"FamilyKernel$Parser", "takeRecursor", "()I"⟩ prog_7_method_29_code 3 (some .int),
  .methodLink "FamilyKernel$Parser" 233 ⟨"FamilyKernel$Parser", "beWhole", "(I)V"⟩,
  .instanceMethod ⟨"FamilyKernel$Parser", "beWhole", "(I)V"⟩,
  .selects "FamilyKernel$Parser" ⟨"FamilyKernel$Parser", "beWhole", "(I)V"⟩ ⟨"FamilyKernel$Parser", "beWhole", "(I)V"⟩,
  .code ⟨"FamilyKernel$Parser", "beWhole", "(I)V"⟩ prog_7_method_23_code 2 none,
  .methodLink "FamilyKernel$Parser" 240 ⟨"FamilyKernel$Parser", "boundAt", "()I"⟩,
  .instanceMethod ⟨"FamilyKernel$Parser", "boundAt", "()I"⟩,
  .selects "FamilyKernel$Parser" ⟨"FamilyKernel$Parser", "boundAt", "()I"⟩ ⟨"FamilyKernel$Parser", "boundAt", "()I"⟩,
  .code ⟨"FamilyKernel$Parser", "boundAt", "()I"⟩ prog_7_method_27_code 2 (some .int),
  .methodLink "FamilyKernel$Parser" 65 ⟨"FamilyKernel$Row", "size", "()I"⟩,
  .methodLink "FamilyKernel$Parser" 69 ⟨"FamilyKernel$Row", "at", "(I)I"⟩,
  .methodLink "FamilyKernel$Parser" 236 ⟨"FamilyKernel$Lexer", "standsAt", "(LFamilyKernel$Row;I)Z"⟩,
  .methodLink "FamilyKernel$Terms" 62 ⟨"FamilyKernel$Terms", "slot", "(III)I"⟩,
  .instanceMethod ⟨"FamilyKernel$Terms", "slot", "(III)I"⟩,
  .selects "FamilyKernel$Terms" ⟨"FamilyKernel$Terms", "slot", "(III)I"⟩ ⟨"FamilyKernel$Terms", "slot", "(III)I"⟩,
  .code ⟨"FamilyKernel$Terms", "slot", "(III)I"⟩ prog_11_method_14_code 5 (some .int),
  .methodLink "FamilyKernel$Terms" 52 ⟨"FamilyKernel$Terms", "kind", "(I)I"⟩,
  .instanceMethod ⟨"FamilyKernel$Terms", "kind", "(I)I"⟩,
  .selects "FamilyKernel$Terms" ⟨"FamilyKernel$Terms", "kind", "(I)I"⟩ ⟨"FamilyKernel$Terms", "kind", "(I)I"⟩,
  .code ⟨"FamilyKernel$Terms", "kind", "(I)I"⟩ prog_11_method_3_code 2 (some .int),
  .methodLink "FamilyKernel$Terms" 66 ⟨"FamilyKernel$Terms", "size", "(I)I"⟩,
  .instanceMethod ⟨"FamilyKernel$Terms", "size", "(I)I"⟩,
  .selects "FamilyKernel$Terms" ⟨"FamilyKernel$Terms", "size", "(I)I"⟩ ⟨"FamilyKernel$Terms", "size", "(I)I"⟩,
  .code ⟨"FamilyKernel$Terms", "size", "(I)I"⟩ prog_11_method_4_code 2 (some .int),
  .methodLink "FamilyKernel$Terms" 69 ⟨"FamilyKernel$Terms", "depth", "(I)I"⟩,
  .instanceMethod ⟨"FamilyKernel$Terms", "depth", "(I)I"⟩,
  .selects "FamilyKernel$Terms" ⟨"FamilyKernel$Terms", "depth", "(I)I"⟩ ⟨"FamilyKernel$Terms", "depth", "(I)I"⟩,
  .code ⟨"FamilyKernel$Terms", "depth", "(I)I"⟩ prog_11_method_5_code 2 (some .int),
  .methodLink "FamilyKernel$Terms" 72 ⟨"java/lang/Math", "max", "(II)I"⟩,
  .static ⟨"java/lang/Math", "max", "(II)I"⟩,
  .code ⟨"java/lang/Math", "max", "(II)I"⟩ prog_21_method_65_code 2 (some .int),
  .methodLink "FamilyKernel$Terms" 78 ⟨"FamilyKernel$Terms", "loose", "(I)I"⟩,
  .instanceMethod ⟨"FamilyKernel$Terms", "loose", "(I)I"⟩,
  .selects "FamilyKernel$Terms" ⟨"FamilyKernel$Terms", "loose", "(I)I"⟩ ⟨"FamilyKernel$Terms", "loose", "(I)I"⟩,
  .code ⟨"FamilyKernel$Terms", "loose", "(I)I"⟩ prog_11_method_6_code 2 (some .int),
  .methodLink "FamilyKernel$Terms" 81 ⟨"FamilyKernel$Terms", "binds", "(I)I"⟩]
def vR_14 : List Cond := [.static ⟨"FamilyKernel$Terms", "binds", "(I)I"⟩,
  .code ⟨"FamilyKernel$Terms", "binds", "(I)I"⟩ prog_11_method_15_code 1 (some .int),
  .methodLink "FamilyKernel$Terms" 84 ⟨"FamilyKernel$Terms", "free", "(I)I"⟩,
  .instanceMethod ⟨"FamilyKernel$Terms", "free", "(I)I"⟩,
  .selects "FamilyKernel$Terms" ⟨"FamilyKernel$Terms", "free", "(I)I"⟩ ⟨"FamilyKernel$Terms", "free", "(I)I"⟩,
  .code ⟨"FamilyKernel$Terms", "free", "(I)I"⟩ prog_11_method_7_code 2 (some .int),
  .constant "FamilyKernel$Terms" 87 524288,
  .methodLink "FamilyKernel$Terms" 88 ⟨"FamilyKernel$Meter", "fail", "(I)V"⟩,
  .methodLink "FamilyKernel$Terms" 94 ⟨"FamilyKernel$Terms", "grow", "()V"⟩,
  .instanceMethod ⟨"FamilyKernel$Terms", "grow", "()V"⟩,
  .selects "FamilyKernel$Terms" ⟨"FamilyKernel$Terms", "grow", "()V"⟩ ⟨"FamilyKernel$Terms", "grow", "()V"⟩,
  .code ⟨"FamilyKernel$Terms", "grow", "()V"⟩ prog_11_method_16_code 4 none,
  .constant "FamilyKernel$Terms" 97 668265263,
  .constant "FamilyKernel$Terms" 98 (-1640531535),
  .constant "FamilyKernel$Terms" 99 (-2048144789),
  .methodLink "FamilyKernel$Terms" 100 ⟨"java/util/Arrays", "copyOf", "([JI)[J"⟩,
  .static ⟨"java/util/Arrays", "copyOf", "([JI)[J"⟩,
  .code ⟨"java/util/Arrays", "copyOf", "([JI)[J"⟩ prog_28_method_124_code 3 (some (.array .long)),
  .methodLink "FamilyKernel$Terms" 106 ⟨"java/util/Arrays", "copyOf", "([II)[I"⟩,
  .methodLink "java/util/Arrays" 319 ⟨"[J", "clone", "()Ljava/lang/Object;"⟩,
  .methodLink "FamilyKernel$Parser" 247 ⟨"FamilyKernel$Lexer", "value", "()I"⟩,
  .instanceMethod ⟨"FamilyKernel$Lexer", "value", "()I"⟩,
  .selects "FamilyKernel$Lexer" ⟨"FamilyKernel$Lexer", "value", "()I"⟩ ⟨"FamilyKernel$Lexer", "value", "()I"⟩,
  .code ⟨"FamilyKernel$Lexer", "value", "()I"⟩ prog_5_method_12_code 3 (some .int),
  .methodLink "FamilyKernel$Lexer" 61 ⟨"FamilyKernel$Lexer", "sign", "(I)I"⟩,
  .methodLink "FamilyKernel$Parser" 243 ⟨"FamilyKernel$Environment", "fact", "(II)I"⟩,
  .methodLink "FamilyKernel$Parser" 213 ⟨"FamilyKernel$Parser", "held", "(I)I"⟩,
  .instanceMethod ⟨"FamilyKernel$Parser", "held", "(I)I"⟩,
  .selects "FamilyKernel$Parser" ⟨"FamilyKernel$Parser", "held", "(I)I"⟩ ⟨"FamilyKernel$Parser", "held", "(I)I"⟩,
  .code ⟨"FamilyKernel$Parser", "held", "(I)I"⟩ prog_7_method_20_code 2 (some .int),
  .methodLink "FamilyKernel$Parser" 251 ⟨"FamilyKernel$Parser", "unnest", "()V"⟩,
  .instanceMethod ⟨"FamilyKernel$Parser", "unnest", "()V"⟩,
  .selects "FamilyKernel$Parser" ⟨"FamilyKernel$Parser", "unnest", "()V"⟩ ⟨"FamilyKernel$Parser", "unnest", "()V"⟩,
  .code ⟨"FamilyKernel$Parser", "unnest", "()V"⟩ prog_7_method_22_code 1 none,
  .methodLink "FamilyKernel$Parser" 207 ⟨"FamilyKernel$Parser", "drop", "()V"⟩,
  .instanceMethod ⟨"FamilyKernel$Parser", "drop", "()V"⟩,
  .selects "FamilyKernel$Parser" ⟨"FamilyKernel$Parser", "drop", "()V"⟩ ⟨"FamilyKernel$Parser", "drop", "()V"⟩,
  .code ⟨"FamilyKernel$Parser", "drop", "()V"⟩ prog_7_method_21_code 1 none,
  .methodLink "FamilyKernel$Parser" 263 ⟨"FamilyKernel$Row", "pop", "()I"⟩,
  .instanceMethod ⟨"FamilyKernel$Row", "pop", "()I"⟩]
def vR_15 : List Cond := [.selects "FamilyKernel$Row" ⟨"FamilyKernel$Row", "pop", "()I"⟩ ⟨"FamilyKernel$Row", "pop", "()I"⟩,
  .code ⟨"FamilyKernel$Row", "pop", "()I"⟩ prog_10_method_6_code 1 (some .int),
  .methodLink "FamilyKernel$Parser" 249 ⟨"FamilyKernel$Terms", "size", "(I)I"⟩,
  .methodLink "FamilyKernel$Parser" 254 ⟨"FamilyKernel$Terms", "rewrite", "(III)I"⟩,
  .instanceMethod ⟨"FamilyKernel$Terms", "rewrite", "(III)I"⟩,
  .selects "FamilyKernel$Terms" ⟨"FamilyKernel$Terms", "rewrite", "(III)I"⟩ ⟨"FamilyKernel$Terms", "rewrite", "(III)I"⟩,
  .code ⟨"FamilyKernel$Terms", "rewrite", "(III)I"⟩ prog_11_method_18_code 9 (some .int),
  .methodLink "FamilyKernel$Parser" 257 ⟨"FamilyKernel$Row", "put", "(II)V"⟩,
  .methodLink "FamilyKernel$Parser" 260 ⟨"FamilyKernel$Parser", "startBody", "()V"⟩,
  .instanceMethod ⟨"FamilyKernel$Parser", "startBody", "()V"⟩,
  .selects "FamilyKernel$Parser" ⟨"FamilyKernel$Parser", "startBody", "()V"⟩ ⟨"FamilyKernel$Parser", "startBody", "()V"⟩,
  .code ⟨"FamilyKernel$Parser", "startBody", "()V"⟩ prog_7_method_33_code 1 none,
  .methodLink "FamilyKernel$Terms" 109 ⟨"FamilyKernel$Row", "cut", "(I)V"⟩,
  .methodLink "FamilyKernel$Terms" 112 ⟨"FamilyKernel$Row", "push", "(I)V"⟩,
  .methodLink "FamilyKernel$Terms" 115 ⟨"FamilyKernel$Row", "size", "()I"⟩,
  .methodLink "FamilyKernel$Terms" 118 ⟨"FamilyKernel$Row", "pop", "()I"⟩,
  .methodLink "FamilyKernel$Terms" 121 ⟨"FamilyKernel$Terms", "make", "(III)I"⟩,
  .methodLink "FamilyKernel$Terms" 124 ⟨"FamilyKernel$Terms", "isUntouched", "(IIII)Z"⟩,
  .instanceMethod ⟨"FamilyKernel$Terms", "isUntouched", "(IIII)Z"⟩,
  .selects "FamilyKernel$Terms" ⟨"FamilyKernel$Terms", "isUntouched", "(IIII)Z"⟩ ⟨"FamilyKernel$Terms", "isUntouched", "(IIII)Z"⟩,
  .code ⟨"FamilyKernel$Terms", "isUntouched", "(IIII)Z"⟩ prog_11_method_19_code 5 (some .boolean),
  .methodLink "FamilyKernel$Terms" 128 ⟨"FamilyKernel$Terms", "changedName", "(IIII)I"⟩,
  .instanceMethod ⟨"FamilyKernel$Terms", "changedName", "(IIII)I"⟩,
  .selects "FamilyKernel$Terms" ⟨"FamilyKernel$Terms", "changedName", "(IIII)I"⟩ ⟨"FamilyKernel$Terms", "changedName", "(IIII)I"⟩,
  .code ⟨"FamilyKernel$Terms", "changedName", "(IIII)I"⟩ prog_11_method_21_code 6 (some .int),
  .methodLink "FamilyKernel$Terms" 59 ⟨"FamilyKernel$Terms", "right", "(I)I"⟩,
  .instanceMethod ⟨"FamilyKernel$Terms", "right", "(I)I"⟩,
  .selects "FamilyKernel$Terms" ⟨"FamilyKernel$Terms", "right", "(I)I"⟩ ⟨"FamilyKernel$Terms", "right", "(I)I"⟩,
  .code ⟨"FamilyKernel$Terms", "right", "(I)I"⟩ prog_11_method_9_code 2 (some .int),
  .methodLink "FamilyKernel$Terms" 132 ⟨"FamilyKernel$Terms", "changedKind", "(II)I"⟩,
  .static ⟨"FamilyKernel$Terms", "changedKind", "(II)I"⟩,
  .code ⟨"FamilyKernel$Terms", "changedKind", "(II)I"⟩ prog_11_method_20_code 2 (some .int),
  .methodLink "FamilyKernel$Terms" 56 ⟨"FamilyKernel$Terms", "left", "(I)I"⟩,
  .instanceMethod ⟨"FamilyKernel$Terms", "left", "(I)I"⟩,
  .selects "FamilyKernel$Terms" ⟨"FamilyKernel$Terms", "left", "(I)I"⟩ ⟨"FamilyKernel$Terms", "left", "(I)I"⟩,
  .code ⟨"FamilyKernel$Terms", "left", "(I)I"⟩ prog_11_method_8_code 2 (some .int),
  .methodLink "FamilyKernel$Terms" 135 ⟨"FamilyKernel$Meter", "charge", "(I)V"⟩,
  .instanceMethod ⟨"FamilyKernel$Meter", "charge", "(I)V"⟩,
  .selects "FamilyKernel$Meter" ⟨"FamilyKernel$Meter", "charge", "(I)V"⟩ ⟨"FamilyKernel$Meter", "charge", "(I)V"⟩,
  .code ⟨"FamilyKernel$Meter", "charge", "(I)V"⟩ prog_6_method_7_code 2 none]
def vR_16 : List Cond := [.constant "FamilyKernel$Meter" 24 60000,
  .methodLink "FamilyKernel$Meter" 25 ⟨"FamilyKernel$Meter", "fail", "(I)V"⟩,
  .methodLink "FamilyKernel$Parser" 266 ⟨"FamilyKernel$Parser", "overParameters", "(I)I"⟩,
  .instanceMethod ⟨"FamilyKernel$Parser", "overParameters", "(I)I"⟩,
  .selects "FamilyKernel$Parser" ⟨"FamilyKernel$Parser", "overParameters", "(I)I"⟩ ⟨"FamilyKernel$Parser", "overParameters", "(I)I"⟩,
  .code ⟨"FamilyKernel$Parser", "overParameters", "(I)I"⟩ prog_7_method_9_code 4 (some .int),
  .methodLink "FamilyKernel$Parser" 269 ⟨"FamilyKernel$Environment", "fix", "(III)V"⟩,
  .methodLink "FamilyKernel" 170 ⟨"FamilyKernel$Parser", "type", "()I"⟩,
  .instanceMethod ⟨"FamilyKernel$Parser", "type", "()I"⟩,
  .selects "FamilyKernel$Parser" ⟨"FamilyKernel$Parser", "type", "()I"⟩ ⟨"FamilyKernel$Parser", "type", "()I"⟩,
  .code ⟨"FamilyKernel$Parser", "type", "()I"⟩ prog_7_method_4_code 1 (some .int),
  .methodLink "FamilyKernel" 173 ⟨"FamilyKernel$Parser", "value", "()I"⟩,
  .instanceMethod ⟨"FamilyKernel$Parser", "value", "()I"⟩,
  .selects "FamilyKernel$Parser" ⟨"FamilyKernel$Parser", "value", "()I"⟩ ⟨"FamilyKernel$Parser", "value", "()I"⟩,
  .code ⟨"FamilyKernel$Parser", "value", "()I"⟩ prog_7_method_5_code 1 (some .int),
  .methodLink "FamilyKernel" 176 ⟨"FamilyKernel$Frames", "begin", "(III)V"⟩,
  .instanceMethod ⟨"FamilyKernel$Frames", "begin", "(III)V"⟩,
  .selects "FamilyKernel$Frames" ⟨"FamilyKernel$Frames", "begin", "(III)V"⟩ ⟨"FamilyKernel$Frames", "begin", "(III)V"⟩,
  .code ⟨"FamilyKernel$Frames", "begin", "(III)V"⟩ prog_4_method_2_code 4 none,
  .constant "FamilyKernel" 179 16777216,
  .methodLink "FamilyKernel" 180 ⟨"FamilyKernel$Frames", "isEmpty", "()Z"⟩,
  .instanceMethod ⟨"FamilyKernel$Frames", "isEmpty", "()Z"⟩,
  .selects "FamilyKernel$Frames" ⟨"FamilyKernel$Frames", "isEmpty", "()Z"⟩ ⟨"FamilyKernel$Frames", "isEmpty", "()Z"⟩,
  .code ⟨"FamilyKernel$Frames", "isEmpty", "()Z"⟩ prog_4_method_3_code 1 (some .boolean),
  .methodLink "FamilyKernel" 184 ⟨"FamilyKernel$Frames", "top", "(I)I"⟩,
  .instanceMethod ⟨"FamilyKernel$Frames", "top", "(I)I"⟩,
  .selects "FamilyKernel$Frames" ⟨"FamilyKernel$Frames", "top", "(I)I"⟩ ⟨"FamilyKernel$Frames", "top", "(I)I"⟩,
  .code ⟨"FamilyKernel$Frames", "top", "(I)I"⟩ prog_4_method_6_code 2 (some .int),
  .methodLink "FamilyKernel" 188 ⟨"FamilyKernel$Reducer", "whnf", "()V"⟩,
  .instanceMethod ⟨"FamilyKernel$Reducer", "whnf", "()V"⟩,
  .selects "FamilyKernel$Reducer" ⟨"FamilyKernel$Reducer", "whnf", "()V"⟩ ⟨"FamilyKernel$Reducer", "whnf", "()V"⟩,
  .code ⟨"FamilyKernel$Reducer", "whnf", "()V"⟩ prog_9_method_2_code 6 none,
  .methodLink "FamilyKernel" 191 ⟨"FamilyKernel$Reducer", "whnfMajor", "()V"⟩,
  .instanceMethod ⟨"FamilyKernel$Reducer", "whnfMajor", "()V"⟩,
  .selects "FamilyKernel$Reducer" ⟨"FamilyKernel$Reducer", "whnfMajor", "()V"⟩ ⟨"FamilyKernel$Reducer", "whnfMajor", "()V"⟩,
  .code ⟨"FamilyKernel$Reducer", "whnfMajor", "()V"⟩ prog_9_method_8_code 12 none,
  .methodLink "FamilyKernel" 194 ⟨"FamilyKernel$Reducer", "conv", "()V"⟩,
  .instanceMethod ⟨"FamilyKernel$Reducer", "conv", "()V"⟩,
  .selects "FamilyKernel$Reducer" ⟨"FamilyKernel$Reducer", "conv", "()V"⟩ ⟨"FamilyKernel$Reducer", "conv", "()V"⟩,
  .code ⟨"FamilyKernel$Reducer", "conv", "()V"⟩ prog_9_method_9_code 1 none]
def vR_17 : List Cond := [.methodLink "FamilyKernel" 197 ⟨"FamilyKernel$Reducer", "convLeft", "()V"⟩,
  .instanceMethod ⟨"FamilyKernel$Reducer", "convLeft", "()V"⟩,
  .selects "FamilyKernel$Reducer" ⟨"FamilyKernel$Reducer", "convLeft", "()V"⟩ ⟨"FamilyKernel$Reducer", "convLeft", "()V"⟩,
  .code ⟨"FamilyKernel$Reducer", "convLeft", "()V"⟩ prog_9_method_10_code 1 none,
  .methodLink "FamilyKernel" 200 ⟨"FamilyKernel$Reducer", "convRight", "()V"⟩,
  .instanceMethod ⟨"FamilyKernel$Reducer", "convRight", "()V"⟩,
  .selects "FamilyKernel$Reducer" ⟨"FamilyKernel$Reducer", "convRight", "()V"⟩ ⟨"FamilyKernel$Reducer", "convRight", "()V"⟩,
  .code ⟨"FamilyKernel$Reducer", "convRight", "()V"⟩ prog_9_method_11_code 7 none,
  .methodLink "FamilyKernel" 203 ⟨"FamilyKernel$Reducer", "convBodies", "()V"⟩,
  .instanceMethod ⟨"FamilyKernel$Reducer", "convBodies", "()V"⟩,
  .selects "FamilyKernel$Reducer" ⟨"FamilyKernel$Reducer", "convBodies", "()V"⟩ ⟨"FamilyKernel$Reducer", "convBodies", "()V"⟩,
  .code ⟨"FamilyKernel$Reducer", "convBodies", "()V"⟩ prog_9_method_14_code 6 none,
  .methodLink "FamilyKernel" 206 ⟨"FamilyKernel$Reducer", "convLeave", "()V"⟩,
  .instanceMethod ⟨"FamilyKernel$Reducer", "convLeave", "()V"⟩,
  .selects "FamilyKernel$Reducer" ⟨"FamilyKernel$Reducer", "convLeave", "()V"⟩ ⟨"FamilyKernel$Reducer", "convLeave", "()V"⟩,
  .code ⟨"FamilyKernel$Reducer", "convLeave", "()V"⟩ prog_9_method_15_code 1 none,
  .methodLink "FamilyKernel" 209 ⟨"FamilyKernel$Reducer", "convArguments", "()V"⟩,
  .instanceMethod ⟨"FamilyKernel$Reducer", "convArguments", "()V"⟩,
  .selects "FamilyKernel$Reducer" ⟨"FamilyKernel$Reducer", "convArguments", "()V"⟩ ⟨"FamilyKernel$Reducer", "convArguments", "()V"⟩,
  .code ⟨"FamilyKernel$Reducer", "convArguments", "()V"⟩ prog_9_method_16_code 2 none,
  .methodLink "FamilyKernel" 212 ⟨"FamilyKernel$Reducer", "normal", "()V"⟩,
  .instanceMethod ⟨"FamilyKernel$Reducer", "normal", "()V"⟩,
  .selects "FamilyKernel$Reducer" ⟨"FamilyKernel$Reducer", "normal", "()V"⟩ ⟨"FamilyKernel$Reducer", "normal", "()V"⟩,
  .code ⟨"FamilyKernel$Reducer", "normal", "()V"⟩ prog_9_method_17_code 1 none,
  .methodLink "FamilyKernel" 215 ⟨"FamilyKernel$Reducer", "normalSplit", "()V"⟩,
  .instanceMethod ⟨"FamilyKernel$Reducer", "normalSplit", "()V"⟩,
  .selects "FamilyKernel$Reducer" ⟨"FamilyKernel$Reducer", "normalSplit", "()V"⟩ ⟨"FamilyKernel$Reducer", "normalSplit", "()V"⟩,
  .code ⟨"FamilyKernel$Reducer", "normalSplit", "()V"⟩ prog_9_method_18_code 3 none,
  .methodLink "FamilyKernel" 218 ⟨"FamilyKernel$Reducer", "normalBody", "()V"⟩,
  .instanceMethod ⟨"FamilyKernel$Reducer", "normalBody", "()V"⟩,
  .selects "FamilyKernel$Reducer" ⟨"FamilyKernel$Reducer", "normalBody", "()V"⟩ ⟨"FamilyKernel$Reducer", "normalBody", "()V"⟩,
  .code ⟨"FamilyKernel$Reducer", "normalBody", "()V"⟩ prog_9_method_20_code 2 none,
  .methodLink "FamilyKernel" 221 ⟨"FamilyKernel$Reducer", "normalClose", "()V"⟩,
  .instanceMethod ⟨"FamilyKernel$Reducer", "normalClose", "()V"⟩,
  .selects "FamilyKernel$Reducer" ⟨"FamilyKernel$Reducer", "normalClose", "()V"⟩ ⟨"FamilyKernel$Reducer", "normalClose", "()V"⟩,
  .code ⟨"FamilyKernel$Reducer", "normalClose", "()V"⟩ prog_9_method_21_code 3 none,
  .methodLink "FamilyKernel" 224 ⟨"FamilyKernel$Reducer", "normalArgument", "()V"⟩,
  .instanceMethod ⟨"FamilyKernel$Reducer", "normalArgument", "()V"⟩,
  .selects "FamilyKernel$Reducer" ⟨"FamilyKernel$Reducer", "normalArgument", "()V"⟩ ⟨"FamilyKernel$Reducer", "normalArgument", "()V"⟩,
  .code ⟨"FamilyKernel$Reducer", "normalArgument", "()V"⟩ prog_9_method_22_code 2 none]
def vR_18 : List Cond := [.methodLink "FamilyKernel" 227 ⟨"FamilyKernel$Reducer", "normalApply", "()V"⟩,
  .instanceMethod ⟨"FamilyKernel$Reducer", "normalApply", "()V"⟩,
  .selects "FamilyKernel$Reducer" ⟨"FamilyKernel$Reducer", "normalApply", "()V"⟩ ⟨"FamilyKernel$Reducer", "normalApply", "()V"⟩,
  .code ⟨"FamilyKernel$Reducer", "normalApply", "()V"⟩ prog_9_method_23_code 2 none,
  .methodLink "FamilyKernel" 230 ⟨"FamilyKernel$Typer", "infer", "()V"⟩,
  .instanceMethod ⟨"FamilyKernel$Typer", "infer", "()V"⟩,
  .selects "FamilyKernel$Typer" ⟨"FamilyKernel$Typer", "infer", "()V"⟩ ⟨"FamilyKernel$Typer", "infer", "()V"⟩,
  .code ⟨"FamilyKernel$Typer", "infer", "()V"⟩ prog_12_method_2_code 2 none,
  .methodLink "FamilyKernel" 233 ⟨"FamilyKernel$Typer", "piBody", "()V"⟩,
  .instanceMethod ⟨"FamilyKernel$Typer", "piBody", "()V"⟩,
  .selects "FamilyKernel$Typer" ⟨"FamilyKernel$Typer", "piBody", "()V"⟩ ⟨"FamilyKernel$Typer", "piBody", "()V"⟩,
  .code ⟨"FamilyKernel$Typer", "piBody", "()V"⟩ prog_12_method_12_code 1 none,
  .methodLink "FamilyKernel" 236 ⟨"FamilyKernel$Typer", "piEnd", "()V"⟩,
  .instanceMethod ⟨"FamilyKernel$Typer", "piEnd", "()V"⟩,
  .selects "FamilyKernel$Typer" ⟨"FamilyKernel$Typer", "piEnd", "()V"⟩ ⟨"FamilyKernel$Typer", "piEnd", "()V"⟩,
  .code ⟨"FamilyKernel$Typer", "piEnd", "()V"⟩ prog_12_method_13_code 2 none,
  .methodLink "FamilyKernel" 239 ⟨"FamilyKernel$Typer", "lamBody", "()V"⟩,
  .instanceMethod ⟨"FamilyKernel$Typer", "lamBody", "()V"⟩,
  .selects "FamilyKernel$Typer" ⟨"FamilyKernel$Typer", "lamBody", "()V"⟩ ⟨"FamilyKernel$Typer", "lamBody", "()V"⟩,
  .code ⟨"FamilyKernel$Typer", "lamBody", "()V"⟩ prog_12_method_14_code 1 none,
  .methodLink "FamilyKernel" 242 ⟨"FamilyKernel$Typer", "lamEnd", "()V"⟩,
  .instanceMethod ⟨"FamilyKernel$Typer", "lamEnd", "()V"⟩,
  .selects "FamilyKernel$Typer" ⟨"FamilyKernel$Typer", "lamEnd", "()V"⟩ ⟨"FamilyKernel$Typer", "lamEnd", "()V"⟩,
  .code ⟨"FamilyKernel$Typer", "lamEnd", "()V"⟩ prog_12_method_15_code 2 none,
  .methodLink "FamilyKernel" 245 ⟨"FamilyKernel$Typer", "letValue", "()V"⟩,
  .instanceMethod ⟨"FamilyKernel$Typer", "letValue", "()V"⟩,
  .selects "FamilyKernel$Typer" ⟨"FamilyKernel$Typer", "letValue", "()V"⟩ ⟨"FamilyKernel$Typer", "letValue", "()V"⟩,
  .code ⟨"FamilyKernel$Typer", "letValue", "()V"⟩ prog_12_method_16_code 2 none,
  .methodLink "FamilyKernel" 248 ⟨"FamilyKernel$Typer", "letBody", "()V"⟩,
  .instanceMethod ⟨"FamilyKernel$Typer", "letBody", "()V"⟩,
  .selects "FamilyKernel$Typer" ⟨"FamilyKernel$Typer", "letBody", "()V"⟩ ⟨"FamilyKernel$Typer", "letBody", "()V"⟩,
  .code ⟨"FamilyKernel$Typer", "letBody", "()V"⟩ prog_12_method_17_code 2 none,
  .methodLink "FamilyKernel" 251 ⟨"FamilyKernel$Typer", "appType", "()V"⟩,
  .instanceMethod ⟨"FamilyKernel$Typer", "appType", "()V"⟩,
  .selects "FamilyKernel$Typer" ⟨"FamilyKernel$Typer", "appType", "()V"⟩ ⟨"FamilyKernel$Typer", "appType", "()V"⟩,
  .code ⟨"FamilyKernel$Typer", "appType", "()V"⟩ prog_12_method_18_code 1 none,
  .methodLink "FamilyKernel" 254 ⟨"FamilyKernel$Typer", "appArgument", "()V"⟩,
  .instanceMethod ⟨"FamilyKernel$Typer", "appArgument", "()V"⟩,
  .selects "FamilyKernel$Typer" ⟨"FamilyKernel$Typer", "appArgument", "()V"⟩ ⟨"FamilyKernel$Typer", "appArgument", "()V"⟩,
  .code ⟨"FamilyKernel$Typer", "appArgument", "()V"⟩ prog_12_method_20_code 2 none]
def vR_19 : List Cond := [.methodLink "FamilyKernel" 257 ⟨"FamilyKernel$Typer", "appOpen", "()V"⟩,
  .instanceMethod ⟨"FamilyKernel$Typer", "appOpen", "()V"⟩,
  .selects "FamilyKernel$Typer" ⟨"FamilyKernel$Typer", "appOpen", "()V"⟩ ⟨"FamilyKernel$Typer", "appOpen", "()V"⟩,
  .code ⟨"FamilyKernel$Typer", "appOpen", "()V"⟩ prog_12_method_22_code 4 none,
  .methodLink "FamilyKernel" 260 ⟨"FamilyKernel$Typer", "sortType", "()V"⟩,
  .instanceMethod ⟨"FamilyKernel$Typer", "sortType", "()V"⟩,
  .selects "FamilyKernel$Typer" ⟨"FamilyKernel$Typer", "sortType", "()V"⟩ ⟨"FamilyKernel$Typer", "sortType", "()V"⟩,
  .code ⟨"FamilyKernel$Typer", "sortType", "()V"⟩ prog_12_method_8_code 1 none,
  .methodLink "FamilyKernel" 263 ⟨"FamilyKernel$Typer", "sortEnd", "()V"⟩,
  .instanceMethod ⟨"FamilyKernel$Typer", "sortEnd", "()V"⟩,
  .selects "FamilyKernel$Typer" ⟨"FamilyKernel$Typer", "sortEnd", "()V"⟩ ⟨"FamilyKernel$Typer", "sortEnd", "()V"⟩,
  .code ⟨"FamilyKernel$Typer", "sortEnd", "()V"⟩ prog_12_method_9_code 1 none,
  .methodLink "FamilyKernel" 266 ⟨"FamilyKernel$Typer", "checkType", "()V"⟩,
  .instanceMethod ⟨"FamilyKernel$Typer", "checkType", "()V"⟩,
  .selects "FamilyKernel$Typer" ⟨"FamilyKernel$Typer", "checkType", "()V"⟩ ⟨"FamilyKernel$Typer", "checkType", "()V"⟩,
  .code ⟨"FamilyKernel$Typer", "checkType", "()V"⟩ prog_12_method_10_code 2 none,
  .methodLink "FamilyKernel" 269 ⟨"FamilyKernel$Typer", "declare", "()V"⟩,
  .instanceMethod ⟨"FamilyKernel$Typer", "declare", "()V"⟩,
  .selects "FamilyKernel$Typer" ⟨"FamilyKernel$Typer", "declare", "()V"⟩ ⟨"FamilyKernel$Typer", "declare", "()V"⟩,
  .code ⟨"FamilyKernel$Typer", "declare", "()V"⟩ prog_12_method_23_code 1 none,
  .methodLink "FamilyKernel" 272 ⟨"FamilyKernel$Typer", "declareValue", "()V"⟩,
  .instanceMethod ⟨"FamilyKernel$Typer", "declareValue", "()V"⟩,
  .selects "FamilyKernel$Typer" ⟨"FamilyKernel$Typer", "declareValue", "()V"⟩ ⟨"FamilyKernel$Typer", "declareValue", "()V"⟩,
  .code ⟨"FamilyKernel$Typer", "declareValue", "()V"⟩ prog_12_method_24_code 1 none,
  .methodLink "FamilyKernel" 275 ⟨"FamilyKernel$Typer", "eval", "()V"⟩,
  .instanceMethod ⟨"FamilyKernel$Typer", "eval", "()V"⟩,
  .selects "FamilyKernel$Typer" ⟨"FamilyKernel$Typer", "eval", "()V"⟩ ⟨"FamilyKernel$Typer", "eval", "()V"⟩,
  .code ⟨"FamilyKernel$Typer", "eval", "()V"⟩ prog_12_method_25_code 1 none,
  .methodLink "FamilyKernel" 278 ⟨"FamilyKernel$Typer", "evalTyped", "()V"⟩,
  .instanceMethod ⟨"FamilyKernel$Typer", "evalTyped", "()V"⟩,
  .selects "FamilyKernel$Typer" ⟨"FamilyKernel$Typer", "evalTyped", "()V"⟩ ⟨"FamilyKernel$Typer", "evalTyped", "()V"⟩,
  .code ⟨"FamilyKernel$Typer", "evalTyped", "()V"⟩ prog_12_method_26_code 1 none,
  .methodLink "FamilyKernel" 281 ⟨"FamilyKernel$Families", "family", "()V"⟩,
  .instanceMethod ⟨"FamilyKernel$Families", "family", "()V"⟩,
  .selects "FamilyKernel$Families" ⟨"FamilyKernel$Families", "family", "()V"⟩ ⟨"FamilyKernel$Families", "family", "()V"⟩,
  .code ⟨"FamilyKernel$Families", "family", "()V"⟩ prog_3_method_2_code 2 none,
  .methodLink "FamilyKernel" 284 ⟨"FamilyKernel$Families", "member", "()V"⟩,
  .instanceMethod ⟨"FamilyKernel$Families", "member", "()V"⟩,
  .selects "FamilyKernel$Families" ⟨"FamilyKernel$Families", "member", "()V"⟩ ⟨"FamilyKernel$Families", "member", "()V"⟩,
  .code ⟨"FamilyKernel$Families", "member", "()V"⟩ prog_3_method_6_code 2 none]
def vR_20 : List Cond := [.methodLink "FamilyKernel" 287 ⟨"FamilyKernel$Families", "argument", "()V"⟩,
  .instanceMethod ⟨"FamilyKernel$Families", "argument", "()V"⟩,
  .selects "FamilyKernel$Families" ⟨"FamilyKernel$Families", "argument", "()V"⟩ ⟨"FamilyKernel$Families", "argument", "()V"⟩,
  .code ⟨"FamilyKernel$Families", "argument", "()V"⟩ prog_3_method_7_code 1 none,
  .methodLink "FamilyKernel" 290 ⟨"FamilyKernel$Families", "argumentTested", "()V"⟩,
  .instanceMethod ⟨"FamilyKernel$Families", "argumentTested", "()V"⟩,
  .selects "FamilyKernel$Families" ⟨"FamilyKernel$Families", "argumentTested", "()V"⟩ ⟨"FamilyKernel$Families", "argumentTested", "()V"⟩,
  .code ⟨"FamilyKernel$Families", "argumentTested", "()V"⟩ prog_3_method_8_code 4 none,
  .methodLink "FamilyKernel" 293 ⟨"FamilyKernel$Families", "memberTyped", "()V"⟩,
  .instanceMethod ⟨"FamilyKernel$Families", "memberTyped", "()V"⟩,
  .selects "FamilyKernel$Families" ⟨"FamilyKernel$Families", "memberTyped", "()V"⟩ ⟨"FamilyKernel$Families", "memberTyped", "()V"⟩,
  .code ⟨"FamilyKernel$Families", "memberTyped", "()V"⟩ prog_3_method_9_code 1 none,
  .methodLink "FamilyKernel" 296 ⟨"FamilyKernel$Frames", "pop", "()V"⟩,
  .instanceMethod ⟨"FamilyKernel$Frames", "pop", "()V"⟩,
  .selects "FamilyKernel$Frames" ⟨"FamilyKernel$Frames", "pop", "()V"⟩ ⟨"FamilyKernel$Frames", "pop", "()V"⟩,
  .code ⟨"FamilyKernel$Frames", "pop", "()V"⟩ prog_4_method_5_code 1 none,
  .methodLink "FamilyKernel" 299 ⟨"FamilyKernel$Meter", "fail", "(I)V"⟩,
  .methodLink "FamilyKernel$Frames" 24 ⟨"FamilyKernel$Row", "cut", "(I)V"⟩,
  .methodLink "FamilyKernel$Frames" 28 ⟨"FamilyKernel$Frames", "push", "(IIII)V"⟩,
  .instanceMethod ⟨"FamilyKernel$Frames", "push", "(IIII)V"⟩,
  .selects "FamilyKernel$Frames" ⟨"FamilyKernel$Frames", "push", "(IIII)V"⟩ ⟨"FamilyKernel$Frames", "push", "(IIII)V"⟩,
  .code ⟨"FamilyKernel$Frames", "push", "(IIII)V"⟩ prog_4_method_4_code 5 none,
  .methodLink "FamilyKernel$Frames" 36 ⟨"FamilyKernel$Row", "push", "(I)V"⟩,
  .methodLink "FamilyKernel$Frames" 32 ⟨"FamilyKernel$Row", "size", "()I"⟩,
  .methodLink "FamilyKernel$Frames" 38 ⟨"FamilyKernel$Row", "at", "(I)I"⟩,
  .methodLink "FamilyKernel$Reducer" 39 ⟨"FamilyKernel$Frames", "top", "(I)I"⟩,
  .methodLink "FamilyKernel$Reducer" 43 ⟨"FamilyKernel$Terms", "head", "(I)I"⟩,
  .instanceMethod ⟨"FamilyKernel$Terms", "head", "(I)I"⟩,
  .selects "FamilyKernel$Terms" ⟨"FamilyKernel$Terms", "head", "(I)I"⟩ ⟨"FamilyKernel$Terms", "head", "(I)I"⟩,
  .code ⟨"FamilyKernel$Terms", "head", "(I)I"⟩ prog_11_method_10_code 4 (some .int),
  .methodLink "FamilyKernel$Reducer" 48 ⟨"FamilyKernel$Terms", "behind", "(I)I"⟩,
  .instanceMethod ⟨"FamilyKernel$Terms", "behind", "(I)I"⟩,
  .selects "FamilyKernel$Terms" ⟨"FamilyKernel$Terms", "behind", "(I)I"⟩ ⟨"FamilyKernel$Terms", "behind", "(I)I"⟩,
  .code ⟨"FamilyKernel$Terms", "behind", "(I)I"⟩ prog_11_method_11_code 4 (some .int),
  .methodLink "FamilyKernel$Reducer" 51 ⟨"FamilyKernel$Terms", "kind", "(I)I"⟩,
  .methodLink "FamilyKernel$Reducer" 54 ⟨"FamilyKernel$Terms", "fromLast", "(II)I"⟩,
  .instanceMethod ⟨"FamilyKernel$Terms", "fromLast", "(II)I"⟩,
  .selects "FamilyKernel$Terms" ⟨"FamilyKernel$Terms", "fromLast", "(II)I"⟩ ⟨"FamilyKernel$Terms", "fromLast", "(II)I"⟩,
  .code ⟨"FamilyKernel$Terms", "fromLast", "(II)I"⟩ prog_11_method_12_code 5 (some .int),
  .methodLink "FamilyKernel$Reducer" 58 ⟨"FamilyKernel$Terms", "right", "(I)I"⟩]
def vR_21 : List Cond := [.methodLink "FamilyKernel$Reducer" 61 ⟨"FamilyKernel$Terms", "rewrite", "(III)I"⟩,
  .methodLink "FamilyKernel$Reducer" 65 ⟨"FamilyKernel$Reducer", "step", "(II)V"⟩,
  .instanceMethod ⟨"FamilyKernel$Reducer", "step", "(II)V"⟩,
  .selects "FamilyKernel$Reducer" ⟨"FamilyKernel$Reducer", "step", "(II)V"⟩ ⟨"FamilyKernel$Reducer", "step", "(II)V"⟩,
  .code ⟨"FamilyKernel$Reducer", "step", "(II)V"⟩ prog_9_method_5_code 3 none,
  .methodLink "FamilyKernel$Reducer" 68 ⟨"FamilyKernel$Terms", "left", "(I)I"⟩,
  .methodLink "FamilyKernel$Reducer" 71 ⟨"FamilyKernel$Environment", "fact", "(II)I"⟩,
  .methodLink "FamilyKernel$Reducer" 76 ⟨"FamilyKernel$Reducer", "majorPlace", "(I)I"⟩,
  .instanceMethod ⟨"FamilyKernel$Reducer", "majorPlace", "(I)I"⟩,
  .selects "FamilyKernel$Reducer" ⟨"FamilyKernel$Reducer", "majorPlace", "(I)I"⟩ ⟨"FamilyKernel$Reducer", "majorPlace", "(I)I"⟩,
  .code ⟨"FamilyKernel$Reducer", "majorPlace", "(I)I"⟩ prog_9_method_3_code 2 (some .int),
  .methodLink "FamilyKernel$Reducer" 79 ⟨"FamilyKernel$Reducer", "askMajor", "(II)V"⟩,
  .instanceMethod ⟨"FamilyKernel$Reducer", "askMajor", "(II)V"⟩,
  .selects "FamilyKernel$Reducer" ⟨"FamilyKernel$Reducer", "askMajor", "(II)V"⟩ ⟨"FamilyKernel$Reducer", "askMajor", "(II)V"⟩,
  .code ⟨"FamilyKernel$Reducer", "askMajor", "(II)V"⟩ prog_9_method_4_code 4 none,
  .methodLink "FamilyKernel$Reducer" 82 ⟨"FamilyKernel$Frames", "give", "(I)V"⟩,
  .instanceMethod ⟨"FamilyKernel$Frames", "give", "(I)V"⟩,
  .selects "FamilyKernel$Frames" ⟨"FamilyKernel$Frames", "give", "(I)V"⟩ ⟨"FamilyKernel$Frames", "give", "(I)V"⟩,
  .code ⟨"FamilyKernel$Frames", "give", "(I)V"⟩ prog_4_method_8_code 2 none,
  .methodLink "FamilyKernel$Reducer" 98 ⟨"FamilyKernel$Row", "cut", "(I)V"⟩,
  .methodLink "FamilyKernel$Reducer" 101 ⟨"FamilyKernel$Reducer", "giveLast", "(II)I"⟩,
  .instanceMethod ⟨"FamilyKernel$Reducer", "giveLast", "(II)I"⟩,
  .selects "FamilyKernel$Reducer" ⟨"FamilyKernel$Reducer", "giveLast", "(II)I"⟩ ⟨"FamilyKernel$Reducer", "giveLast", "(II)I"⟩,
  .code ⟨"FamilyKernel$Reducer", "giveLast", "(II)I"⟩ prog_9_method_6_code 5 (some .int),
  .methodLink "FamilyKernel$Reducer" 104 ⟨"FamilyKernel$Reducer", "applyGiven", "(I)V"⟩,
  .instanceMethod ⟨"FamilyKernel$Reducer", "applyGiven", "(I)V"⟩,
  .selects "FamilyKernel$Reducer" ⟨"FamilyKernel$Reducer", "applyGiven", "(I)V"⟩ ⟨"FamilyKernel$Reducer", "applyGiven", "(I)V"⟩,
  .code ⟨"FamilyKernel$Reducer", "applyGiven", "(I)V"⟩ prog_9_method_7_code 3 none,
  .methodLink "FamilyKernel$Reducer" 107 ⟨"FamilyKernel$Row", "push", "(I)V"⟩,
  .methodLink "FamilyKernel$Reducer" 109 ⟨"FamilyKernel$Row", "size", "()I"⟩,
  .methodLink "FamilyKernel$Reducer" 113 ⟨"FamilyKernel$Row", "pop", "()I"⟩,
  .methodLink "FamilyKernel$Reducer" 116 ⟨"FamilyKernel$Terms", "make", "(III)I"⟩,
  .methodLink "FamilyKernel$Reducer" 119 ⟨"FamilyKernel$Terms", "size", "(I)I"⟩,
  .methodLink "FamilyKernel$Reducer" 121 ⟨"FamilyKernel$Meter", "charge", "(I)V"⟩,
  .methodLink "FamilyKernel$Reducer" 91 ⟨"FamilyKernel$Frames", "set", "(II)V"⟩,
  .instanceMethod ⟨"FamilyKernel$Frames", "set", "(II)V"⟩,
  .selects "FamilyKernel$Frames" ⟨"FamilyKernel$Frames", "set", "(II)V"⟩ ⟨"FamilyKernel$Frames", "set", "(II)V"⟩,
  .code ⟨"FamilyKernel$Frames", "set", "(II)V"⟩ prog_4_method_7_code 3 none,
  .methodLink "FamilyKernel$Frames" 42 ⟨"FamilyKernel$Row", "put", "(II)V"⟩,
  .methodLink "FamilyKernel$Reducer" 86 ⟨"FamilyKernel$Meter", "fail", "(I)V"⟩]
def vR_22 : List Cond := [.methodLink "FamilyKernel$Reducer" 94 ⟨"FamilyKernel$Frames", "push", "(IIII)V"⟩,
  .fieldLink "FamilyKernel$Frames" 45 "FamilyKernel$Frames" "result" "I",
  .methodLink "FamilyKernel$Frames" 49 ⟨"FamilyKernel$Frames", "pop", "()V"⟩,
  .methodLink "FamilyKernel$Reducer" 124 ⟨"FamilyKernel$Frames", "result", "()I"⟩,
  .instanceMethod ⟨"FamilyKernel$Frames", "result", "()I"⟩,
  .selects "FamilyKernel$Frames" ⟨"FamilyKernel$Frames", "result", "()I"⟩ ⟨"FamilyKernel$Frames", "result", "()I"⟩,
  .code ⟨"FamilyKernel$Frames", "result", "()I"⟩ prog_4_method_9_code 1 (some .int),
  .methodLink "FamilyKernel$Reducer" 127 ⟨"FamilyKernel$Frames", "pop", "()V"⟩,
  .methodLink "FamilyKernel$Reducer" 129 ⟨"FamilyKernel$Reducer", "convWithin", "(II)V"⟩,
  .instanceMethod ⟨"FamilyKernel$Reducer", "convWithin", "(II)V"⟩,
  .selects "FamilyKernel$Reducer" ⟨"FamilyKernel$Reducer", "convWithin", "(II)V"⟩ ⟨"FamilyKernel$Reducer", "convWithin", "(II)V"⟩,
  .code ⟨"FamilyKernel$Reducer", "convWithin", "(II)V"⟩ prog_9_method_12_code 3 none,
  .methodLink "FamilyKernel$Reducer" 132 ⟨"FamilyKernel$Frames", "newVariable", "(I)I"⟩,
  .instanceMethod ⟨"FamilyKernel$Frames", "newVariable", "(I)I"⟩,
  .selects "FamilyKernel$Frames" ⟨"FamilyKernel$Frames", "newVariable", "(I)I"⟩ ⟨"FamilyKernel$Frames", "newVariable", "(I)I"⟩,
  .code ⟨"FamilyKernel$Frames", "newVariable", "(I)I"⟩ prog_4_method_10_code 2 (some .int),
  .methodLink "FamilyKernel$Reducer" 135 ⟨"FamilyKernel$Reducer", "convHeads", "(II)V"⟩,
  .instanceMethod ⟨"FamilyKernel$Reducer", "convHeads", "(II)V"⟩,
  .selects "FamilyKernel$Reducer" ⟨"FamilyKernel$Reducer", "convHeads", "(II)V"⟩ ⟨"FamilyKernel$Reducer", "convHeads", "(II)V"⟩,
  .code ⟨"FamilyKernel$Reducer", "convHeads", "(II)V"⟩ prog_9_method_13_code 4 none,
  .methodLink "FamilyKernel$Reducer" 138 ⟨"FamilyKernel$Frames", "dropVariable", "()I"⟩,
  .instanceMethod ⟨"FamilyKernel$Frames", "dropVariable", "()I"⟩,
  .selects "FamilyKernel$Frames" ⟨"FamilyKernel$Frames", "dropVariable", "()I"⟩ ⟨"FamilyKernel$Frames", "dropVariable", "()I"⟩,
  .code ⟨"FamilyKernel$Frames", "dropVariable", "()I"⟩ prog_4_method_11_code 1 (some .int),
  .methodLink "FamilyKernel$Frames" 52 ⟨"FamilyKernel$Row", "pop", "()I"⟩,
  .methodLink "FamilyKernel$Reducer" 141 ⟨"FamilyKernel$Reducer", "normalWithin", "(I)V"⟩,
  .instanceMethod ⟨"FamilyKernel$Reducer", "normalWithin", "(I)V"⟩,
  .selects "FamilyKernel$Reducer" ⟨"FamilyKernel$Reducer", "normalWithin", "(I)V"⟩ ⟨"FamilyKernel$Reducer", "normalWithin", "(I)V"⟩,
  .code ⟨"FamilyKernel$Reducer", "normalWithin", "(I)V"⟩ prog_9_method_19_code 2 none,
  .methodLink "FamilyKernel$Typer" 29 ⟨"FamilyKernel$Frames", "top", "(I)I"⟩,
  .methodLink "FamilyKernel$Typer" 33 ⟨"FamilyKernel$Meter", "fail", "(I)V"⟩,
  .methodLink "FamilyKernel$Typer" 39 ⟨"FamilyKernel$Terms", "kind", "(I)I"⟩,
  .methodLink "FamilyKernel$Typer" 44 ⟨"FamilyKernel$Terms", "left", "(I)I"⟩,
  .methodLink "FamilyKernel$Typer" 47 ⟨"FamilyKernel$Frames", "typeOf", "(I)I"⟩,
  .instanceMethod ⟨"FamilyKernel$Frames", "typeOf", "(I)I"⟩,
  .selects "FamilyKernel$Frames" ⟨"FamilyKernel$Frames", "typeOf", "(I)I"⟩ ⟨"FamilyKernel$Frames", "typeOf", "(I)I"⟩,
  .code ⟨"FamilyKernel$Frames", "typeOf", "(I)I"⟩ prog_4_method_13_code 2 (some .int),
  .methodLink "FamilyKernel$Typer" 50 ⟨"FamilyKernel$Frames", "give", "(I)V"⟩,
  .methodLink "FamilyKernel$Typer" 53 ⟨"FamilyKernel$Typer", "inferSort", "(I)V"⟩,
  .instanceMethod ⟨"FamilyKernel$Typer", "inferSort", "(I)V"⟩]
def vR_23 : List Cond := [.selects "FamilyKernel$Typer" ⟨"FamilyKernel$Typer", "inferSort", "(I)V"⟩ ⟨"FamilyKernel$Typer", "inferSort", "(I)V"⟩,
  .code ⟨"FamilyKernel$Typer", "inferSort", "(I)V"⟩ prog_12_method_3_code 2 none,
  .methodLink "FamilyKernel$Typer" 56 ⟨"FamilyKernel$Environment", "fact", "(II)I"⟩,
  .methodLink "FamilyKernel$Typer" 62 ⟨"FamilyKernel$Terms", "right", "(I)I"⟩,
  .methodLink "FamilyKernel$Typer" 65 ⟨"FamilyKernel$Typer", "inferRecursor", "(II)V"⟩,
  .instanceMethod ⟨"FamilyKernel$Typer", "inferRecursor", "(II)V"⟩,
  .selects "FamilyKernel$Typer" ⟨"FamilyKernel$Typer", "inferRecursor", "(II)V"⟩ ⟨"FamilyKernel$Typer", "inferRecursor", "(II)V"⟩,
  .code ⟨"FamilyKernel$Typer", "inferRecursor", "(II)V"⟩ prog_12_method_4_code 4 none,
  .methodLink "FamilyKernel$Typer" 69 ⟨"FamilyKernel$Typer", "sortWithin", "(II)V"⟩,
  .instanceMethod ⟨"FamilyKernel$Typer", "sortWithin", "(II)V"⟩,
  .selects "FamilyKernel$Typer" ⟨"FamilyKernel$Typer", "sortWithin", "(II)V"⟩ ⟨"FamilyKernel$Typer", "sortWithin", "(II)V"⟩,
  .code ⟨"FamilyKernel$Typer", "sortWithin", "(II)V"⟩ prog_12_method_6_code 4 none,
  .methodLink "FamilyKernel$Typer" 72 ⟨"FamilyKernel$Frames", "set", "(II)V"⟩,
  .methodLink "FamilyKernel$Typer" 75 ⟨"FamilyKernel$Terms", "behind", "(I)I"⟩,
  .methodLink "FamilyKernel$Typer" 78 ⟨"FamilyKernel$Terms", "head", "(I)I"⟩,
  .methodLink "FamilyKernel$Typer" 81 ⟨"FamilyKernel$Typer", "inferWithin", "(I)V"⟩,
  .instanceMethod ⟨"FamilyKernel$Typer", "inferWithin", "(I)V"⟩,
  .selects "FamilyKernel$Typer" ⟨"FamilyKernel$Typer", "inferWithin", "(I)V"⟩ ⟨"FamilyKernel$Typer", "inferWithin", "(I)V"⟩,
  .code ⟨"FamilyKernel$Typer", "inferWithin", "(I)V"⟩ prog_12_method_5_code 2 none,
  .methodLink "FamilyKernel$Typer" 84 ⟨"FamilyKernel$Terms", "make", "(III)I"⟩,
  .methodLink "FamilyKernel$Typer" 88 ⟨"FamilyKernel$Environment", "allows", "(II)Z"⟩,
  .instanceMethod ⟨"FamilyKernel$Environment", "allows", "(II)Z"⟩,
  .selects "FamilyKernel$Environment" ⟨"FamilyKernel$Environment", "allows", "(II)Z"⟩ ⟨"FamilyKernel$Environment", "allows", "(II)Z"⟩,
  .code ⟨"FamilyKernel$Environment", "allows", "(II)Z"⟩ prog_2_method_13_code 3 (some .boolean),
  .methodLink "FamilyKernel$Typer" 92 ⟨"FamilyKernel$Terms", "size", "(I)I"⟩,
  .methodLink "FamilyKernel$Typer" 95 ⟨"FamilyKernel$Meter", "charge", "(I)V"⟩,
  .methodLink "FamilyKernel$Typer" 98 ⟨"FamilyKernel$Terms", "rewrite", "(III)I"⟩,
  .methodLink "FamilyKernel$Typer" 101 ⟨"FamilyKernel$Frames", "push", "(IIII)V"⟩,
  .methodLink "FamilyKernel$Typer" 105 ⟨"FamilyKernel$Frames", "result", "()I"⟩,
  .methodLink "FamilyKernel$Typer" 112 ⟨"FamilyKernel$Typer", "openBody", "(I)I"⟩,
  .instanceMethod ⟨"FamilyKernel$Typer", "openBody", "(I)I"⟩,
  .selects "FamilyKernel$Typer" ⟨"FamilyKernel$Typer", "openBody", "(I)I"⟩ ⟨"FamilyKernel$Typer", "openBody", "(I)I"⟩,
  .code ⟨"FamilyKernel$Typer", "openBody", "(I)I"⟩ prog_12_method_11_code 3 (some .int),
  .methodLink "FamilyKernel$Typer" 109 ⟨"FamilyKernel$Frames", "newVariable", "(I)I"⟩,
  .methodLink "FamilyKernel$Typer" 115 ⟨"FamilyKernel$Frames", "dropVariable", "()I"⟩,
  .methodLink "FamilyKernel$Typer" 118 ⟨"java/lang/Math", "max", "(II)I"⟩,
  .methodLink "FamilyKernel$Typer" 123 ⟨"FamilyKernel$Typer", "checkWithin", "(III)V"⟩,
  .instanceMethod ⟨"FamilyKernel$Typer", "checkWithin", "(III)V"⟩,
  .selects "FamilyKernel$Typer" ⟨"FamilyKernel$Typer", "checkWithin", "(III)V"⟩ ⟨"FamilyKernel$Typer", "checkWithin", "(III)V"⟩,
  .code ⟨"FamilyKernel$Typer", "checkWithin", "(III)V"⟩ prog_12_method_7_code 5 none]
def vR_24 : List Cond := [.methodLink "FamilyKernel$Typer" 127 ⟨"FamilyKernel$Typer", "askFunction", "(I)V"⟩,
  .instanceMethod ⟨"FamilyKernel$Typer", "askFunction", "(I)V"⟩,
  .selects "FamilyKernel$Typer" ⟨"FamilyKernel$Typer", "askFunction", "(I)V"⟩ ⟨"FamilyKernel$Typer", "askFunction", "(I)V"⟩,
  .code ⟨"FamilyKernel$Typer", "askFunction", "(I)V"⟩ prog_12_method_19_code 2 none,
  .methodLink "FamilyKernel$Typer" 130 ⟨"FamilyKernel$Typer", "nextArgument", "()I"⟩,
  .instanceMethod ⟨"FamilyKernel$Typer", "nextArgument", "()I"⟩,
  .selects "FamilyKernel$Typer" ⟨"FamilyKernel$Typer", "nextArgument", "()I"⟩ ⟨"FamilyKernel$Typer", "nextArgument", "()I"⟩,
  .code ⟨"FamilyKernel$Typer", "nextArgument", "()I"⟩ prog_12_method_21_code 1 (some .int),
  .methodLink "FamilyKernel$Typer" 133 ⟨"FamilyKernel$Terms", "fromLast", "(II)I"⟩,
  .methodLink "FamilyKernel$Typer" 136 ⟨"FamilyKernel$Frames", "pop", "()V"⟩,
  .methodLink "FamilyKernel$Families" 53 ⟨"FamilyKernel$Parser", "declared", "()I"⟩,
  .instanceMethod ⟨"FamilyKernel$Parser", "declared", "()I"⟩,
  .selects "FamilyKernel$Parser" ⟨"FamilyKernel$Parser", "declared", "()I"⟩ ⟨"FamilyKernel$Parser", "declared", "()I"⟩,
  .code ⟨"FamilyKernel$Parser", "declared", "()I"⟩ prog_7_method_3_code 1 (some .int),
  .fieldLink "FamilyKernel$Families" 59 "FamilyKernel$Families" "family" "I",
  .methodLink "FamilyKernel$Families" 63 ⟨"FamilyKernel$Parser", "parameters", "()I"⟩,
  .instanceMethod ⟨"FamilyKernel$Parser", "parameters", "()I"⟩,
  .selects "FamilyKernel$Parser" ⟨"FamilyKernel$Parser", "parameters", "()I"⟩ ⟨"FamilyKernel$Parser", "parameters", "()I"⟩,
  .code ⟨"FamilyKernel$Parser", "parameters", "()I"⟩ prog_7_method_7_code 1 (some .int),
  .fieldLink "FamilyKernel$Families" 66 "FamilyKernel$Families" "parameters" "I",
  .methodLink "FamilyKernel$Families" 68 ⟨"FamilyKernel$Environment", "length", "()I"⟩,
  .fieldLink "FamilyKernel$Families" 73 "FamilyKernel$Families" "members" "I",
  .fieldLink "FamilyKernel$Families" 76 "FamilyKernel$Families" "indices" "I",
  .fieldLink "FamilyKernel$Families" 79 "FamilyKernel$Families" "at" "I",
  .methodLink "FamilyKernel$Families" 82 ⟨"FamilyKernel$Parser", "type", "()I"⟩,
  .methodLink "FamilyKernel$Families" 85 ⟨"FamilyKernel$Terms", "kind", "(I)I"⟩,
  .methodLink "FamilyKernel$Families" 91 ⟨"FamilyKernel$Terms", "right", "(I)I"⟩,
  .methodLink "FamilyKernel$Families" 94 ⟨"FamilyKernel$Meter", "fail", "(I)V"⟩,
  .methodLink "FamilyKernel$Families" 100 ⟨"FamilyKernel$Terms", "left", "(I)I"⟩,
  .fieldLink "FamilyKernel$Families" 103 "FamilyKernel$Families" "sort" "I",
  .methodLink "FamilyKernel$Families" 106 ⟨"FamilyKernel$Environment", "fix", "(III)V"⟩,
  .methodLink "FamilyKernel$Families" 110 ⟨"FamilyKernel$Environment", "fact", "(II)I"⟩,
  .methodLink "FamilyKernel$Families" 114 ⟨"FamilyKernel$Families", "sortOf", "(II)V"⟩,
  .instanceMethod ⟨"FamilyKernel$Families", "sortOf", "(II)V"⟩,
  .selects "FamilyKernel$Families" ⟨"FamilyKernel$Families", "sortOf", "(II)V"⟩ ⟨"FamilyKernel$Families", "sortOf", "(II)V"⟩,
  .code ⟨"FamilyKernel$Families", "sortOf", "(II)V"⟩ prog_3_method_3_code 3 none,
  .methodLink "FamilyKernel$Families" 119 ⟨"FamilyKernel$Frames", "set", "(II)V"⟩,
  .methodLink "FamilyKernel$Families" 122 ⟨"FamilyKernel$Frames", "push", "(IIII)V"⟩,
  .methodLink "FamilyKernel$Families" 126 ⟨"FamilyKernel$Frames", "pop", "()V"⟩,
  .methodLink "FamilyKernel$Families" 129 ⟨"FamilyKernel$Frames", "dropVariables", "()V"⟩]
def vR_25 : List Cond := [.instanceMethod ⟨"FamilyKernel$Frames", "dropVariables", "()V"⟩,
  .selects "FamilyKernel$Frames" ⟨"FamilyKernel$Frames", "dropVariables", "()V"⟩ ⟨"FamilyKernel$Frames", "dropVariables", "()V"⟩,
  .code ⟨"FamilyKernel$Frames", "dropVariables", "()V"⟩ prog_4_method_12_code 1 none,
  .methodLink "FamilyKernel$Families" 132 ⟨"FamilyKernel$Parser", "parameterType", "(I)I"⟩,
  .instanceMethod ⟨"FamilyKernel$Parser", "parameterType", "(I)I"⟩,
  .selects "FamilyKernel$Parser" ⟨"FamilyKernel$Parser", "parameterType", "(I)I"⟩ ⟨"FamilyKernel$Parser", "parameterType", "(I)I"⟩,
  .code ⟨"FamilyKernel$Parser", "parameterType", "(I)I"⟩ prog_7_method_8_code 2 (some .int),
  .methodLink "FamilyKernel$Families" 135 ⟨"FamilyKernel$Terms", "rewrite", "(III)I"⟩,
  .methodLink "FamilyKernel$Families" 139 ⟨"FamilyKernel$Frames", "newVariable", "(I)I"⟩,
  .methodLink "FamilyKernel$Families" 142 ⟨"FamilyKernel$Row", "cut", "(I)V"⟩,
  .methodLink "FamilyKernel$Families" 145 ⟨"FamilyKernel$Families", "memberTerm", "(I)I"⟩,
  .instanceMethod ⟨"FamilyKernel$Families", "memberTerm", "(I)I"⟩,
  .selects "FamilyKernel$Families" ⟨"FamilyKernel$Families", "memberTerm", "(I)I"⟩ ⟨"FamilyKernel$Families", "memberTerm", "(I)I"⟩,
  .code ⟨"FamilyKernel$Families", "memberTerm", "(I)I"⟩ prog_3_method_5_code 2 (some .int),
  .fieldLink "FamilyKernel$Families" 148 "FamilyKernel$Families" "rest" "I",
  .methodLink "FamilyKernel$Families" 151 ⟨"FamilyKernel$Families", "endsInFamily", "(I)Z"⟩,
  .instanceMethod ⟨"FamilyKernel$Families", "endsInFamily", "(I)Z"⟩,
  .selects "FamilyKernel$Families" ⟨"FamilyKernel$Families", "endsInFamily", "(I)Z"⟩ ⟨"FamilyKernel$Families", "endsInFamily", "(I)Z"⟩,
  .code ⟨"FamilyKernel$Families", "endsInFamily", "(I)Z"⟩ prog_3_method_11_code 7 (some .boolean),
  .methodLink "FamilyKernel$Families" 155 ⟨"FamilyKernel$Families", "constantAt", "()I"⟩,
  .instanceMethod ⟨"FamilyKernel$Families", "constantAt", "()I"⟩,
  .selects "FamilyKernel$Families" ⟨"FamilyKernel$Families", "constantAt", "()I"⟩ ⟨"FamilyKernel$Families", "constantAt", "()I"⟩,
  .code ⟨"FamilyKernel$Families", "constantAt", "()I"⟩ prog_3_method_4_code 1 (some .int),
  .methodLink "FamilyKernel$Families" 158 ⟨"FamilyKernel$Row", "size", "()I"⟩,
  .methodLink "FamilyKernel$Families" 161 ⟨"FamilyKernel$Families", "isDetermined", "()Z"⟩,
  .instanceMethod ⟨"FamilyKernel$Families", "isDetermined", "()Z"⟩,
  .selects "FamilyKernel$Families" ⟨"FamilyKernel$Families", "isDetermined", "()Z"⟩ ⟨"FamilyKernel$Families", "isDetermined", "()Z"⟩,
  .code ⟨"FamilyKernel$Families", "isDetermined", "()Z"⟩ prog_3_method_12_code 2 (some .boolean),
  .methodLink "FamilyKernel$Families" 165 ⟨"FamilyKernel$Parser", "overParameters", "(I)I"⟩,
  .methodLink "FamilyKernel$Families" 183 ⟨"FamilyKernel$Terms", "head", "(I)I"⟩,
  .methodLink "FamilyKernel$Families" 186 ⟨"FamilyKernel$Terms", "behind", "(I)I"⟩,
  .methodLink "FamilyKernel$Families" 189 ⟨"FamilyKernel$Terms", "fromLast", "(II)I"⟩,
  .methodLink "FamilyKernel$Families" 171 ⟨"FamilyKernel$Terms", "has", "(III)Z"⟩,
  .instanceMethod ⟨"FamilyKernel$Terms", "has", "(III)Z"⟩,
  .selects "FamilyKernel$Terms" ⟨"FamilyKernel$Terms", "has", "(III)Z"⟩ ⟨"FamilyKernel$Terms", "has", "(III)Z"⟩,
  .code ⟨"FamilyKernel$Terms", "has", "(III)Z"⟩ prog_11_method_22_code 8 (some .boolean),
  .methodLink "FamilyKernel$Families" 192 ⟨"FamilyKernel$Row", "at", "(I)I"⟩,
  .methodLink "FamilyKernel$Families" 180 ⟨"FamilyKernel$Terms", "make", "(III)I"⟩,
  .methodLink "FamilyKernel$Families" 194 ⟨"FamilyKernel$Families", "isIndex", "(I)Z"⟩,
  .instanceMethod ⟨"FamilyKernel$Families", "isIndex", "(I)Z"⟩]
def vR_26 : List Cond := [.selects "FamilyKernel$Families" ⟨"FamilyKernel$Families", "isIndex", "(I)Z"⟩ ⟨"FamilyKernel$Families", "isIndex", "(I)Z"⟩,
  .code ⟨"FamilyKernel$Families", "isIndex", "(I)Z"⟩ prog_3_method_13_code 3 (some .boolean),
  .methodLink "FamilyKernel$Families" 168 ⟨"FamilyKernel$Frames", "result", "()I"⟩,
  .methodLink "FamilyKernel$Families" 175 ⟨"FamilyKernel$Families", "isRecursive", "(I)Z"⟩,
  .instanceMethod ⟨"FamilyKernel$Families", "isRecursive", "(I)Z"⟩,
  .selects "FamilyKernel$Families" ⟨"FamilyKernel$Families", "isRecursive", "(I)Z"⟩ ⟨"FamilyKernel$Families", "isRecursive", "(I)Z"⟩,
  .code ⟨"FamilyKernel$Families", "isRecursive", "(I)Z"⟩ prog_3_method_10_code 4 (some .boolean),
  .methodLink "FamilyKernel$Families" 178 ⟨"FamilyKernel$Row", "push", "(I)V"⟩,
  .methodLink "FamilyKernel$Families" 197 ⟨"FamilyKernel$Families", "payOpenings", "()V"⟩,
  .instanceMethod ⟨"FamilyKernel$Families", "payOpenings", "()V"⟩,
  .selects "FamilyKernel$Families" ⟨"FamilyKernel$Families", "payOpenings", "()V"⟩ ⟨"FamilyKernel$Families", "payOpenings", "()V"⟩,
  .code ⟨"FamilyKernel$Families", "payOpenings", "()V"⟩ prog_3_method_15_code 4 none,
  .methodLink "FamilyKernel$Families" 200 ⟨"FamilyKernel$Parser", "nodes", "()I"⟩,
  .instanceMethod ⟨"FamilyKernel$Parser", "nodes", "()I"⟩,
  .selects "FamilyKernel$Parser" ⟨"FamilyKernel$Parser", "nodes", "()I"⟩ ⟨"FamilyKernel$Parser", "nodes", "()I"⟩,
  .code ⟨"FamilyKernel$Parser", "nodes", "()I"⟩ prog_7_method_6_code 1 (some .int),
  .methodLink "FamilyKernel$Families" 203 ⟨"FamilyKernel$Terms", "release", "(I)V"⟩,
  .methodLink "FamilyKernel$Families" 206 ⟨"FamilyKernel$Families", "buildMotive", "()V"⟩,
  .instanceMethod ⟨"FamilyKernel$Families", "buildMotive", "()V"⟩,
  .selects "FamilyKernel$Families" ⟨"FamilyKernel$Families", "buildMotive", "()V"⟩ ⟨"FamilyKernel$Families", "buildMotive", "()V"⟩,
  .code ⟨"FamilyKernel$Families", "buildMotive", "()V"⟩ prog_3_method_21_code 4 none,
  .methodLink "FamilyKernel$Families" 209 ⟨"FamilyKernel$Families", "minor", "(I)I"⟩,
  .instanceMethod ⟨"FamilyKernel$Families", "minor", "(I)I"⟩,
  .selects "FamilyKernel$Families" ⟨"FamilyKernel$Families", "minor", "(I)I"⟩ ⟨"FamilyKernel$Families", "minor", "(I)I"⟩,
  .code ⟨"FamilyKernel$Families", "minor", "(I)I"⟩ prog_3_method_22_code 8 (some .int),
  .methodLink "FamilyKernel$Families" 212 ⟨"FamilyKernel$Environment", "sizes", "()I"⟩,
  .instanceMethod ⟨"FamilyKernel$Environment", "sizes", "()I"⟩,
  .selects "FamilyKernel$Environment" ⟨"FamilyKernel$Environment", "sizes", "()I"⟩ ⟨"FamilyKernel$Environment", "sizes", "()I"⟩,
  .code ⟨"FamilyKernel$Environment", "sizes", "()I"⟩ prog_2_method_3_code 1 (some .int),
  .methodLink "FamilyKernel$Families" 215 ⟨"FamilyKernel$Terms", "size", "(I)I"⟩,
  .methodLink "FamilyKernel$Families" 217 ⟨"FamilyKernel$Families", "recursorType", "()I"⟩,
  .instanceMethod ⟨"FamilyKernel$Families", "recursorType", "()I"⟩,
  .selects "FamilyKernel$Families" ⟨"FamilyKernel$Families", "recursorType", "()I"⟩ ⟨"FamilyKernel$Families", "recursorType", "()I"⟩,
  .code ⟨"FamilyKernel$Families", "recursorType", "()I"⟩ prog_3_method_24_code 7 (some .int),
  .methodLink "FamilyKernel$Families" 220 ⟨"FamilyKernel$Families", "rule", "(I)I"⟩,
  .instanceMethod ⟨"FamilyKernel$Families", "rule", "(I)I"⟩,
  .selects "FamilyKernel$Families" ⟨"FamilyKernel$Families", "rule", "(I)I"⟩ ⟨"FamilyKernel$Families", "rule", "(I)I"⟩,
  .code ⟨"FamilyKernel$Families", "rule", "(I)I"⟩ prog_3_method_25_code 8 (some .int),
  .methodLink "FamilyKernel$Families" 223 ⟨"FamilyKernel$Environment", "addSizes", "(I)V"⟩,
  .instanceMethod ⟨"FamilyKernel$Environment", "addSizes", "(I)V"⟩]
def vR_27 : List Cond := [.selects "FamilyKernel$Environment" ⟨"FamilyKernel$Environment", "addSizes", "(I)V"⟩ ⟨"FamilyKernel$Environment", "addSizes", "(I)V"⟩,
  .code ⟨"FamilyKernel$Environment", "addSizes", "(I)V"⟩ prog_2_method_4_code 2 none,
  .methodLink "FamilyKernel$Families" 226 ⟨"FamilyKernel$Meter", "charge", "(I)V"⟩,
  .methodLink "FamilyKernel$Families" 229 ⟨"FamilyKernel$Families", "split", "(ILFamilyKernel$Row;)I"⟩,
  .instanceMethod ⟨"FamilyKernel$Families", "split", "(ILFamilyKernel$Row;)I"⟩,
  .selects "FamilyKernel$Families" ⟨"FamilyKernel$Families", "split", "(ILFamilyKernel$Row;)I"⟩ ⟨"FamilyKernel$Families", "split", "(ILFamilyKernel$Row;)I"⟩,
  .code ⟨"FamilyKernel$Families", "split", "(ILFamilyKernel$Row;)I"⟩ prog_3_method_20_code 5 (some .int),
  .methodLink "FamilyKernel$Families" 233 ⟨"FamilyKernel$Families", "applied", "(IIII)I"⟩,
  .instanceMethod ⟨"FamilyKernel$Families", "applied", "(IIII)I"⟩,
  .selects "FamilyKernel$Families" ⟨"FamilyKernel$Families", "applied", "(IIII)I"⟩ ⟨"FamilyKernel$Families", "applied", "(IIII)I"⟩,
  .code ⟨"FamilyKernel$Families", "applied", "(IIII)I"⟩ prog_3_method_17_code 8 (some .int),
  .methodLink "FamilyKernel$Families" 237 ⟨"FamilyKernel$Families", "bound", "(ILFamilyKernel$Row;I)I"⟩,
  .instanceMethod ⟨"FamilyKernel$Families", "bound", "(ILFamilyKernel$Row;I)I"⟩,
  .selects "FamilyKernel$Families" ⟨"FamilyKernel$Families", "bound", "(ILFamilyKernel$Row;I)I"⟩ ⟨"FamilyKernel$Families", "bound", "(ILFamilyKernel$Row;I)I"⟩,
  .code ⟨"FamilyKernel$Families", "bound", "(ILFamilyKernel$Row;I)I"⟩ prog_3_method_19_code 6 (some .int),
  .fieldLink "FamilyKernel$Families" 241 "FamilyKernel$Families" "motive" "I",
  .methodLink "FamilyKernel$Families" 244 ⟨"FamilyKernel$Families", "hypothesis", "(IIII)I"⟩,
  .instanceMethod ⟨"FamilyKernel$Families", "hypothesis", "(IIII)I"⟩,
  .selects "FamilyKernel$Families" ⟨"FamilyKernel$Families", "hypothesis", "(IIII)I"⟩ ⟨"FamilyKernel$Families", "hypothesis", "(IIII)I"⟩,
  .code ⟨"FamilyKernel$Families", "hypothesis", "(IIII)I"⟩ prog_3_method_23_code 10 (some .int),
  .methodLink "FamilyKernel$Families" 247 ⟨"FamilyKernel$Families", "variable", "(II)I"⟩,
  .instanceMethod ⟨"FamilyKernel$Families", "variable", "(II)I"⟩,
  .selects "FamilyKernel$Families" ⟨"FamilyKernel$Families", "variable", "(II)I"⟩ ⟨"FamilyKernel$Families", "variable", "(II)I"⟩,
  .code ⟨"FamilyKernel$Families", "variable", "(II)I"⟩ prog_3_method_16_code 3 (some .int),
  .methodLink "FamilyKernel$Families" 250 ⟨"FamilyKernel$Families", "withIndices", "(III)I"⟩,
  .instanceMethod ⟨"FamilyKernel$Families", "withIndices", "(III)I"⟩,
  .selects "FamilyKernel$Families" ⟨"FamilyKernel$Families", "withIndices", "(III)I"⟩ ⟨"FamilyKernel$Families", "withIndices", "(III)I"⟩,
  .code ⟨"FamilyKernel$Families", "withIndices", "(III)I"⟩ prog_3_method_18_code 7 (some .int),
  .fieldLink "FamilyKernel$Environment" 28 "FamilyKernel$Environment" "sizes" "I",
  .methodLink "FamilyKernel" 302 ⟨"FamilyKernel$Frames", "result", "()I"⟩,
  .methodLink "FamilyKernel" 305 ⟨"FamilyKernel$Printer", "print", "(II)V"⟩,
  .instanceMethod ⟨"FamilyKernel$Printer", "print", "(II)V"⟩,
  .selects "FamilyKernel$Printer" ⟨"FamilyKernel$Printer", "print", "(II)V"⟩ ⟨"FamilyKernel$Printer", "print", "(II)V"⟩,
  .code ⟨"FamilyKernel$Printer", "print", "(II)V"⟩ prog_8_method_3_code 7 none,
  .methodLink "FamilyKernel" 308 ⟨"FamilyKernel$Parser", "declared", "()I"⟩,
  .methodLink "FamilyKernel" 310 ⟨"FamilyKernel", "keepConstant", "()V"⟩,
  .instanceMethod ⟨"FamilyKernel", "keepConstant", "()V"⟩,
  .selects "FamilyKernel" ⟨"FamilyKernel", "keepConstant", "()V"⟩ ⟨"FamilyKernel", "keepConstant", "()V"⟩,
  .code ⟨"FamilyKernel", "keepConstant", "()V"⟩ prog_1_method_8_code 4 none,
  .methodLink "FamilyKernel$Printer" 32 ⟨"FamilyKernel$Row", "cut", "(I)V"⟩]
def vR_28 : List Cond := [.methodLink "FamilyKernel$Printer" 39 ⟨"FamilyKernel$Printer", "later", "(III)V"⟩,
  .instanceMethod ⟨"FamilyKernel$Printer", "later", "(III)V"⟩,
  .selects "FamilyKernel$Printer" ⟨"FamilyKernel$Printer", "later", "(III)V"⟩ ⟨"FamilyKernel$Printer", "later", "(III)V"⟩,
  .code ⟨"FamilyKernel$Printer", "later", "(III)V"⟩ prog_8_method_4_code 4 none,
  .methodLink "FamilyKernel$Printer" 43 ⟨"FamilyKernel$Row", "size", "()I"⟩,
  .methodLink "FamilyKernel$Printer" 47 ⟨"FamilyKernel$Row", "pop", "()I"⟩,
  .methodLink "FamilyKernel$Printer" 50 ⟨"FamilyKernel$Printer", "piece", "(I)V"⟩,
  .instanceMethod ⟨"FamilyKernel$Printer", "piece", "(I)V"⟩,
  .selects "FamilyKernel$Printer" ⟨"FamilyKernel$Printer", "piece", "(I)V"⟩ ⟨"FamilyKernel$Printer", "piece", "(I)V"⟩,
  .code ⟨"FamilyKernel$Printer", "piece", "(I)V"⟩ prog_8_method_10_code 2 none,
  .methodLink "FamilyKernel$Printer" 53 ⟨"FamilyKernel$Terms", "kind", "(I)I"⟩,
  .methodLink "FamilyKernel$Printer" 59 ⟨"FamilyKernel$Printer", "needsBrackets", "(II)Z"⟩,
  .static ⟨"FamilyKernel$Printer", "needsBrackets", "(II)Z"⟩,
  .code ⟨"FamilyKernel$Printer", "needsBrackets", "(II)Z"⟩ prog_8_method_5_code 2 (some .boolean),
  .methodLink "FamilyKernel$Printer" 63 ⟨"FamilyKernel$Row", "push", "(I)V"⟩,
  .methodLink "FamilyKernel$Printer" 66 ⟨"FamilyKernel$Printer", "write", "(III)V"⟩,
  .instanceMethod ⟨"FamilyKernel$Printer", "write", "(III)V"⟩,
  .selects "FamilyKernel$Printer" ⟨"FamilyKernel$Printer", "write", "(III)V"⟩ ⟨"FamilyKernel$Printer", "write", "(III)V"⟩,
  .code ⟨"FamilyKernel$Printer", "write", "(III)V"⟩ prog_8_method_11_code 5 none,
  .methodLink "FamilyKernel$Printer" 89 ⟨"FamilyKernel$Printer", "text", "(Ljava/lang/String;)V"⟩,
  .instanceMethod ⟨"FamilyKernel$Printer", "text", "(Ljava/lang/String;)V"⟩,
  .selects "FamilyKernel$Printer" ⟨"FamilyKernel$Printer", "text", "(Ljava/lang/String;)V"⟩ ⟨"FamilyKernel$Printer", "text", "(Ljava/lang/String;)V"⟩,
  .code ⟨"FamilyKernel$Printer", "text", "(Ljava/lang/String;)V"⟩ prog_8_method_6_code 3 none,
  .methodLink "FamilyKernel$Printer" 69 ⟨"java/lang/String", "length", "()I"⟩,
  .methodLink "FamilyKernel$Printer" 74 ⟨"java/lang/String", "charAt", "(I)C"⟩,
  .methodLink "FamilyKernel$Printer" 112 ⟨"FamilyKernel$Terms", "left", "(I)I"⟩,
  .methodLink "FamilyKernel$Printer" 95 ⟨"FamilyKernel$Printer", "number", "(I)V"⟩,
  .instanceMethod ⟨"FamilyKernel$Printer", "number", "(I)V"⟩,
  .selects "FamilyKernel$Printer" ⟨"FamilyKernel$Printer", "number", "(I)V"⟩ ⟨"FamilyKernel$Printer", "number", "(I)V"⟩,
  .code ⟨"FamilyKernel$Printer", "number", "(I)V"⟩ prog_8_method_7_code 3 none,
  .methodLink "FamilyKernel$Printer" 115 ⟨"FamilyKernel$Printer", "sort", "(I)V"⟩,
  .instanceMethod ⟨"FamilyKernel$Printer", "sort", "(I)V"⟩,
  .selects "FamilyKernel$Printer" ⟨"FamilyKernel$Printer", "sort", "(I)V"⟩ ⟨"FamilyKernel$Printer", "sort", "(I)V"⟩,
  .code ⟨"FamilyKernel$Printer", "sort", "(I)V"⟩ prog_8_method_9_code 2 none,
  .methodLink "FamilyKernel$Printer" 36 ⟨"FamilyKernel$Printer", "name", "(I)V"⟩,
  .instanceMethod ⟨"FamilyKernel$Printer", "name", "(I)V"⟩,
  .selects "FamilyKernel$Printer" ⟨"FamilyKernel$Printer", "name", "(I)V"⟩ ⟨"FamilyKernel$Printer", "name", "(I)V"⟩,
  .code ⟨"FamilyKernel$Printer", "name", "(I)V"⟩ prog_8_method_8_code 3 none,
  .methodLink "FamilyKernel$Printer" 120 ⟨"FamilyKernel$Terms", "right", "(I)I"⟩,
  .methodLink "FamilyKernel$Printer" 123 ⟨"FamilyKernel$Printer", "writeLet", "(II)V"⟩]
def vR_29 : List Cond := [.instanceMethod ⟨"FamilyKernel$Printer", "writeLet", "(II)V"⟩,
  .selects "FamilyKernel$Printer" ⟨"FamilyKernel$Printer", "writeLet", "(II)V"⟩ ⟨"FamilyKernel$Printer", "writeLet", "(II)V"⟩,
  .code ⟨"FamilyKernel$Printer", "writeLet", "(II)V"⟩ prog_8_method_13_code 4 none,
  .methodLink "FamilyKernel$Printer" 126 ⟨"FamilyKernel$Printer", "writeBinder", "(II)V"⟩,
  .instanceMethod ⟨"FamilyKernel$Printer", "writeBinder", "(II)V"⟩,
  .selects "FamilyKernel$Printer" ⟨"FamilyKernel$Printer", "writeBinder", "(II)V"⟩ ⟨"FamilyKernel$Printer", "writeBinder", "(II)V"⟩,
  .code ⟨"FamilyKernel$Printer", "writeBinder", "(II)V"⟩ prog_8_method_12_code 5 none,
  .methodLink "FamilyKernel$Printer" 78 ⟨"FamilyKernel$Environment", "nameLength", "(I)I"⟩,
  .instanceMethod ⟨"FamilyKernel$Environment", "nameLength", "(I)I"⟩,
  .selects "FamilyKernel$Environment" ⟨"FamilyKernel$Environment", "nameLength", "(I)I"⟩ ⟨"FamilyKernel$Environment", "nameLength", "(I)I"⟩,
  .code ⟨"FamilyKernel$Environment", "nameLength", "(I)I"⟩ prog_2_method_11_code 2 (some .int),
  .methodLink "FamilyKernel$Printer" 83 ⟨"FamilyKernel$Environment", "nameByte", "(II)I"⟩,
  .instanceMethod ⟨"FamilyKernel$Environment", "nameByte", "(II)I"⟩,
  .selects "FamilyKernel$Environment" ⟨"FamilyKernel$Environment", "nameByte", "(II)I"⟩ ⟨"FamilyKernel$Environment", "nameByte", "(II)I"⟩,
  .code ⟨"FamilyKernel$Environment", "nameByte", "(II)I"⟩ prog_2_method_12_code 3 (some .int),
  .methodLink "FamilyKernel$Environment" 74 ⟨"FamilyKernel$Lexer", "lengthOf", "(I)I"⟩,
  .methodLink "FamilyKernel$Environment" 66 ⟨"FamilyKernel$Lexer", "startOf", "(I)I"⟩,
  .methodLink "FamilyKernel$Printer" 129 ⟨"FamilyKernel$Terms", "has", "(III)Z"⟩,
  .methodLink "FamilyKernel" 313 ⟨"FamilyKernel$Terms", "size", "(I)I"⟩,
  .methodLink "FamilyKernel" 315 ⟨"FamilyKernel$Environment", "sizes", "()I"⟩,
  .methodLink "FamilyKernel" 318 ⟨"FamilyKernel$Environment", "fix", "(III)V"⟩,
  .methodLink "FamilyKernel" 321 ⟨"FamilyKernel$Environment", "addSizes", "(I)V"⟩,
  .methodLink "FamilyKernel" 324 ⟨"FamilyKernel$Parser", "nodes", "()I"⟩,
  .methodLink "FamilyKernel$Environment" 69 ⟨"FamilyKernel$Row", "cut", "(I)V"⟩,
  .methodLink "FamilyKernel" 327 ⟨"FamilyKernel$Meter", "code", "()I"⟩,
  .instanceMethod ⟨"FamilyKernel$Meter", "code", "()I"⟩,
  .selects "FamilyKernel$Meter" ⟨"FamilyKernel$Meter", "code", "()I"⟩ ⟨"FamilyKernel$Meter", "code", "()I"⟩,
  .code ⟨"FamilyKernel$Meter", "code", "()I"⟩ prog_6_method_5_code 1 (some .int),
  .methodLink "FamilyKernel" 330 ⟨"FamilyKernel$Meter", "place", "()I"⟩,
  .instanceMethod ⟨"FamilyKernel$Meter", "place", "()I"⟩,
  .selects "FamilyKernel$Meter" ⟨"FamilyKernel$Meter", "place", "()I"⟩ ⟨"FamilyKernel$Meter", "place", "()I"⟩,
  .code ⟨"FamilyKernel$Meter", "place", "()I"⟩ prog_6_method_6_code 1 (some .int),
  .code ⟨"FamilyKernel", "fault", "(I)I"⟩ prog_1_method_9_code 2 (some .int),
  .methodLink "FamilyKernel" 333 ⟨"FamilyKernel$Environment", "clear", "()V"⟩,
  .instanceMethod ⟨"FamilyKernel$Environment", "clear", "()V"⟩,
  .selects "FamilyKernel$Environment" ⟨"FamilyKernel$Environment", "clear", "()V"⟩ ⟨"FamilyKernel$Environment", "clear", "()V"⟩,
  .code ⟨"FamilyKernel$Environment", "clear", "()V"⟩ prog_2_method_5_code 1 none,
  .code ⟨"FamilyKernel", "reset", "()I"⟩ prog_1_method_10_code 2 (some .int),
  .methodLink "FamilyKernel$Environment" 32 ⟨"FamilyKernel$Environment", "cut", "(I)V"⟩,
  .methodLink "FamilyKernel" 104 ⟨"FamilyKernel$Row", "size", "()I"⟩]
def vR_30 : List Cond := [.code ⟨"FamilyKernel", "count", "(I)I"⟩ prog_1_method_15_code 2 (some .int),
  .methodLink "FamilyKernelLaw" 7 ⟨"FamilyKernel", "feed", "(IIIII)I"⟩,
  .instanceMethod ⟨"FamilyKernel", "feed", "(IIIII)I"⟩,
  .selects "FamilyKernel" ⟨"FamilyKernel", "feed", "(IIIII)I"⟩ ⟨"FamilyKernel", "feed", "(IIIII)I"⟩,
  .code ⟨"FamilyKernel", "feed", "(IIIII)I"⟩ prog_1_method_2_code 6 (some .int),
  .codeWith ⟨"FamilyKernelLaw", "feed", "(LFamilyKernel;IIIII[J)I"⟩ method_3_code 8 (some .int) [(0, 16, 19, 13)],
  .classLink "FamilyKernel" 108 "java/lang/IllegalStateException",
  .methodLink "FamilyKernel" 110 ⟨"java/lang/IllegalStateException", "<init>", "()V"⟩,
  .methodLink "FamilyKernel" 111 ⟨"FamilyKernel", "takeBytes", "(I)V"⟩,
  .instanceMethod ⟨"FamilyKernel", "takeBytes", "(I)V"⟩,
  .selects "FamilyKernel" ⟨"FamilyKernel", "takeBytes", "(I)V"⟩ ⟨"FamilyKernel", "takeBytes", "(I)V"⟩,
  .code ⟨"FamilyKernel", "takeBytes", "(I)V"⟩ prog_1_method_3_code 3 none,
  .methodLink "FamilyKernel" 115 ⟨"FamilyKernel$Row", "push", "(I)V"⟩,
  .methodLink "FamilyKernelLaw" 15 ⟨"FamilyKernel", "end", "(I)I"⟩,
  .instanceMethod ⟨"FamilyKernel", "end", "(I)I"⟩,
  .selects "FamilyKernel" ⟨"FamilyKernel", "end", "(I)I"⟩ ⟨"FamilyKernel", "end", "(I)I"⟩,
  .code ⟨"FamilyKernel", "end", "(I)I"⟩ prog_1_method_4_code 2 (some .int),
  .codeWith ⟨"FamilyKernelLaw", "end", "(LFamilyKernel;I[J)I"⟩ method_4_code 4 (some .int) [(0, 9, 12, 19)],
  .classLink "FamilyKernel" 118 "java/lang/IllegalArgumentException",
  .initialized "java/lang/IllegalArgumentException",
  .instantiable "java/lang/IllegalArgumentException" 6,
  .methodLink "FamilyKernel" 120 ⟨"java/lang/IllegalArgumentException", "<init>", "()V"⟩,
  .instanceMethod ⟨"java/lang/IllegalArgumentException", "<init>", "()V"⟩,
  .code ⟨"java/lang/IllegalArgumentException", "<init>", "()V"⟩ prog_18_method_1_code 1 none,
  .methodLink "FamilyKernelLaw" 21 ⟨"FamilyKernel", "constant", "(II)I"⟩,
  .instanceMethod ⟨"FamilyKernel", "constant", "(II)I"⟩,
  .selects "FamilyKernel" ⟨"FamilyKernel", "constant", "(II)I"⟩ ⟨"FamilyKernel", "constant", "(II)I"⟩,
  .code ⟨"FamilyKernel", "constant", "(II)I"⟩ prog_1_method_11_code 4 (some .int),
  .codeWith ⟨"FamilyKernelLaw", "constant", "(LFamilyKernel;II[J)I"⟩ method_5_code 5 (some .int) [(0, 10, 13, 25), (0, 10, 17, 19)],
  .classLink "FamilyKernel" 336 "java/util/NoSuchElementException",
  .initialized "java/util/NoSuchElementException",
  .instantiable "java/util/NoSuchElementException" 6,
  .methodLink "FamilyKernel" 338 ⟨"java/util/NoSuchElementException", "<init>", "()V"⟩,
  .instanceMethod ⟨"java/util/NoSuchElementException", "<init>", "()V"⟩,
  .code ⟨"java/util/NoSuchElementException", "<init>", "()V"⟩ prog_29_method_1_code 1 none,
  .methodLink "FamilyKernel" 339 ⟨"FamilyKernel$Environment", "fact", "(II)I"⟩,
  .methodLink "FamilyKernelLaw" 27 ⟨"FamilyKernel", "show", "(II)I"⟩,
  .instanceMethod ⟨"FamilyKernel", "show", "(II)I"⟩,
  .selects "FamilyKernel" ⟨"FamilyKernel", "show", "(II)I"⟩ ⟨"FamilyKernel", "show", "(II)I"⟩,
  .code ⟨"FamilyKernel", "show", "(II)I"⟩ prog_1_method_12_code 3 (some .int)]
def vR_31 : List Cond := [.codeWith ⟨"FamilyKernelLaw", "show", "(LFamilyKernel;II[J)I"⟩ method_6_code 5 (some .int) [(0, 10, 13, 25), (0, 10, 17, 19)],
  .methodLink "FamilyKernel" 343 ⟨"FamilyKernel$Printer", "printName", "(I)V"⟩,
  .instanceMethod ⟨"FamilyKernel$Printer", "printName", "(I)V"⟩,
  .selects "FamilyKernel$Printer" ⟨"FamilyKernel$Printer", "printName", "(I)V"⟩ ⟨"FamilyKernel$Printer", "printName", "(I)V"⟩,
  .code ⟨"FamilyKernel$Printer", "printName", "(I)V"⟩ prog_8_method_2_code 2 none,
  .methodLink "FamilyKernelLaw" 30 ⟨"FamilyKernel", "showRec", "(II)I"⟩,
  .instanceMethod ⟨"FamilyKernel", "showRec", "(II)I"⟩,
  .selects "FamilyKernel" ⟨"FamilyKernel", "showRec", "(II)I"⟩ ⟨"FamilyKernel", "showRec", "(II)I"⟩,
  .code ⟨"FamilyKernel", "showRec", "(II)I"⟩ prog_1_method_13_code 4 (some .int),
  .codeWith ⟨"FamilyKernelLaw", "showRec", "(LFamilyKernel;II[J)I"⟩ method_7_code 5 (some .int) [(0, 10, 13, 25)],
  .methodLink "FamilyKernel" 346 ⟨"FamilyKernel$Environment", "allows", "(II)Z"⟩,
  .methodLink "FamilyKernelLaw" 33 ⟨"FamilyKernel", "out", "(I)I"⟩,
  .instanceMethod ⟨"FamilyKernel", "out", "(I)I"⟩,
  .selects "FamilyKernel" ⟨"FamilyKernel", "out", "(I)I"⟩ ⟨"FamilyKernel", "out", "(I)I"⟩,
  .code ⟨"FamilyKernel", "out", "(I)I"⟩ prog_1_method_14_code 2 (some .int),
  .codeWith ⟨"FamilyKernelLaw", "out", "(LFamilyKernel;I[J)I"⟩ method_8_code 4 (some .int) [(0, 9, 12, 36)],
  .classLink "FamilyKernel" 350 "java/lang/IndexOutOfBoundsException",
  .initialized "java/lang/IndexOutOfBoundsException",
  .instantiable "java/lang/IndexOutOfBoundsException" 6,
  .methodLink "FamilyKernel" 352 ⟨"java/lang/IndexOutOfBoundsException", "<init>", "()V"⟩,
  .instanceMethod ⟨"java/lang/IndexOutOfBoundsException", "<init>", "()V"⟩,
  .code ⟨"java/lang/IndexOutOfBoundsException", "<init>", "()V"⟩ prog_20_method_1_code 1 none,
  .methodLink "FamilyKernel" 353 ⟨"FamilyKernel$Row", "at", "(I)I"⟩,
  .methodLink "FamilyKernelModel" 7 ⟨"java/lang/Object", "<init>", "()V"⟩,
  .constant "FamilyKernelModel" 12 65536,
  .arrayClass .byte,
  .fieldLink "FamilyKernelModel" 13 "FamilyKernelModel" "tape" "[B",
  .fieldLink "FamilyKernelModel" 19 "FamilyKernelModel" "out" "[B",
  .fieldLink "FamilyKernelModel" 22 "FamilyKernelModel" "size" "I",
  .fieldLink "FamilyKernelModel" 26 "FamilyKernelModel" "outSize" "I",
  .fieldLink "FamilyKernelModel" 29 "FamilyKernelModel" "thrown" "I",
  .fieldLink "FamilyKernelModel" 32 "FamilyKernelModel" "faultKind" "I",
  .fieldLink "FamilyKernelModel" 35 "FamilyKernelModel" "faultPlace" "I",
  .fieldLink "FamilyKernelModel" 38 "FamilyKernelModel" "pos" "I",
  .fieldLink "FamilyKernelModel" 41 "FamilyKernelModel" "token" "I",
  .fieldLink "FamilyKernelModel" 44 "FamilyKernelModel" "tokenAt" "I",
  .fieldLink "FamilyKernelModel" 47 "FamilyKernelModel" "tokenEnd" "I",
  .fieldLink "FamilyKernelModel" 50 "FamilyKernelModel" "seen" "Z",
  .constant "FamilyKernelModel" 54 400000,
  .fieldLink "FamilyKernelModel" 55 "FamilyKernelModel" "kind" "[B"]
def vR_32 : List Cond := [.fieldLink "FamilyKernelModel" 58 "FamilyKernelModel" "one" "[I",
  .fieldLink "FamilyKernelModel" 62 "FamilyKernelModel" "two" "[I",
  .fieldLink "FamilyKernelModel" 65 "FamilyKernelModel" "three" "[I",
  .fieldLink "FamilyKernelModel" 68 "FamilyKernelModel" "big" "[I",
  .fieldLink "FamilyKernelModel" 71 "FamilyKernelModel" "deep" "[I",
  .fieldLink "FamilyKernelModel" 74 "FamilyKernelModel" "top" "I",
  .fieldLink "FamilyKernelModel" 77 "FamilyKernelModel" "spine" "[I",
  .fieldLink "FamilyKernelModel" 80 "FamilyKernelModel" "spineTop" "I",
  .fieldLink "FamilyKernelModel" 83 "FamilyKernelModel" "mapHow" "I",
  .fieldLink "FamilyKernelModel" 86 "FamilyKernelModel" "mapWhat" "I",
  .fieldLink "FamilyKernelModel" 89 "FamilyKernelModel" "mapTo" "I",
  .fieldLink "FamilyKernelModel" 92 "FamilyKernelModel" "words" "[B",
  .fieldLink "FamilyKernelModel" 95 "FamilyKernelModel" "wordAt" "[I",
  .fieldLink "FamilyKernelModel" 98 "FamilyKernelModel" "wordSize" "[I",
  .fieldLink "FamilyKernelModel" 101 "FamilyKernelModel" "wordsUsed" "I",
  .fieldLink "FamilyKernelModel" 104 "FamilyKernelModel" "constants" "I",
  .fieldLink "FamilyKernelModel" 107 "FamilyKernelModel" "sortOf" "[I",
  .fieldLink "FamilyKernelModel" 110 "FamilyKernelModel" "typeOf" "[I",
  .fieldLink "FamilyKernelModel" 113 "FamilyKernelModel" "valueOf" "[I",
  .fieldLink "FamilyKernelModel" 116 "FamilyKernelModel" "parameters" "[I",
  .fieldLink "FamilyKernelModel" 119 "FamilyKernelModel" "indices" "[I",
  .fieldLink "FamilyKernelModel" 122 "FamilyKernelModel" "constructors" "[I",
  .fieldLink "FamilyKernelModel" 125 "FamilyKernelModel" "arguments" "[I",
  .fieldLink "FamilyKernelModel" 128 "FamilyKernelModel" "recursive" "[I",
  .fieldLink "FamilyKernelModel" 131 "FamilyKernelModel" "level" "[I",
  .fieldLink "FamilyKernelModel" 134 "FamilyKernelModel" "recType" "[I",
  .fieldLink "FamilyKernelModel" 137 "FamilyKernelModel" "rule" "[I",
  .fieldLink "FamilyKernelModel" 140 "FamilyKernelModel" "family" "[I",
  .arrayClass .boolean,
  .fieldLink "FamilyKernelModel" 143 "FamilyKernelModel" "large" "[Z",
  .fieldLink "FamilyKernelModel" 147 "FamilyKernelModel" "kept" "I",
  .fieldLink "FamilyKernelModel" 150 "FamilyKernelModel" "sizes" "I",
  .fieldLink "FamilyKernelModel" 153 "FamilyKernelModel" "scopeAt" "[I",
  .fieldLink "FamilyKernelModel" 156 "FamilyKernelModel" "scopeSize" "[I",
  .fieldLink "FamilyKernelModel" 159 "FamilyKernelModel" "scopes" "I",
  .fieldLink "FamilyKernelModel" 162 "FamilyKernelModel" "typeStack" "[I",
  .fieldLink "FamilyKernelModel" 165 "FamilyKernelModel" "pendingAt" "[I",
  .fieldLink "FamilyKernelModel" 168 "FamilyKernelModel" "pendingSize" "[I",
  .fieldLink "FamilyKernelModel" 171 "FamilyKernelModel" "heldAt" "[I",
  .fieldLink "FamilyKernelModel" 174 "FamilyKernelModel" "heldSize" "[I"]
def vR_33 : List Cond := [.fieldLink "FamilyKernelModel" 177 "FamilyKernelModel" "pendingHeld" "I",
  .fieldLink "FamilyKernelModel" 180 "FamilyKernelModel" "copies" "I",
  .fieldLink "FamilyKernelModel" 183 "FamilyKernelModel" "work" "I",
  .fieldLink "FamilyKernelModel" 186 "FamilyKernelModel" "variables" "I",
  .constant "FamilyKernelModel" 189 66000,
  .fieldLink "FamilyKernelModel" 190 "FamilyKernelModel" "typeOfVariable" "[I",
  .fieldLink "FamilyKernelModel" 193 "FamilyKernelModel" "majors" "I",
  .fieldLink "FamilyKernelModel" 196 "FamilyKernelModel" "declarationAt" "I",
  .fieldLink "FamilyKernelModel" 199 "FamilyKernelModel" "accepted" "I",
  .fieldLink "FamilyKernelModel" 202 "FamilyKernelModel" "lastWork" "I",
  .fieldLink "FamilyKernelModel" 205 "FamilyKernelModel" "known" "I",
  .fieldLink "FamilyKernelModel" 208 "FamilyKernelModel" "are" "[I",
  .fieldLink "FamilyKernelModel" 211 "FamilyKernelModel" "texts" "[I",
  .fieldLink "FamilyKernelModel" 214 "FamilyKernelModel" "wholes" "[I",
  .fieldLink "FamilyKernelModel" 217 "FamilyKernelModel" "firstArgument" "[I",
  .fieldLink "FamilyKernelModel" 220 "FamilyKernelModel" "endAt" "[I",
  .fieldLink "FamilyKernelModel" 223 "FamilyKernelModel" "argument" "[I",
  .fieldLink "FamilyKernelModel" 226 "FamilyKernelModel" "isRecursive" "[Z",
  .fieldLink "FamilyKernelModel" 229 "FamilyKernelModel" "isProof" "[Z",
  .fieldLink "FamilyKernelModel" 232 "FamilyKernelModel" "argumentCount" "I",
  .fieldLink "FamilyKernelModel" 235 "FamilyKernelModel" "list" "[I",
  .fieldLink "FamilyKernelModel" 238 "FamilyKernelModel" "listed" "I",
  .fieldLink "FamilyKernelModel" 241 "FamilyKernelModel" "minors" "[I",
  .fieldLink "FamilyKernelModel" 244 "FamilyKernelModel" "openCost" "[I",
  .fieldLink "FamilyKernelModel" 247 "FamilyKernelModel" "xs" "I",
  .code ⟨"FamilyKernelModel", "<init>", "()V"⟩ prog_14_method_2_code 1 none,
  .code ⟨"FamilyKernelModel", "thrown", "()I"⟩ prog_14_method_3_code 1 (some .int),
  .constant "FamilyKernelModel" 250 65516,
  .methodLink "FamilyKernelModel" 251 ⟨"FamilyKernelModel", "refuse", "(IZ)Z"⟩,
  .initialized "FamilyKernelModel",
  .instanceMethod ⟨"FamilyKernelModel", "refuse", "(IZ)Z"⟩,
  .selects "FamilyKernelModel" ⟨"FamilyKernelModel", "refuse", "(IZ)Z"⟩ ⟨"FamilyKernelModel", "refuse", "(IZ)Z"⟩,
  .code ⟨"FamilyKernelModel", "refuse", "(IZ)Z"⟩ prog_14_method_4_code 3 (some .boolean),
  .code ⟨"FamilyKernelModel", "feed", "(IIIII)I"⟩ prog_14_method_5_code 8 (some .int),
  .code ⟨"FamilyKernelModel", "end", "(I)I"⟩ prog_14_method_6_code 2 (some .int),
  .methodLink "FamilyKernelModel" 273 ⟨"FamilyKernelModel", "peek", "()I"⟩,
  .instanceMethod ⟨"FamilyKernelModel", "peek", "()I"⟩,
  .selects "FamilyKernelModel" ⟨"FamilyKernelModel", "peek", "()I"⟩ ⟨"FamilyKernelModel", "peek", "()I"⟩,
  .code ⟨"FamilyKernelModel", "peek", "()I"⟩ prog_14_method_11_code 2 (some .int),
  .methodLink "FamilyKernelModel" 494 ⟨"FamilyKernelModel", "declaration", "()V"⟩]
def vR_34 : List Cond := [.instanceMethod ⟨"FamilyKernelModel", "declaration", "()V"⟩,
  .selects "FamilyKernelModel" ⟨"FamilyKernelModel", "declaration", "()V"⟩ ⟨"FamilyKernelModel", "declaration", "()V"⟩,
  .code ⟨"FamilyKernelModel", "declaration", "()V"⟩ prog_14_method_70_code 1 none,
  .fieldLink "FamilyKernelModel" 497 "FamilyKernelModel$Wrong" "kind" "I",
  .fieldLink "FamilyKernelModel" 499 "FamilyKernelModel$Wrong" "place" "I",
  .codeWith ⟨"FamilyKernelModel", "read", "()I"⟩ prog_14_method_69_code 7 (some .int) [(49, 114, 117, 1)],
  .methodLink "FamilyKernelModel" 255 ⟨"FamilyKernelModel", "parts", "()V"⟩,
  .instanceMethod ⟨"FamilyKernelModel", "parts", "()V"⟩,
  .selects "FamilyKernelModel" ⟨"FamilyKernelModel", "parts", "()V"⟩ ⟨"FamilyKernelModel", "parts", "()V"⟩,
  .code ⟨"FamilyKernelModel", "parts", "()V"⟩ prog_14_method_10_code 2 none,
  .methodLink "FamilyKernelModel" 258 ⟨"FamilyKernelModel", "letter", "(I)Z"⟩,
  .static ⟨"FamilyKernelModel", "letter", "(I)Z"⟩,
  .code ⟨"FamilyKernelModel", "letter", "(I)Z"⟩ prog_14_method_8_code 1 (some .boolean),
  .methodLink "FamilyKernelModel" 262 ⟨"FamilyKernelModel", "digit", "(I)Z"⟩,
  .static ⟨"FamilyKernelModel", "digit", "(I)Z"⟩,
  .code ⟨"FamilyKernelModel", "digit", "(I)Z"⟩ prog_14_method_7_code 1 (some .boolean),
  .methodLink "FamilyKernelModel" 265 ⟨"FamilyKernelModel", "byteAt", "(I)I"⟩,
  .instanceMethod ⟨"FamilyKernelModel", "byteAt", "(I)I"⟩,
  .selects "FamilyKernelModel" ⟨"FamilyKernelModel", "byteAt", "(I)I"⟩ ⟨"FamilyKernelModel", "byteAt", "(I)I"⟩,
  .code ⟨"FamilyKernelModel", "byteAt", "(I)I"⟩ prog_14_method_9_code 2 (some .int),
  .methodLink "FamilyKernelModel" 269 ⟨"FamilyKernelModel", "sign", "(II)I"⟩,
  .static ⟨"FamilyKernelModel", "sign", "(II)I"⟩,
  .code ⟨"FamilyKernelModel", "sign", "(II)I"⟩ prog_14_method_12_code 2 (some .int),
  .methodLink "FamilyKernelModel" 293 ⟨"FamilyKernelModel", "is", "(Ljava/lang/String;)Z"⟩,
  .instanceMethod ⟨"FamilyKernelModel", "is", "(Ljava/lang/String;)Z"⟩,
  .selects "FamilyKernelModel" ⟨"FamilyKernelModel", "is", "(Ljava/lang/String;)Z"⟩ ⟨"FamilyKernelModel", "is", "(Ljava/lang/String;)Z"⟩,
  .code ⟨"FamilyKernelModel", "is", "(Ljava/lang/String;)Z"⟩ prog_14_method_16_code 3 (some .boolean),
  .methodLink "FamilyKernelModel" 502 ⟨"FamilyKernelModel", "stated", "(I)V"⟩,
  .instanceMethod ⟨"FamilyKernelModel", "stated", "(I)V"⟩,
  .selects "FamilyKernelModel" ⟨"FamilyKernelModel", "stated", "(I)V"⟩ ⟨"FamilyKernelModel", "stated", "(I)V"⟩,
  .code ⟨"FamilyKernelModel", "stated", "(I)V"⟩ prog_14_method_72_code 5 none,
  .methodLink "FamilyKernelModel" 505 ⟨"FamilyKernelModel", "inductive", "()V"⟩,
  .instanceMethod ⟨"FamilyKernelModel", "inductive", "()V"⟩,
  .selects "FamilyKernelModel" ⟨"FamilyKernelModel", "inductive", "()V"⟩ ⟨"FamilyKernelModel", "inductive", "()V"⟩,
  .code ⟨"FamilyKernelModel", "inductive", "()V"⟩ prog_14_method_78_code 11 none,
  .methodLink "FamilyKernelModel" 507 ⟨"FamilyKernelModel", "checked", "()V"⟩,
  .instanceMethod ⟨"FamilyKernelModel", "checked", "()V"⟩,
  .selects "FamilyKernelModel" ⟨"FamilyKernelModel", "checked", "()V"⟩ ⟨"FamilyKernelModel", "checked", "()V"⟩,
  .code ⟨"FamilyKernelModel", "checked", "()V"⟩ prog_14_method_76_code 3 none,
  .methodLink "FamilyKernelModel" 510 ⟨"FamilyKernelModel", "evaluated", "()V"⟩]
def vR_35 : List Cond := [.instanceMethod ⟨"FamilyKernelModel", "evaluated", "()V"⟩,
  .selects "FamilyKernelModel" ⟨"FamilyKernelModel", "evaluated", "()V"⟩ ⟨"FamilyKernelModel", "evaluated", "()V"⟩,
  .code ⟨"FamilyKernelModel", "evaluated", "()V"⟩ prog_14_method_77_code 3 none,
  .methodLink "FamilyKernelModel" 277 ⟨"FamilyKernelModel", "cant", "()LFamilyKernelModel$Wrong;"⟩,
  .instanceMethod ⟨"FamilyKernelModel", "cant", "()LFamilyKernelModel$Wrong;"⟩,
  .selects "FamilyKernelModel" ⟨"FamilyKernelModel", "cant", "()LFamilyKernelModel$Wrong;"⟩ ⟨"FamilyKernelModel", "cant", "()LFamilyKernelModel$Wrong;"⟩,
  .code ⟨"FamilyKernelModel", "cant", "()LFamilyKernelModel$Wrong;"⟩ prog_14_method_14_code 1 (some (.object "FamilyKernelModel$Wrong")),
  .methodLink "FamilyKernelModel" 284 ⟨"java/lang/String", "length", "()I"⟩,
  .methodLink "FamilyKernelModel" 289 ⟨"java/lang/String", "charAt", "(I)C"⟩,
  .methodLink "FamilyKernelModel" 281 ⟨"FamilyKernelModel", "take", "()V"⟩,
  .instanceMethod ⟨"FamilyKernelModel", "take", "()V"⟩,
  .selects "FamilyKernelModel" ⟨"FamilyKernelModel", "take", "()V"⟩ ⟨"FamilyKernelModel", "take", "()V"⟩,
  .code ⟨"FamilyKernelModel", "take", "()V"⟩ prog_14_method_13_code 1 none,
  .methodLink "FamilyKernelModel" 516 ⟨"FamilyKernelModel", "newName", "()V"⟩,
  .instanceMethod ⟨"FamilyKernelModel", "newName", "()V"⟩,
  .selects "FamilyKernelModel" ⟨"FamilyKernelModel", "newName", "()V"⟩ ⟨"FamilyKernelModel", "newName", "()V"⟩,
  .code ⟨"FamilyKernelModel", "newName", "()V"⟩ prog_14_method_41_code 2 none,
  .methodLink "FamilyKernelModel" 405 ⟨"FamilyKernelModel", "must", "(I)V"⟩,
  .instanceMethod ⟨"FamilyKernelModel", "must", "(I)V"⟩,
  .selects "FamilyKernelModel" ⟨"FamilyKernelModel", "must", "(I)V"⟩ ⟨"FamilyKernelModel", "must", "(I)V"⟩,
  .code ⟨"FamilyKernelModel", "must", "(I)V"⟩ prog_14_method_15_code 2 none,
  .methodLink "FamilyKernelModel" 399 ⟨"FamilyKernelModel", "term", "(I)I"⟩,
  .instanceMethod ⟨"FamilyKernelModel", "term", "(I)I"⟩,
  .selects "FamilyKernelModel" ⟨"FamilyKernelModel", "term", "(I)I"⟩ ⟨"FamilyKernelModel", "term", "(I)I"⟩,
  .code ⟨"FamilyKernelModel", "term", "(I)I"⟩ prog_14_method_42_code 4 (some .int),
  .methodLink "FamilyKernelModel" 519 ⟨"FamilyKernelModel", "together", "(I)V"⟩,
  .instanceMethod ⟨"FamilyKernelModel", "together", "(I)V"⟩,
  .selects "FamilyKernelModel" ⟨"FamilyKernelModel", "together", "(I)V"⟩ ⟨"FamilyKernelModel", "together", "(I)V"⟩,
  .code ⟨"FamilyKernelModel", "together", "(I)V"⟩ prog_14_method_73_code 2 none,
  .methodLink "FamilyKernelModel" 522 ⟨"FamilyKernelModel", "alone", "(I)I"⟩,
  .instanceMethod ⟨"FamilyKernelModel", "alone", "(I)I"⟩,
  .selects "FamilyKernelModel" ⟨"FamilyKernelModel", "alone", "(I)I"⟩ ⟨"FamilyKernelModel", "alone", "(I)I"⟩,
  .code ⟨"FamilyKernelModel", "alone", "(I)I"⟩ prog_14_method_71_code 2 (some .int),
  .methodLink "FamilyKernelModel" 477 ⟨"FamilyKernelModel", "sortOf", "(II)I"⟩,
  .instanceMethod ⟨"FamilyKernelModel", "sortOf", "(II)I"⟩,
  .selects "FamilyKernelModel" ⟨"FamilyKernelModel", "sortOf", "(II)I"⟩ ⟨"FamilyKernelModel", "sortOf", "(II)I"⟩,
  .code ⟨"FamilyKernelModel", "sortOf", "(II)I"⟩ prog_14_method_66_code 4 (some .int),
  .methodLink "FamilyKernelModel" 485 ⟨"FamilyKernelModel", "check", "(III)V"⟩,
  .instanceMethod ⟨"FamilyKernelModel", "check", "(III)V"⟩,
  .selects "FamilyKernelModel" ⟨"FamilyKernelModel", "check", "(III)V"⟩ ⟨"FamilyKernelModel", "check", "(III)V"⟩]
def vR_36 : List Cond := [.code ⟨"FamilyKernelModel", "check", "(III)V"⟩ prog_14_method_67_code 4 none,
  .methodLink "FamilyKernelModel" 525 ⟨"FamilyKernelModel", "room", "(I)V"⟩,
  .instanceMethod ⟨"FamilyKernelModel", "room", "(I)V"⟩,
  .selects "FamilyKernelModel" ⟨"FamilyKernelModel", "room", "(I)V"⟩ ⟨"FamilyKernelModel", "room", "(I)V"⟩,
  .code ⟨"FamilyKernelModel", "room", "(I)V"⟩ prog_14_method_74_code 2 none,
  .methodLink "FamilyKernelModel" 528 ⟨"FamilyKernelModel", "keep", "(I)I"⟩,
  .instanceMethod ⟨"FamilyKernelModel", "keep", "(I)I"⟩,
  .selects "FamilyKernelModel" ⟨"FamilyKernelModel", "keep", "(I)I"⟩ ⟨"FamilyKernelModel", "keep", "(I)I"⟩,
  .code ⟨"FamilyKernelModel", "keep", "(I)I"⟩ prog_14_method_75_code 4 (some .int),
  .methodLink "FamilyKernelModel" 380 ⟨"FamilyKernelModel", "reserved", "()Z"⟩,
  .instanceMethod ⟨"FamilyKernelModel", "reserved", "()Z"⟩,
  .selects "FamilyKernelModel" ⟨"FamilyKernelModel", "reserved", "()Z"⟩ ⟨"FamilyKernelModel", "reserved", "()Z"⟩,
  .code ⟨"FamilyKernelModel", "reserved", "()Z"⟩ prog_14_method_18_code 1 (some .boolean),
  .methodLink "FamilyKernelModel" 373 ⟨"FamilyKernelModel", "constant", "(I)I"⟩,
  .instanceMethod ⟨"FamilyKernelModel", "constant", "(I)I"⟩,
  .selects "FamilyKernelModel" ⟨"FamilyKernelModel", "constant", "(I)I"⟩ ⟨"FamilyKernelModel", "constant", "(I)I"⟩,
  .code ⟨"FamilyKernelModel", "constant", "(I)I"⟩ prog_14_method_39_code 3 (some .int),
  .classLink "FamilyKernelModel" 1 "FamilyKernelModel$Wrong",
  .initialized "FamilyKernelModel$Wrong",
  .instantiable "FamilyKernelModel$Wrong" 8,
  .methodLink "FamilyKernelModel" 3 ⟨"FamilyKernelModel$Wrong", "<init>", "(II)V"⟩,
  .instanceMethod ⟨"FamilyKernelModel$Wrong", "<init>", "(II)V"⟩,
  .code ⟨"FamilyKernelModel$Wrong", "<init>", "(II)V"⟩ prog_15_method_1_code 3 none,
  .methodLink "FamilyKernelModel" 323 ⟨"FamilyKernelModel", "fails", "(I)LFamilyKernelModel$Wrong;"⟩,
  .static ⟨"FamilyKernelModel", "fails", "(I)LFamilyKernelModel$Wrong;"⟩,
  .code ⟨"FamilyKernelModel", "fails", "(I)LFamilyKernelModel$Wrong;"⟩ prog_14_method_1_code 1 (some (.object "FamilyKernelModel$Wrong")),
  .methodLink "FamilyKernelModel$Wrong" 1 ⟨"java/lang/RuntimeException", "<init>", "(Ljava/lang/String;Ljava/lang/Throwable;ZZ)V"⟩,
  .initialized "java/lang/RuntimeException",
  .instanceMethod ⟨"java/lang/RuntimeException", "<init>", "(Ljava/lang/String;Ljava/lang/Throwable;ZZ)V"⟩,
  .code ⟨"java/lang/RuntimeException", "<init>", "(Ljava/lang/String;Ljava/lang/Throwable;ZZ)V"⟩ prog_22_method_5_code 5 none,
  .fieldLink "FamilyKernelModel$Wrong" 7 "FamilyKernelModel$Wrong" "kind" "I",
  .fieldLink "FamilyKernelModel$Wrong" 13 "FamilyKernelModel$Wrong" "place" "I",
  .methodLink "FamilyKernelModel" 376 ⟨"FamilyKernelModel", "spelled", "(II[B)Z"⟩,
  .instanceMethod ⟨"FamilyKernelModel", "spelled", "(II[B)Z"⟩,
  .selects "FamilyKernelModel" ⟨"FamilyKernelModel", "spelled", "(II[B)Z"⟩ ⟨"FamilyKernelModel", "spelled", "(II[B)Z"⟩,
  .code ⟨"FamilyKernelModel", "spelled", "(II[B)Z"⟩ prog_14_method_37_code 5 (some .boolean),
  .methodLink "FamilyKernelModel" 384 ⟨"FamilyKernelModel", "binding", "(II)I"⟩,
  .instanceMethod ⟨"FamilyKernelModel", "binding", "(II)I"⟩,
  .selects "FamilyKernelModel" ⟨"FamilyKernelModel", "binding", "(II)I"⟩ ⟨"FamilyKernelModel", "binding", "(II)I"⟩,
  .code ⟨"FamilyKernelModel", "binding", "(II)I"⟩ prog_14_method_44_code 7 (some .int)]
def vR_37 : List Cond := [.methodLink "FamilyKernelModel" 387 ⟨"FamilyKernelModel", "letting", "(I)I"⟩,
  .instanceMethod ⟨"FamilyKernelModel", "letting", "(I)I"⟩,
  .selects "FamilyKernelModel" ⟨"FamilyKernelModel", "letting", "(I)I"⟩ ⟨"FamilyKernelModel", "letting", "(I)I"⟩,
  .code ⟨"FamilyKernelModel", "letting", "(I)I"⟩ prog_14_method_45_code 7 (some .int),
  .methodLink "FamilyKernelModel" 390 ⟨"FamilyKernelModel", "applied", "(I)I"⟩,
  .instanceMethod ⟨"FamilyKernelModel", "applied", "(I)I"⟩,
  .selects "FamilyKernelModel" ⟨"FamilyKernelModel", "applied", "(I)I"⟩ ⟨"FamilyKernelModel", "applied", "(I)I"⟩,
  .code ⟨"FamilyKernelModel", "applied", "(I)I"⟩ prog_14_method_47_code 3 (some .int),
  .methodLink "FamilyKernelModel" 393 ⟨"FamilyKernelModel", "bindName", "(II)V"⟩,
  .instanceMethod ⟨"FamilyKernelModel", "bindName", "(II)V"⟩,
  .selects "FamilyKernelModel" ⟨"FamilyKernelModel", "bindName", "(II)V"⟩ ⟨"FamilyKernelModel", "bindName", "(II)V"⟩,
  .code ⟨"FamilyKernelModel", "bindName", "(II)V"⟩ prog_14_method_40_code 3 none,
  .methodLink "FamilyKernelModel" 396 ⟨"FamilyKernelModel", "nest", "(I)I"⟩,
  .instanceMethod ⟨"FamilyKernelModel", "nest", "(I)I"⟩,
  .selects "FamilyKernelModel" ⟨"FamilyKernelModel", "nest", "(I)I"⟩ ⟨"FamilyKernelModel", "nest", "(I)I"⟩,
  .code ⟨"FamilyKernelModel", "nest", "(I)I"⟩ prog_14_method_19_code 2 (some .int),
  .methodLink "FamilyKernelModel" 336 ⟨"FamilyKernelModel", "node", "(IIII)I"⟩,
  .instanceMethod ⟨"FamilyKernelModel", "node", "(IIII)I"⟩,
  .selects "FamilyKernelModel" ⟨"FamilyKernelModel", "node", "(IIII)I"⟩ ⟨"FamilyKernelModel", "node", "(IIII)I"⟩,
  .code ⟨"FamilyKernelModel", "node", "(IIII)I"⟩ prog_14_method_20_code 6 (some .int),
  .methodLink "FamilyKernelModel" 402 ⟨"FamilyKernelModel", "fits", "(I)I"⟩,
  .instanceMethod ⟨"FamilyKernelModel", "fits", "(I)I"⟩,
  .selects "FamilyKernelModel" ⟨"FamilyKernelModel", "fits", "(I)I"⟩ ⟨"FamilyKernelModel", "fits", "(I)I"⟩,
  .code ⟨"FamilyKernelModel", "fits", "(I)I"⟩ prog_14_method_24_code 2 (some .int),
  .methodLink "FamilyKernelModel" 409 ⟨"FamilyKernelModel", "binders", "(I)I"⟩,
  .instanceMethod ⟨"FamilyKernelModel", "binders", "(I)I"⟩,
  .selects "FamilyKernelModel" ⟨"FamilyKernelModel", "binders", "(I)I"⟩ ⟨"FamilyKernelModel", "binders", "(I)I"⟩,
  .code ⟨"FamilyKernelModel", "binders", "(I)I"⟩ prog_14_method_43_code 9 (some .int),
  .constant "FamilyKernelModel" 327 1000000,
  .methodLink "FamilyKernelModel" 328 ⟨"java/lang/Math", "min", "(II)I"⟩,
  .methodLink "FamilyKernelModel" 333 ⟨"java/lang/Math", "max", "(II)I"⟩,
  .methodLink "FamilyKernelModel" 412 ⟨"FamilyKernelModel", "mustBe", "(Ljava/lang/String;)V"⟩,
  .instanceMethod ⟨"FamilyKernelModel", "mustBe", "(Ljava/lang/String;)V"⟩,
  .selects "FamilyKernelModel" ⟨"FamilyKernelModel", "mustBe", "(Ljava/lang/String;)V"⟩ ⟨"FamilyKernelModel", "mustBe", "(Ljava/lang/String;)V"⟩,
  .code ⟨"FamilyKernelModel", "mustBe", "(Ljava/lang/String;)V"⟩ prog_14_method_17_code 2 none,
  .methodLink "FamilyKernelModel" 416 ⟨"FamilyKernelModel", "atom", "(I)I"⟩,
  .instanceMethod ⟨"FamilyKernelModel", "atom", "(I)I"⟩,
  .selects "FamilyKernelModel" ⟨"FamilyKernelModel", "atom", "(I)I"⟩ ⟨"FamilyKernelModel", "atom", "(I)I"⟩,
  .code ⟨"FamilyKernelModel", "atom", "(I)I"⟩ prog_14_method_48_code 3 (some .int),
  .methodLink "FamilyKernelModel" 419 ⟨"FamilyKernelModel", "atomHere", "()Z"⟩]
def vR_38 : List Cond := [.instanceMethod ⟨"FamilyKernelModel", "atomHere", "()Z"⟩,
  .selects "FamilyKernelModel" ⟨"FamilyKernelModel", "atomHere", "()Z"⟩ ⟨"FamilyKernelModel", "atomHere", "()Z"⟩,
  .code ⟨"FamilyKernelModel", "atomHere", "()Z"⟩ prog_14_method_46_code 1 (some .boolean),
  .methodLink "FamilyKernelModel" 350 ⟨"FamilyKernelModel", "apply", "(II)I"⟩,
  .instanceMethod ⟨"FamilyKernelModel", "apply", "(II)I"⟩,
  .selects "FamilyKernelModel" ⟨"FamilyKernelModel", "apply", "(II)I"⟩ ⟨"FamilyKernelModel", "apply", "(II)I"⟩,
  .code ⟨"FamilyKernelModel", "apply", "(II)I"⟩ prog_14_method_22_code 3 (some .int),
  .methodLink "FamilyKernelModel" 422 ⟨"FamilyKernelModel", "sortHere", "()I"⟩,
  .instanceMethod ⟨"FamilyKernelModel", "sortHere", "()I"⟩,
  .selects "FamilyKernelModel" ⟨"FamilyKernelModel", "sortHere", "()I"⟩ ⟨"FamilyKernelModel", "sortHere", "()I"⟩,
  .code ⟨"FamilyKernelModel", "sortHere", "()I"⟩ prog_14_method_49_code 3 (some .int),
  .methodLink "FamilyKernelModel" 356 ⟨"FamilyKernelModel", "sort", "(I)I"⟩,
  .instanceMethod ⟨"FamilyKernelModel", "sort", "(I)I"⟩,
  .selects "FamilyKernelModel" ⟨"FamilyKernelModel", "sort", "(I)I"⟩ ⟨"FamilyKernelModel", "sort", "(I)I"⟩,
  .code ⟨"FamilyKernelModel", "sort", "(I)I"⟩ prog_14_method_21_code 2 (some .int),
  .methodLink "FamilyKernelModel" 425 ⟨"FamilyKernelModel", "constant", "()I"⟩,
  .instanceMethod ⟨"FamilyKernelModel", "constant", "()I"⟩,
  .selects "FamilyKernelModel" ⟨"FamilyKernelModel", "constant", "()I"⟩ ⟨"FamilyKernelModel", "constant", "()I"⟩,
  .code ⟨"FamilyKernelModel", "constant", "()I"⟩ prog_14_method_38_code 1 (some .int),
  .methodLink "FamilyKernelModel" 513 ⟨"FamilyKernelModel", "whole", "(III)I"⟩,
  .instanceMethod ⟨"FamilyKernelModel", "whole", "(III)I"⟩,
  .selects "FamilyKernelModel" ⟨"FamilyKernelModel", "whole", "(III)I"⟩ ⟨"FamilyKernelModel", "whole", "(III)I"⟩,
  .code ⟨"FamilyKernelModel", "whole", "(III)I"⟩ prog_14_method_29_code 4 (some .int),
  .methodLink "FamilyKernelModel" 359 ⟨"FamilyKernelModel", "mapped", "(IIIII)I"⟩,
  .instanceMethod ⟨"FamilyKernelModel", "mapped", "(IIIII)I"⟩,
  .selects "FamilyKernelModel" ⟨"FamilyKernelModel", "mapped", "(IIIII)I"⟩ ⟨"FamilyKernelModel", "mapped", "(IIIII)I"⟩,
  .code ⟨"FamilyKernelModel", "mapped", "(IIIII)I"⟩ prog_14_method_28_code 6 (some .int),
  .methodLink "FamilyKernelModel" 344 ⟨"FamilyKernelModel", "map", "(II)I"⟩,
  .instanceMethod ⟨"FamilyKernelModel", "map", "(II)I"⟩,
  .selects "FamilyKernelModel" ⟨"FamilyKernelModel", "map", "(II)I"⟩ ⟨"FamilyKernelModel", "map", "(II)I"⟩,
  .code ⟨"FamilyKernelModel", "map", "(II)I"⟩ prog_14_method_26_code 9 (some .int),
  .methodLink "FamilyKernelModel" 347 ⟨"FamilyKernelModel", "leaf", "(II)I"⟩,
  .instanceMethod ⟨"FamilyKernelModel", "leaf", "(II)I"⟩,
  .selects "FamilyKernelModel" ⟨"FamilyKernelModel", "leaf", "(II)I"⟩ ⟨"FamilyKernelModel", "leaf", "(II)I"⟩,
  .code ⟨"FamilyKernelModel", "leaf", "(II)I"⟩ prog_14_method_27_code 4 (some .int),
  .methodLink "FamilyKernelModel" 353 ⟨"FamilyKernelModel", "free", "(I)I"⟩,
  .instanceMethod ⟨"FamilyKernelModel", "free", "(I)I"⟩,
  .selects "FamilyKernelModel" ⟨"FamilyKernelModel", "free", "(I)I"⟩ ⟨"FamilyKernelModel", "free", "(I)I"⟩,
  .code ⟨"FamilyKernelModel", "free", "(I)I"⟩ prog_14_method_23_code 2 (some .int),
  .methodLink "FamilyKernelModel" 479 ⟨"FamilyKernelModel", "infer", "(II)I"⟩]
def vR_39 : List Cond := [.instanceMethod ⟨"FamilyKernelModel", "infer", "(II)I"⟩,
  .selects "FamilyKernelModel" ⟨"FamilyKernelModel", "infer", "(II)I"⟩ ⟨"FamilyKernelModel", "infer", "(II)I"⟩,
  .code ⟨"FamilyKernelModel", "infer", "(II)I"⟩ prog_14_method_64_code 8 (some .int),
  .methodLink "FamilyKernelModel" 458 ⟨"FamilyKernelModel", "whnf", "(I)I"⟩,
  .instanceMethod ⟨"FamilyKernelModel", "whnf", "(I)I"⟩,
  .selects "FamilyKernelModel" ⟨"FamilyKernelModel", "whnf", "(I)I"⟩ ⟨"FamilyKernelModel", "whnf", "(I)I"⟩,
  .code ⟨"FamilyKernelModel", "whnf", "(I)I"⟩ prog_14_method_59_code 4 (some .int),
  .methodLink "FamilyKernelModel" 461 ⟨"FamilyKernelModel", "leveled", "(II)I"⟩,
  .instanceMethod ⟨"FamilyKernelModel", "leveled", "(II)I"⟩,
  .selects "FamilyKernelModel" ⟨"FamilyKernelModel", "leveled", "(II)I"⟩ ⟨"FamilyKernelModel", "leveled", "(II)I"⟩,
  .code ⟨"FamilyKernelModel", "leveled", "(II)I"⟩ prog_14_method_33_code 3 (some .int),
  .methodLink "FamilyKernelModel" 434 ⟨"FamilyKernelModel", "costs", "(I)V"⟩,
  .instanceMethod ⟨"FamilyKernelModel", "costs", "(I)V"⟩,
  .selects "FamilyKernelModel" ⟨"FamilyKernelModel", "costs", "(I)V"⟩ ⟨"FamilyKernelModel", "costs", "(I)V"⟩,
  .code ⟨"FamilyKernelModel", "costs", "(I)V"⟩ prog_14_method_50_code 2 none,
  .methodLink "FamilyKernelModel" 468 ⟨"FamilyKernelModel", "fresh", "(I)I"⟩,
  .instanceMethod ⟨"FamilyKernelModel", "fresh", "(I)I"⟩,
  .selects "FamilyKernelModel" ⟨"FamilyKernelModel", "fresh", "(I)I"⟩ ⟨"FamilyKernelModel", "fresh", "(I)I"⟩,
  .code ⟨"FamilyKernelModel", "fresh", "(I)I"⟩ prog_14_method_51_code 2 (some .int),
  .methodLink "FamilyKernelModel" 471 ⟨"FamilyKernelModel", "open", "(II)I"⟩,
  .instanceMethod ⟨"FamilyKernelModel", "open", "(II)I"⟩,
  .selects "FamilyKernelModel" ⟨"FamilyKernelModel", "open", "(II)I"⟩ ⟨"FamilyKernelModel", "open", "(II)I"⟩,
  .code ⟨"FamilyKernelModel", "open", "(II)I"⟩ prog_14_method_53_code 4 (some .int),
  .methodLink "FamilyKernelModel" 482 ⟨"FamilyKernelModel", "close", "(II)I"⟩,
  .instanceMethod ⟨"FamilyKernelModel", "close", "(II)I"⟩,
  .selects "FamilyKernelModel" ⟨"FamilyKernelModel", "close", "(II)I"⟩ ⟨"FamilyKernelModel", "close", "(II)I"⟩,
  .code ⟨"FamilyKernelModel", "close", "(II)I"⟩ prog_14_method_54_code 4 (some .int),
  .methodLink "FamilyKernelModel" 488 ⟨"FamilyKernelModel", "inferApplied", "(II)I"⟩,
  .instanceMethod ⟨"FamilyKernelModel", "inferApplied", "(II)I"⟩,
  .selects "FamilyKernelModel" ⟨"FamilyKernelModel", "inferApplied", "(II)I"⟩ ⟨"FamilyKernelModel", "inferApplied", "(II)I"⟩,
  .code ⟨"FamilyKernelModel", "inferApplied", "(II)I"⟩ prog_14_method_65_code 8 (some .int),
  .constant "FamilyKernelModel" 427 60000,
  .methodLink "FamilyKernelModel" 431 ⟨"FamilyKernelModel", "opened", "(II)I"⟩,
  .instanceMethod ⟨"FamilyKernelModel", "opened", "(II)I"⟩,
  .selects "FamilyKernelModel" ⟨"FamilyKernelModel", "opened", "(II)I"⟩ ⟨"FamilyKernelModel", "opened", "(II)I"⟩,
  .code ⟨"FamilyKernelModel", "opened", "(II)I"⟩ prog_14_method_52_code 3 (some .int),
  .methodLink "FamilyKernelModel" 363 ⟨"FamilyKernelModel", "sizeWith", "(III)I"⟩,
  .instanceMethod ⟨"FamilyKernelModel", "sizeWith", "(III)I"⟩,
  .selects "FamilyKernelModel" ⟨"FamilyKernelModel", "sizeWith", "(III)I"⟩ ⟨"FamilyKernelModel", "sizeWith", "(III)I"⟩,
  .code ⟨"FamilyKernelModel", "sizeWith", "(III)I"⟩ prog_14_method_34_code 6 (some .int)]
def vR_40 : List Cond := [.methodLink "FamilyKernelModel" 428 ⟨"FamilyKernelModel", "put", "(II)I"⟩,
  .instanceMethod ⟨"FamilyKernelModel", "put", "(II)I"⟩,
  .selects "FamilyKernelModel" ⟨"FamilyKernelModel", "put", "(II)I"⟩ ⟨"FamilyKernelModel", "put", "(II)I"⟩,
  .code ⟨"FamilyKernelModel", "put", "(II)I"⟩ prog_14_method_30_code 3 (some .int),
  .methodLink "FamilyKernelModel" 437 ⟨"FamilyKernelModel", "back", "(II)I"⟩,
  .instanceMethod ⟨"FamilyKernelModel", "back", "(II)I"⟩,
  .selects "FamilyKernelModel" ⟨"FamilyKernelModel", "back", "(II)I"⟩ ⟨"FamilyKernelModel", "back", "(II)I"⟩,
  .code ⟨"FamilyKernelModel", "back", "(II)I"⟩ prog_14_method_31_code 3 (some .int),
  .methodLink "FamilyKernelModel" 464 ⟨"FamilyKernelModel", "conv", "(III)Z"⟩,
  .instanceMethod ⟨"FamilyKernelModel", "conv", "(III)Z"⟩,
  .selects "FamilyKernelModel" ⟨"FamilyKernelModel", "conv", "(III)Z"⟩ ⟨"FamilyKernelModel", "conv", "(III)Z"⟩,
  .code ⟨"FamilyKernelModel", "conv", "(III)Z"⟩ prog_14_method_62_code 10 (some .boolean),
  .methodLink "FamilyKernelModel" 340 ⟨"FamilyKernelModel", "same", "(II)Z"⟩,
  .instanceMethod ⟨"FamilyKernelModel", "same", "(II)Z"⟩,
  .selects "FamilyKernelModel" ⟨"FamilyKernelModel", "same", "(II)Z"⟩ ⟨"FamilyKernelModel", "same", "(II)Z"⟩,
  .code ⟨"FamilyKernelModel", "same", "(II)Z"⟩ prog_14_method_25_code 5 (some .boolean),
  .methodLink "FamilyKernelModel" 474 ⟨"FamilyKernelModel", "alike", "(III)Z"⟩,
  .instanceMethod ⟨"FamilyKernelModel", "alike", "(III)Z"⟩,
  .selects "FamilyKernelModel" ⟨"FamilyKernelModel", "alike", "(III)Z"⟩ ⟨"FamilyKernelModel", "alike", "(III)Z"⟩,
  .code ⟨"FamilyKernelModel", "alike", "(III)Z"⟩ prog_14_method_63_code 8 (some .boolean),
  .methodLink "FamilyKernelModel" 443 ⟨"FamilyKernelModel", "step", "(I)I"⟩,
  .instanceMethod ⟨"FamilyKernelModel", "step", "(I)I"⟩,
  .selects "FamilyKernelModel" ⟨"FamilyKernelModel", "step", "(I)I"⟩ ⟨"FamilyKernelModel", "step", "(I)I"⟩,
  .code ⟨"FamilyKernelModel", "step", "(I)I"⟩ prog_14_method_60_code 4 (some .int),
  .methodLink "FamilyKernelModel" 446 ⟨"FamilyKernelModel", "head", "(I)I"⟩,
  .instanceMethod ⟨"FamilyKernelModel", "head", "(I)I"⟩,
  .selects "FamilyKernelModel" ⟨"FamilyKernelModel", "head", "(I)I"⟩ ⟨"FamilyKernelModel", "head", "(I)I"⟩,
  .code ⟨"FamilyKernelModel", "head", "(I)I"⟩ prog_14_method_55_code 3 (some .int),
  .methodLink "FamilyKernelModel" 449 ⟨"FamilyKernelModel", "behind", "(I)I"⟩,
  .instanceMethod ⟨"FamilyKernelModel", "behind", "(I)I"⟩,
  .selects "FamilyKernelModel" ⟨"FamilyKernelModel", "behind", "(I)I"⟩ ⟨"FamilyKernelModel", "behind", "(I)I"⟩,
  .code ⟨"FamilyKernelModel", "behind", "(I)I"⟩ prog_14_method_56_code 4 (some .int),
  .methodLink "FamilyKernelModel" 440 ⟨"FamilyKernelModel", "nth", "(III)I"⟩,
  .instanceMethod ⟨"FamilyKernelModel", "nth", "(III)I"⟩,
  .selects "FamilyKernelModel" ⟨"FamilyKernelModel", "nth", "(III)I"⟩ ⟨"FamilyKernelModel", "nth", "(III)I"⟩,
  .code ⟨"FamilyKernelModel", "nth", "(III)I"⟩ prog_14_method_57_code 6 (some .int),
  .methodLink "FamilyKernelModel" 452 ⟨"FamilyKernelModel", "with", "(IIII)I"⟩,
  .instanceMethod ⟨"FamilyKernelModel", "with", "(IIII)I"⟩,
  .selects "FamilyKernelModel" ⟨"FamilyKernelModel", "with", "(IIII)I"⟩ ⟨"FamilyKernelModel", "with", "(IIII)I"⟩,
  .code ⟨"FamilyKernelModel", "with", "(IIII)I"⟩ prog_14_method_58_code 7 (some .int)]
def vR_41 : List Cond := [.methodLink "FamilyKernelModel" 455 ⟨"FamilyKernelModel", "recursion", "(III)I"⟩,
  .instanceMethod ⟨"FamilyKernelModel", "recursion", "(III)I"⟩,
  .selects "FamilyKernelModel" ⟨"FamilyKernelModel", "recursion", "(III)I"⟩ ⟨"FamilyKernelModel", "recursion", "(III)I"⟩,
  .code ⟨"FamilyKernelModel", "recursion", "(III)I"⟩ prog_14_method_61_code 12 (some .int),
  .methodLink "FamilyKernelModel" 534 ⟨"FamilyKernelModel", "telescope", "(II)I"⟩,
  .instanceMethod ⟨"FamilyKernelModel", "telescope", "(II)I"⟩,
  .selects "FamilyKernelModel" ⟨"FamilyKernelModel", "telescope", "(II)I"⟩ ⟨"FamilyKernelModel", "telescope", "(II)I"⟩,
  .code ⟨"FamilyKernelModel", "telescope", "(II)I"⟩ prog_14_method_79_code 5 (some .int),
  .methodLink "FamilyKernelModel" 537 ⟨"FamilyKernelModel", "constructor", "(IIIIII)V"⟩,
  .instanceMethod ⟨"FamilyKernelModel", "constructor", "(IIIIII)V"⟩,
  .selects "FamilyKernelModel" ⟨"FamilyKernelModel", "constructor", "(IIIIII)V"⟩ ⟨"FamilyKernelModel", "constructor", "(IIIIII)V"⟩,
  .code ⟨"FamilyKernelModel", "constructor", "(IIIIII)V"⟩ prog_14_method_81_code 13 none,
  .methodLink "FamilyKernelModel" 541 ⟨"FamilyKernelModel", "small", "(II)Z"⟩,
  .instanceMethod ⟨"FamilyKernelModel", "small", "(II)Z"⟩,
  .selects "FamilyKernelModel" ⟨"FamilyKernelModel", "small", "(II)Z"⟩ ⟨"FamilyKernelModel", "small", "(II)Z"⟩,
  .code ⟨"FamilyKernelModel", "small", "(II)Z"⟩ prog_14_method_82_code 8 (some .boolean),
  .methodLink "FamilyKernelModel" 544 ⟨"FamilyKernelModel", "made", "(IIIIII)V"⟩,
  .instanceMethod ⟨"FamilyKernelModel", "made", "(IIIIII)V"⟩,
  .selects "FamilyKernelModel" ⟨"FamilyKernelModel", "made", "(IIIIII)V"⟩ ⟨"FamilyKernelModel", "made", "(IIIIII)V"⟩,
  .code ⟨"FamilyKernelModel", "made", "(IIIIII)V"⟩ prog_14_method_85_code 16 none,
  .methodLink "FamilyKernelModel" 367 ⟨"FamilyKernelModel", "has", "(II)Z"⟩,
  .instanceMethod ⟨"FamilyKernelModel", "has", "(II)Z"⟩,
  .selects "FamilyKernelModel" ⟨"FamilyKernelModel", "has", "(II)Z"⟩ ⟨"FamilyKernelModel", "has", "(II)Z"⟩,
  .code ⟨"FamilyKernelModel", "has", "(II)Z"⟩ prog_14_method_35_code 4 (some .boolean),
  .methodLink "FamilyKernelModel" 547 ⟨"FamilyKernelModel", "isFamily", "(IIII)Z"⟩,
  .instanceMethod ⟨"FamilyKernelModel", "isFamily", "(IIII)Z"⟩,
  .selects "FamilyKernelModel" ⟨"FamilyKernelModel", "isFamily", "(IIII)Z"⟩ ⟨"FamilyKernelModel", "isFamily", "(IIII)Z"⟩,
  .code ⟨"FamilyKernelModel", "isFamily", "(IIII)Z"⟩ prog_14_method_80_code 8 (some .boolean),
  .methodLink "FamilyKernelModel" 555 ⟨"FamilyKernelModel", "of", "(III)I"⟩,
  .instanceMethod ⟨"FamilyKernelModel", "of", "(III)I"⟩,
  .selects "FamilyKernelModel" ⟨"FamilyKernelModel", "of", "(III)I"⟩ ⟨"FamilyKernelModel", "of", "(III)I"⟩,
  .code ⟨"FamilyKernelModel", "of", "(III)I"⟩ prog_14_method_84_code 6 (some .int),
  .methodLink "FamilyKernelModel" 558 ⟨"FamilyKernelModel", "chain", "(III)I"⟩,
  .instanceMethod ⟨"FamilyKernelModel", "chain", "(III)I"⟩,
  .selects "FamilyKernelModel" ⟨"FamilyKernelModel", "chain", "(III)I"⟩ ⟨"FamilyKernelModel", "chain", "(III)I"⟩,
  .code ⟨"FamilyKernelModel", "chain", "(III)I"⟩ prog_14_method_83_code 6 (some .int),
  .methodLink "FamilyKernelModel" 561 ⟨"FamilyKernelModel", "minor", "(IIIII)I"⟩,
  .instanceMethod ⟨"FamilyKernelModel", "minor", "(IIIII)I"⟩,
  .selects "FamilyKernelModel" ⟨"FamilyKernelModel", "minor", "(IIIII)I"⟩ ⟨"FamilyKernelModel", "minor", "(IIIII)I"⟩,
  .code ⟨"FamilyKernelModel", "minor", "(IIIII)I"⟩ prog_14_method_89_code 13 (some .int)]
def vR_42 : List Cond := [.methodLink "FamilyKernelModel" 564 ⟨"FamilyKernelModel", "heads", "(III)V"⟩,
  .instanceMethod ⟨"FamilyKernelModel", "heads", "(III)V"⟩,
  .selects "FamilyKernelModel" ⟨"FamilyKernelModel", "heads", "(III)V"⟩ ⟨"FamilyKernelModel", "heads", "(III)V"⟩,
  .code ⟨"FamilyKernelModel", "heads", "(III)V"⟩ prog_14_method_86_code 5 none,
  .methodLink "FamilyKernelModel" 567 ⟨"FamilyKernelModel", "ruleOf", "(IIIIII)I"⟩,
  .instanceMethod ⟨"FamilyKernelModel", "ruleOf", "(IIIIII)I"⟩,
  .selects "FamilyKernelModel" ⟨"FamilyKernelModel", "ruleOf", "(IIIIII)I"⟩ ⟨"FamilyKernelModel", "ruleOf", "(IIIIII)I"⟩,
  .code ⟨"FamilyKernelModel", "ruleOf", "(IIIIII)I"⟩ prog_14_method_90_code 15 (some .int),
  .methodLink "FamilyKernelModel" 551 ⟨"FamilyKernelModel", "under", "(III)I"⟩,
  .instanceMethod ⟨"FamilyKernelModel", "under", "(III)I"⟩,
  .selects "FamilyKernelModel" ⟨"FamilyKernelModel", "under", "(III)I"⟩ ⟨"FamilyKernelModel", "under", "(III)I"⟩,
  .code ⟨"FamilyKernelModel", "under", "(III)I"⟩ prog_14_method_32_code 4 (some .int),
  .constant "FamilyKernelModel" 554 100000,
  .methodLink "FamilyKernelModel" 571 ⟨"FamilyKernelModel", "ended", "(I)I"⟩,
  .instanceMethod ⟨"FamilyKernelModel", "ended", "(I)I"⟩,
  .selects "FamilyKernelModel" ⟨"FamilyKernelModel", "ended", "(I)I"⟩ ⟨"FamilyKernelModel", "ended", "(I)I"⟩,
  .code ⟨"FamilyKernelModel", "ended", "(I)I"⟩ prog_14_method_87_code 4 (some .int),
  .methodLink "FamilyKernelModel" 574 ⟨"FamilyKernelModel", "applied2", "(I)I"⟩,
  .instanceMethod ⟨"FamilyKernelModel", "applied2", "(I)I"⟩,
  .selects "FamilyKernelModel" ⟨"FamilyKernelModel", "applied2", "(I)I"⟩ ⟨"FamilyKernelModel", "applied2", "(I)I"⟩,
  .code ⟨"FamilyKernelModel", "applied2", "(I)I"⟩ prog_14_method_88_code 4 (some .int),
  .methodLink "FamilyKernelModel" 491 ⟨"FamilyKernelModel", "normal", "(II)I"⟩,
  .instanceMethod ⟨"FamilyKernelModel", "normal", "(II)I"⟩,
  .selects "FamilyKernelModel" ⟨"FamilyKernelModel", "normal", "(II)I"⟩ ⟨"FamilyKernelModel", "normal", "(II)I"⟩,
  .code ⟨"FamilyKernelModel", "normal", "(II)I"⟩ prog_14_method_68_code 7 (some .int),
  .methodLink "FamilyKernelModel" 531 ⟨"FamilyKernelModel", "say", "(II)V"⟩,
  .instanceMethod ⟨"FamilyKernelModel", "say", "(II)V"⟩,
  .selects "FamilyKernelModel" ⟨"FamilyKernelModel", "say", "(II)V"⟩ ⟨"FamilyKernelModel", "say", "(II)V"⟩,
  .code ⟨"FamilyKernelModel", "say", "(II)V"⟩ prog_14_method_102_code 7 none,
  .methodLink "FamilyKernelModel" 589 ⟨"FamilyKernelModel", "saySort", "(I)V"⟩,
  .instanceMethod ⟨"FamilyKernelModel", "saySort", "(I)V"⟩,
  .selects "FamilyKernelModel" ⟨"FamilyKernelModel", "saySort", "(I)V"⟩ ⟨"FamilyKernelModel", "saySort", "(I)V"⟩,
  .code ⟨"FamilyKernelModel", "saySort", "(I)V"⟩ prog_14_method_99_code 2 none,
  .methodLink "FamilyKernelModel" 592 ⟨"FamilyKernelModel", "sayName", "(I)V"⟩,
  .instanceMethod ⟨"FamilyKernelModel", "sayName", "(I)V"⟩,
  .selects "FamilyKernelModel" ⟨"FamilyKernelModel", "sayName", "(I)V"⟩ ⟨"FamilyKernelModel", "sayName", "(I)V"⟩,
  .code ⟨"FamilyKernelModel", "sayName", "(I)V"⟩ prog_14_method_98_code 3 none,
  .methodLink "FamilyKernelModel" 585 ⟨"FamilyKernelModel", "say", "(Ljava/lang/String;)V"⟩,
  .instanceMethod ⟨"FamilyKernelModel", "say", "(Ljava/lang/String;)V"⟩,
  .selects "FamilyKernelModel" ⟨"FamilyKernelModel", "say", "(Ljava/lang/String;)V"⟩ ⟨"FamilyKernelModel", "say", "(Ljava/lang/String;)V"⟩]
def vR_43 : List Cond := [.code ⟨"FamilyKernelModel", "say", "(Ljava/lang/String;)V"⟩ prog_14_method_96_code 3 none,
  .methodLink "FamilyKernelModel" 580 ⟨"FamilyKernelModel", "say", "(I)V"⟩,
  .instanceMethod ⟨"FamilyKernelModel", "say", "(I)V"⟩,
  .selects "FamilyKernelModel" ⟨"FamilyKernelModel", "say", "(I)V"⟩ ⟨"FamilyKernelModel", "say", "(I)V"⟩,
  .code ⟨"FamilyKernelModel", "say", "(I)V"⟩ prog_14_method_95_code 2 none,
  .methodLink "FamilyKernelModel" 582 ⟨"FamilyKernelModel", "sayNumber", "(I)V"⟩,
  .instanceMethod ⟨"FamilyKernelModel", "sayNumber", "(I)V"⟩,
  .selects "FamilyKernelModel" ⟨"FamilyKernelModel", "sayNumber", "(I)V"⟩ ⟨"FamilyKernelModel", "sayNumber", "(I)V"⟩,
  .code ⟨"FamilyKernelModel", "sayNumber", "(I)V"⟩ prog_14_method_97_code 2 none,
  .methodLink "FamilyKernelModel" 597 ⟨"FamilyKernelModel", "binds", "(I)Z"⟩,
  .instanceMethod ⟨"FamilyKernelModel", "binds", "(I)Z"⟩,
  .selects "FamilyKernelModel" ⟨"FamilyKernelModel", "binds", "(I)Z"⟩ ⟨"FamilyKernelModel", "binds", "(I)Z"⟩,
  .code ⟨"FamilyKernelModel", "binds", "(I)Z"⟩ prog_14_method_101_code 2 (some .boolean),
  .methodLink "FamilyKernelModel" 600 ⟨"FamilyKernelModel", "sayIn", "(IIZ)V"⟩,
  .instanceMethod ⟨"FamilyKernelModel", "sayIn", "(IIZ)V"⟩,
  .selects "FamilyKernelModel" ⟨"FamilyKernelModel", "sayIn", "(IIZ)V"⟩ ⟨"FamilyKernelModel", "sayIn", "(IIZ)V"⟩,
  .code ⟨"FamilyKernelModel", "sayIn", "(IIZ)V"⟩ prog_14_method_100_code 4 none,
  .methodLink "FamilyKernelModel" 370 ⟨"FamilyKernelModel", "bound", "(II)Z"⟩,
  .instanceMethod ⟨"FamilyKernelModel", "bound", "(II)Z"⟩,
  .selects "FamilyKernelModel" ⟨"FamilyKernelModel", "bound", "(II)Z"⟩ ⟨"FamilyKernelModel", "bound", "(II)Z"⟩,
  .code ⟨"FamilyKernelModel", "bound", "(II)Z"⟩ prog_14_method_36_code 4 (some .boolean),
  .methodLink "FamilyKernelModel" 606 ⟨"FamilyKernelModel", "sayBinder", "(Ljava/lang/String;II)V"⟩,
  .instanceMethod ⟨"FamilyKernelModel", "sayBinder", "(Ljava/lang/String;II)V"⟩,
  .selects "FamilyKernelModel" ⟨"FamilyKernelModel", "sayBinder", "(Ljava/lang/String;II)V"⟩ ⟨"FamilyKernelModel", "sayBinder", "(Ljava/lang/String;II)V"⟩,
  .code ⟨"FamilyKernelModel", "sayBinder", "(Ljava/lang/String;II)V"⟩ prog_14_method_103_code 4 none,
  .code ⟨"FamilyKernelModel", "fault", "(I)I"⟩ prog_14_method_91_code 2 (some .int),
  .code ⟨"FamilyKernelModel", "reset", "()I"⟩ prog_14_method_92_code 2 (some .int),
  .methodLink "FamilyKernelModel" 577 ⟨"FamilyKernelModel", "none", "(I)Z"⟩,
  .instanceMethod ⟨"FamilyKernelModel", "none", "(I)Z"⟩,
  .selects "FamilyKernelModel" ⟨"FamilyKernelModel", "none", "(I)Z"⟩ ⟨"FamilyKernelModel", "none", "(I)Z"⟩,
  .code ⟨"FamilyKernelModel", "none", "(I)Z"⟩ prog_14_method_93_code 2 (some .boolean),
  .code ⟨"FamilyKernelModel", "constant", "(II)I"⟩ prog_14_method_94_code 4 (some .int),
  .code ⟨"FamilyKernelModel", "show", "(II)I"⟩ prog_14_method_104_code 3 (some .int),
  .code ⟨"FamilyKernelModel", "showRec", "(II)I"⟩ prog_14_method_105_code 4 (some .int),
  .code ⟨"FamilyKernelModel", "out", "(I)I"⟩ prog_14_method_106_code 2 (some .int),
  .code ⟨"FamilyKernelModel", "count", "(I)I"⟩ prog_14_method_107_code 2 (some .int),
  .native ⟨"java/lang/System", "arraycopy", "(Ljava/lang/Object;ILjava/lang/Object;II)V"⟩,
  .initialized "FamilyKernelLaw",
  .initialized "java/lang/Throwable",
  .initialized "java/lang/Exception"]
def vR_44 : List Cond := [.initialized "java/lang/StringLatin1",
  .initialized "jdk/internal/util/Preconditions",
  .initialized "java/lang/StringUTF16",
  .classLink "FamilyKernelLaw" 8 "FamilyKernel",
  .instantiable "FamilyKernel" 14,
  .methodLink "FamilyKernelLaw" 38 ⟨"FamilyKernel", "<init>", "()V"⟩,
  .instanceMethod ⟨"FamilyKernel", "<init>", "()V"⟩,
  .methodLink "FamilyKernelLaw" 56 ⟨"FamilyKernel", "read", "()I"⟩,
  .instanceMethod ⟨"FamilyKernel", "read", "()I"⟩,
  .selects "FamilyKernel" ⟨"FamilyKernel", "read", "()I"⟩ ⟨"FamilyKernel", "read", "()I"⟩,
  .methodLink "java/lang/String" 335 ⟨"java/lang/String", "coder", "()B"⟩,
  .instanceMethod ⟨"java/lang/String", "coder", "()B"⟩,
  .selects "java/lang/String" ⟨"java/lang/String", "coder", "()B"⟩ ⟨"java/lang/String", "coder", "()B"⟩,
  .code ⟨"java/lang/String", "coder", "()B"⟩ prog_23_method_152_code 1 (some .byte),
  .fieldLink "java/lang/String" 38 "java/lang/String" "COMPACT_STRINGS" "Z",
  .methodLink "java/lang/String" 492 ⟨"java/lang/String", "isLatin1", "()Z"⟩,
  .instanceMethod ⟨"java/lang/String", "isLatin1", "()Z"⟩,
  .selects "java/lang/String" ⟨"java/lang/String", "isLatin1", "()Z"⟩ ⟨"java/lang/String", "isLatin1", "()Z"⟩,
  .code ⟨"java/lang/String", "isLatin1", "()Z"⟩ prog_23_method_154_code 1 (some .boolean),
  .methodLink "java/lang/String" 495 ⟨"java/lang/StringLatin1", "charAt", "([BI)C"⟩,
  .static ⟨"java/lang/StringLatin1", "charAt", "([BI)C"⟩,
  .code ⟨"java/lang/StringLatin1", "charAt", "([BI)C"⟩ prog_24_method_2_code 2 (some .char),
  .methodLink "java/lang/StringLatin1" 9 ⟨"java/lang/String", "checkIndex", "(II)V"⟩,
  .static ⟨"java/lang/String", "checkIndex", "(II)V"⟩,
  .code ⟨"java/lang/String", "checkIndex", "(II)V"⟩ prog_23_method_155_code 2 none,
  .fieldLink "java/lang/String" 1053 "jdk/internal/util/Preconditions" "SIOOBE_FORMATTER" "Ljava/util/function/BiFunction;",
  .methodLink "java/lang/String" 1059 ⟨"jdk/internal/util/Preconditions", "checkIndex", "(IILjava/util/function/BiFunction;)I"⟩,
  .static ⟨"jdk/internal/util/Preconditions", "checkIndex", "(IILjava/util/function/BiFunction;)I"⟩,
  .code ⟨"jdk/internal/util/Preconditions", "checkIndex", "(IILjava/util/function/BiFunction;)I"⟩ prog_30_method_11_code 3 (some .int),
  .methodLink "java/lang/String" 498 ⟨"java/lang/StringUTF16", "charAt", "([BI)C"⟩,
  .static ⟨"java/lang/StringUTF16", "charAt", "([BI)C"⟩,
  .code ⟨"java/lang/StringUTF16", "charAt", "([BI)C"⟩ prog_25_method_83_code 2 (some .char),
  .methodLink "java/lang/StringUTF16" 67 ⟨"java/lang/StringUTF16", "checkIndex", "(I[B)V"⟩,
  .static ⟨"java/lang/StringUTF16", "checkIndex", "(I[B)V"⟩,
  .code ⟨"java/lang/StringUTF16", "checkIndex", "(I[B)V"⟩ prog_25_method_91_code 2 none,
  .methodLink "java/lang/StringUTF16" 48 ⟨"java/lang/StringUTF16", "length", "([B)I"⟩,
  .static ⟨"java/lang/StringUTF16", "length", "([B)I"⟩,
  .code ⟨"java/lang/StringUTF16", "length", "([B)I"⟩ prog_25_method_6_code 1 (some .int),
  .methodLink "java/lang/StringUTF16" 414 ⟨"java/lang/String", "checkIndex", "(II)V"⟩,
  .methodLink "java/lang/StringUTF16" 71 ⟨"java/lang/StringUTF16", "getChar", "([BI)C"⟩]
def vR_45 : List Cond := [.static ⟨"java/lang/StringUTF16", "getChar", "([BI)C"⟩,
  .code ⟨"java/lang/StringUTF16", "getChar", "([BI)C"⟩ prog_25_method_5_code 2 (some .char),
  .fieldLink "java/lang/StringUTF16" 44 "java/lang/StringUTF16" "$assertionsDisabled" "Z",
  .fieldLink "java/lang/StringUTF16" 59 "java/lang/StringUTF16" "HI_BYTE_SHIFT" "I",
  .fieldLink "java/lang/StringUTF16" 63 "java/lang/StringUTF16" "LO_BYTE_SHIFT" "I",
  .native ⟨"java/lang/Object", "clone", "()Ljava/lang/Object;"⟩,
  .instanceMethod ⟨"java/lang/Object", "clone", "()Ljava/lang/Object;"⟩,
  .selects "[I" ⟨"[I", "clone", "()Ljava/lang/Object;"⟩ ⟨"java/lang/Object", "clone", "()Ljava/lang/Object;"⟩,
  .classLink "java/util/Arrays" 317 "[I",
  .selects "java/lang/IllegalStateException" ⟨"java/lang/Throwable", "fillInStackTrace", "(I)Ljava/lang/Throwable;"⟩ ⟨"java/lang/Throwable", "fillInStackTrace", "(I)Ljava/lang/Throwable;"⟩,
  .selects "java/lang/IllegalStateException" ⟨"java/lang/Throwable", "fillInStackTrace", "()Ljava/lang/Throwable;"⟩ ⟨"java/lang/Throwable", "fillInStackTrace", "()Ljava/lang/Throwable;"⟩,
  .fieldLink "java/lang/Throwable" 198 "java/lang/Throwable" "backtrace" "Ljava/lang/Object;",
  .instanceMethod ⟨"java/lang/Throwable", "<init>", "()V"⟩,
  .code ⟨"java/lang/Throwable", "<init>", "()V"⟩ prog_27_method_1_code 1 none,
  .methodLink "java/lang/Throwable" 1 ⟨"java/lang/Object", "<init>", "()V"⟩,
  .fieldLink "java/lang/Throwable" 13 "java/lang/Throwable" "UNASSIGNED_STACK" "[Ljava/lang/StackTraceElement;",
  .fieldLink "java/lang/Throwable" 20 "java/lang/Throwable" "SUPPRESSED_SENTINEL" "Ljava/util/List;",
  .methodLink "java/lang/Throwable" 27 ⟨"java/lang/Throwable", "fillInStackTrace", "()Ljava/lang/Throwable;"⟩,
  .instanceMethod ⟨"java/lang/Throwable", "fillInStackTrace", "()Ljava/lang/Throwable;"⟩,
  .selects "FamilyKernelModel$Wrong" ⟨"java/lang/Throwable", "fillInStackTrace", "()Ljava/lang/Throwable;"⟩ ⟨"java/lang/Throwable", "fillInStackTrace", "()Ljava/lang/Throwable;"⟩,
  .selects "java/lang/IllegalArgumentException" ⟨"java/lang/Throwable", "fillInStackTrace", "()Ljava/lang/Throwable;"⟩ ⟨"java/lang/Throwable", "fillInStackTrace", "()Ljava/lang/Throwable;"⟩,
  .selects "java/lang/IndexOutOfBoundsException" ⟨"java/lang/Throwable", "fillInStackTrace", "()Ljava/lang/Throwable;"⟩ ⟨"java/lang/Throwable", "fillInStackTrace", "()Ljava/lang/Throwable;"⟩,
  .selects "java/util/NoSuchElementException" ⟨"java/lang/Throwable", "fillInStackTrace", "()Ljava/lang/Throwable;"⟩ ⟨"java/lang/Throwable", "fillInStackTrace", "()Ljava/lang/Throwable;"⟩,
  .methodLink "java/lang/Throwable" 202 ⟨"java/lang/Throwable", "fillInStackTrace", "(I)Ljava/lang/Throwable;"⟩,
  .instanceMethod ⟨"java/lang/Throwable", "fillInStackTrace", "(I)Ljava/lang/Throwable;"⟩,
  .instantiable "java/lang/Throwable" 6,
  .native ⟨"java/lang/Throwable", "fillInStackTrace", "(I)Ljava/lang/Throwable;"⟩,
  .methodLink "java/lang/IllegalStateException" 1 ⟨"java/lang/RuntimeException", "<init>", "()V"⟩,
  .instanceMethod ⟨"java/lang/RuntimeException", "<init>", "()V"⟩,
  .code ⟨"java/lang/RuntimeException", "<init>", "()V"⟩ prog_22_method_1_code 1 none,
  .methodLink "java/lang/RuntimeException" 1 ⟨"java/lang/Exception", "<init>", "()V"⟩,
  .instanceMethod ⟨"java/lang/Exception", "<init>", "()V"⟩,
  .code ⟨"java/lang/Exception", "<init>", "()V"⟩ prog_17_method_1_code 1 none,
  .methodLink "java/lang/Exception" 1 ⟨"java/lang/Throwable", "<init>", "()V"⟩,
  .fieldLink "java/lang/Throwable" 31 "java/lang/Throwable" "detailMessage" "Ljava/lang/String;",
  .fieldLink "java/lang/Throwable" 7 "java/lang/Throwable" "cause" "Ljava/lang/Throwable;",
  .fieldLink "java/lang/Throwable" 17 "java/lang/Throwable" "stackTrace" "[Ljava/lang/StackTraceElement;",
  .fieldLink "java/lang/Throwable" 24 "java/lang/Throwable" "suppressedExceptions" "Ljava/util/List;",
  .selects "[J" ⟨"[J", "clone", "()Ljava/lang/Object;"⟩ ⟨"java/lang/Object", "clone", "()Ljava/lang/Object;"⟩,
  .classLink "java/util/Arrays" 320 "[J"]
def vR_46 : List Cond := [.methodLink "FamilyKernelLaw" 60 ⟨"FamilyKernel", "fault", "(I)I"⟩,
  .instanceMethod ⟨"FamilyKernel", "fault", "(I)I"⟩,
  .selects "FamilyKernel" ⟨"FamilyKernel", "fault", "(I)I"⟩ ⟨"FamilyKernel", "fault", "(I)I"⟩,
  .methodLink "FamilyKernelLaw" 64 ⟨"FamilyKernel", "reset", "()I"⟩,
  .instanceMethod ⟨"FamilyKernel", "reset", "()I"⟩,
  .selects "FamilyKernel" ⟨"FamilyKernel", "reset", "()I"⟩ ⟨"FamilyKernel", "reset", "()I"⟩,
  .methodLink "FamilyKernelLaw" 81 ⟨"FamilyKernel", "count", "(I)I"⟩,
  .instanceMethod ⟨"FamilyKernel", "count", "(I)I"⟩,
  .selects "FamilyKernel" ⟨"FamilyKernel", "count", "(I)I"⟩ ⟨"FamilyKernel", "count", "(I)I"⟩,
  .methodLink "FamilyKernelLaw" 42 ⟨"FamilyKernelLaw", "feed", "(LFamilyKernel;IIIII[J)I"⟩,
  .static ⟨"FamilyKernelLaw", "feed", "(LFamilyKernel;IIIII[J)I"⟩,
  .classLink "FamilyKernelLaw" 13 "java/lang/IllegalStateException",
  .methodLink "FamilyKernelLaw" 48 ⟨"FamilyKernelLaw", "end", "(LFamilyKernel;I[J)I"⟩,
  .static ⟨"FamilyKernelLaw", "end", "(LFamilyKernel;I[J)I"⟩,
  .classLink "FamilyKernelLaw" 19 "java/lang/IllegalArgumentException",
  .selects "java/lang/IllegalArgumentException" ⟨"java/lang/Throwable", "fillInStackTrace", "(I)Ljava/lang/Throwable;"⟩ ⟨"java/lang/Throwable", "fillInStackTrace", "(I)Ljava/lang/Throwable;"⟩,
  .methodLink "java/lang/IllegalArgumentException" 1 ⟨"java/lang/RuntimeException", "<init>", "()V"⟩,
  .methodLink "FamilyKernelLaw" 68 ⟨"FamilyKernelLaw", "constant", "(LFamilyKernel;II[J)I"⟩,
  .static ⟨"FamilyKernelLaw", "constant", "(LFamilyKernel;II[J)I"⟩,
  .classLink "FamilyKernelLaw" 25 "java/util/NoSuchElementException",
  .selects "java/util/NoSuchElementException" ⟨"java/lang/Throwable", "fillInStackTrace", "(I)Ljava/lang/Throwable;"⟩ ⟨"java/lang/Throwable", "fillInStackTrace", "(I)Ljava/lang/Throwable;"⟩,
  .methodLink "java/util/NoSuchElementException" 1 ⟨"java/lang/RuntimeException", "<init>", "()V"⟩,
  .methodLink "FamilyKernelLaw" 72 ⟨"FamilyKernelLaw", "show", "(LFamilyKernel;II[J)I"⟩,
  .static ⟨"FamilyKernelLaw", "show", "(LFamilyKernel;II[J)I"⟩,
  .methodLink "FamilyKernelLaw" 75 ⟨"FamilyKernelLaw", "showRec", "(LFamilyKernel;II[J)I"⟩,
  .static ⟨"FamilyKernelLaw", "showRec", "(LFamilyKernel;II[J)I"⟩,
  .methodLink "FamilyKernelLaw" 78 ⟨"FamilyKernelLaw", "out", "(LFamilyKernel;I[J)I"⟩,
  .static ⟨"FamilyKernelLaw", "out", "(LFamilyKernel;I[J)I"⟩,
  .classLink "FamilyKernelLaw" 36 "java/lang/IndexOutOfBoundsException",
  .selects "java/lang/IndexOutOfBoundsException" ⟨"java/lang/Throwable", "fillInStackTrace", "(I)Ljava/lang/Throwable;"⟩ ⟨"java/lang/Throwable", "fillInStackTrace", "(I)Ljava/lang/Throwable;"⟩,
  .methodLink "java/lang/IndexOutOfBoundsException" 1 ⟨"java/lang/RuntimeException", "<init>", "()V"⟩,
  .classLink "FamilyKernelLaw" 39 "FamilyKernelModel",
  .instantiable "FamilyKernelModel" 76,
  .methodLink "FamilyKernelLaw" 41 ⟨"FamilyKernelModel", "<init>", "()V"⟩,
  .instanceMethod ⟨"FamilyKernelModel", "<init>", "()V"⟩,
  .methodLink "FamilyKernelLaw" 52 ⟨"FamilyKernelModel", "thrown", "()I"⟩,
  .instanceMethod ⟨"FamilyKernelModel", "thrown", "()I"⟩,
  .selects "FamilyKernelModel" ⟨"FamilyKernelModel", "thrown", "()I"⟩ ⟨"FamilyKernelModel", "thrown", "()I"⟩,
  .methodLink "FamilyKernelLaw" 47 ⟨"FamilyKernelModel", "feed", "(IIIII)I"⟩,
  .instanceMethod ⟨"FamilyKernelModel", "feed", "(IIIII)I"⟩]
def vR_47 : List Cond := [.selects "FamilyKernelModel" ⟨"FamilyKernelModel", "feed", "(IIIII)I"⟩ ⟨"FamilyKernelModel", "feed", "(IIIII)I"⟩,
  .methodLink "FamilyKernelLaw" 51 ⟨"FamilyKernelModel", "end", "(I)I"⟩,
  .instanceMethod ⟨"FamilyKernelModel", "end", "(I)I"⟩,
  .selects "FamilyKernelModel" ⟨"FamilyKernelModel", "end", "(I)I"⟩ ⟨"FamilyKernelModel", "end", "(I)I"⟩,
  .methodLink "FamilyKernelLaw" 59 ⟨"FamilyKernelModel", "read", "()I"⟩,
  .instanceMethod ⟨"FamilyKernelModel", "read", "()I"⟩,
  .selects "FamilyKernelModel" ⟨"FamilyKernelModel", "read", "()I"⟩ ⟨"FamilyKernelModel", "read", "()I"⟩,
  .selects "FamilyKernelModel$Wrong" ⟨"java/lang/Throwable", "fillInStackTrace", "(I)Ljava/lang/Throwable;"⟩ ⟨"java/lang/Throwable", "fillInStackTrace", "(I)Ljava/lang/Throwable;"⟩,
  .methodLink "java/lang/RuntimeException" 16 ⟨"java/lang/Exception", "<init>", "(Ljava/lang/String;Ljava/lang/Throwable;ZZ)V"⟩,
  .instanceMethod ⟨"java/lang/Exception", "<init>", "(Ljava/lang/String;Ljava/lang/Throwable;ZZ)V"⟩,
  .code ⟨"java/lang/Exception", "<init>", "(Ljava/lang/String;Ljava/lang/Throwable;ZZ)V"⟩ prog_17_method_5_code 5 none,
  .methodLink "java/lang/Exception" 16 ⟨"java/lang/Throwable", "<init>", "(Ljava/lang/String;Ljava/lang/Throwable;ZZ)V"⟩,
  .instanceMethod ⟨"java/lang/Throwable", "<init>", "(Ljava/lang/String;Ljava/lang/Throwable;ZZ)V"⟩,
  .code ⟨"java/lang/Throwable", "<init>", "(Ljava/lang/String;Ljava/lang/Throwable;ZZ)V"⟩ prog_27_method_5_code 5 none,
  .methodLink "FamilyKernelLaw" 63 ⟨"FamilyKernelModel", "fault", "(I)I"⟩,
  .instanceMethod ⟨"FamilyKernelModel", "fault", "(I)I"⟩,
  .selects "FamilyKernelModel" ⟨"FamilyKernelModel", "fault", "(I)I"⟩ ⟨"FamilyKernelModel", "fault", "(I)I"⟩,
  .methodLink "FamilyKernelLaw" 67 ⟨"FamilyKernelModel", "reset", "()I"⟩,
  .instanceMethod ⟨"FamilyKernelModel", "reset", "()I"⟩,
  .selects "FamilyKernelModel" ⟨"FamilyKernelModel", "reset", "()I"⟩ ⟨"FamilyKernelModel", "reset", "()I"⟩,
  .methodLink "FamilyKernelLaw" 71 ⟨"FamilyKernelModel", "constant", "(II)I"⟩,
  .instanceMethod ⟨"FamilyKernelModel", "constant", "(II)I"⟩,
  .selects "FamilyKernelModel" ⟨"FamilyKernelModel", "constant", "(II)I"⟩ ⟨"FamilyKernelModel", "constant", "(II)I"⟩,
  .methodLink "FamilyKernelLaw" 74 ⟨"FamilyKernelModel", "show", "(II)I"⟩,
  .instanceMethod ⟨"FamilyKernelModel", "show", "(II)I"⟩,
  .selects "FamilyKernelModel" ⟨"FamilyKernelModel", "show", "(II)I"⟩ ⟨"FamilyKernelModel", "show", "(II)I"⟩,
  .methodLink "FamilyKernelLaw" 77 ⟨"FamilyKernelModel", "showRec", "(II)I"⟩,
  .instanceMethod ⟨"FamilyKernelModel", "showRec", "(II)I"⟩,
  .selects "FamilyKernelModel" ⟨"FamilyKernelModel", "showRec", "(II)I"⟩ ⟨"FamilyKernelModel", "showRec", "(II)I"⟩,
  .methodLink "FamilyKernelLaw" 80 ⟨"FamilyKernelModel", "out", "(I)I"⟩,
  .instanceMethod ⟨"FamilyKernelModel", "out", "(I)I"⟩,
  .selects "FamilyKernelModel" ⟨"FamilyKernelModel", "out", "(I)I"⟩ ⟨"FamilyKernelModel", "out", "(I)I"⟩,
  .methodLink "FamilyKernelLaw" 84 ⟨"FamilyKernelModel", "count", "(I)I"⟩,
  .instanceMethod ⟨"FamilyKernelModel", "count", "(I)I"⟩,
  .selects "FamilyKernelModel" ⟨"FamilyKernelModel", "count", "(I)I"⟩ ⟨"FamilyKernelModel", "count", "(I)I"⟩,
  .fieldLink "java/lang/String" 9 "java/lang/String" "value" "[B",
  .fieldLink "java/lang/String" 15 "java/lang/String" "coder" "B",
  .lays "java/lang/IllegalStateException" "java/lang/Throwable" "cause" "Ljava/lang/Throwable;",
  .lays "java/lang/Throwable" "java/lang/Throwable" "cause" "Ljava/lang/Throwable;",
  .lays "java/lang/IllegalStateException" "java/lang/Throwable" "stackTrace" "[Ljava/lang/StackTraceElement;"]
def vR_48 : List Cond := [.lays "java/lang/Throwable" "java/lang/Throwable" "stackTrace" "[Ljava/lang/StackTraceElement;",
  .lays "java/lang/IllegalStateException" "java/lang/Throwable" "suppressedExceptions" "Ljava/util/List;",
  .lays "java/lang/Throwable" "java/lang/Throwable" "suppressedExceptions" "Ljava/util/List;",
  .lays "java/lang/IllegalStateException" "java/lang/Throwable" "detailMessage" "Ljava/lang/String;",
  .lays "java/lang/Throwable" "java/lang/Throwable" "detailMessage" "Ljava/lang/String;",
  .lays "java/lang/IllegalStateException" "java/lang/Throwable" "backtrace" "Ljava/lang/Object;",
  .lays "java/lang/Throwable" "java/lang/Throwable" "backtrace" "Ljava/lang/Object;",
  .superclass "java/lang/Throwable" "java/lang/Object",
  .sameMethod "java/lang/Throwable" "java/lang/Throwable" "fillInStackTrace" "()Ljava/lang/Throwable;",
  .codeSync ⟨"java/lang/Throwable", "fillInStackTrace", "()Ljava/lang/Throwable;"⟩ prog_27_method_18_code 1 (some (.object "java/lang/Throwable")),
  .soleField "java/lang/Throwable" "backtrace",
  .soleField "java/lang/Throwable" "detailMessage",
  .soleField "java/lang/Throwable" "cause",
  .soleField "java/lang/Throwable" "stackTrace",
  .lays "java/lang/IllegalStateException" "java/lang/Throwable" "depth" "I",
  .soleField "java/lang/Throwable" "depth",
  .soleField "java/lang/Throwable" "suppressedExceptions",
  .superclass "java/lang/IllegalStateException" "java/lang/RuntimeException",
  .lays "java/lang/IllegalArgumentException" "java/lang/Throwable" "cause" "Ljava/lang/Throwable;",
  .lays "java/lang/IllegalArgumentException" "java/lang/Throwable" "stackTrace" "[Ljava/lang/StackTraceElement;",
  .lays "java/lang/IllegalArgumentException" "java/lang/Throwable" "suppressedExceptions" "Ljava/util/List;",
  .lays "java/lang/IllegalArgumentException" "java/lang/Throwable" "detailMessage" "Ljava/lang/String;",
  .lays "java/lang/IllegalArgumentException" "java/lang/Throwable" "backtrace" "Ljava/lang/Object;",
  .lays "java/lang/IllegalArgumentException" "java/lang/Throwable" "depth" "I",
  .superclass "java/lang/IllegalArgumentException" "java/lang/RuntimeException",
  .lays "java/util/NoSuchElementException" "java/lang/Throwable" "cause" "Ljava/lang/Throwable;",
  .lays "java/util/NoSuchElementException" "java/lang/Throwable" "stackTrace" "[Ljava/lang/StackTraceElement;",
  .lays "java/util/NoSuchElementException" "java/lang/Throwable" "suppressedExceptions" "Ljava/util/List;",
  .lays "java/util/NoSuchElementException" "java/lang/Throwable" "detailMessage" "Ljava/lang/String;",
  .lays "java/util/NoSuchElementException" "java/lang/Throwable" "backtrace" "Ljava/lang/Object;",
  .lays "java/util/NoSuchElementException" "java/lang/Throwable" "depth" "I",
  .superclass "java/util/NoSuchElementException" "java/lang/RuntimeException",
  .lays "java/lang/IndexOutOfBoundsException" "java/lang/Throwable" "cause" "Ljava/lang/Throwable;",
  .lays "java/lang/IndexOutOfBoundsException" "java/lang/Throwable" "stackTrace" "[Ljava/lang/StackTraceElement;",
  .lays "java/lang/IndexOutOfBoundsException" "java/lang/Throwable" "suppressedExceptions" "Ljava/util/List;",
  .lays "java/lang/IndexOutOfBoundsException" "java/lang/Throwable" "detailMessage" "Ljava/lang/String;",
  .lays "java/lang/IndexOutOfBoundsException" "java/lang/Throwable" "backtrace" "Ljava/lang/Object;",
  .lays "java/lang/IndexOutOfBoundsException" "java/lang/Throwable" "depth" "I",
  .superclass "java/lang/IndexOutOfBoundsException" "java/lang/RuntimeException",
  .lays "FamilyKernelModel$Wrong" "java/lang/Throwable" "cause" "Ljava/lang/Throwable;"]
def vR_49 : List Cond := [.lays "FamilyKernelModel$Wrong" "java/lang/Throwable" "stackTrace" "[Ljava/lang/StackTraceElement;",
  .lays "FamilyKernelModel$Wrong" "java/lang/Throwable" "suppressedExceptions" "Ljava/util/List;",
  .lays "FamilyKernelModel$Wrong" "java/lang/Throwable" "detailMessage" "Ljava/lang/String;",
  .lays "FamilyKernelModel$Wrong" "java/lang/Throwable" "backtrace" "Ljava/lang/Object;",
  .laysFinal "FamilyKernelModel$Wrong" "FamilyKernelModel$Wrong" "kind" "I",
  .soleField "FamilyKernelModel$Wrong" "kind",
  .laysFinal "FamilyKernelModel$Wrong" "FamilyKernelModel$Wrong" "place" "I",
  .soleField "FamilyKernelModel$Wrong" "place",
  .lays "FamilyKernelModel$Wrong" "java/lang/Throwable" "depth" "I",
  .superclass "FamilyKernelModel$Wrong" "java/lang/RuntimeException",
  .sameMethod "java/lang/Throwable" "java/lang/Throwable" "fillInStackTrace" "(I)Ljava/lang/Throwable;"]
def vT : List Cond := u_ws R_Row T_Row 3 ++ (u_ws R_Meter T_Meter 4 ++ (u_ws R_Terms T_Terms 10 ++ (u_ws R_Env T_Env 3 ++ (u_ws R_Lex T_Lex 7 ++ (u_ws R_Par T_Par 20 ++ (u_ws R_Fra T_Fra 3 ++ (u_ws R_Red T_Red 5 ++ (u_ws R_Typ T_Typ 4 ++ (u_ws R_Fam T_Fam 18 ++ (u_ws R_Pri T_Pri 4 ++ (u_ws R_Ker T_Ker 14 ++ (u_ws R_Mod T_Mod 76 ++ (u_ws R_Wro T_Wro 8 ++ (vR_0 ++ (vR_1 ++ (vR_2 ++ (vR_3 ++ (vR_4 ++ (vR_5 ++ (vR_6 ++ (vR_7 ++ (vR_8 ++ (vR_9 ++ (vR_10 ++ (vR_11 ++ (vR_12 ++ (vR_13 ++ (vR_14 ++ (vR_15 ++ (vR_16 ++ (vR_17 ++ (vR_18 ++ (vR_19 ++ (vR_20 ++ (vR_21 ++ (vR_22 ++ (vR_23 ++ (vR_24 ++ (vR_25 ++ (vR_26 ++ (vR_27 ++ (vR_28 ++ (vR_29 ++ (vR_30 ++ (vR_31 ++ (vR_32 ++ (vR_33 ++ (vR_34 ++ (vR_35 ++ (vR_36 ++ (vR_37 ++ (vR_38 ++ (vR_39 ++ (vR_40 ++ (vR_41 ++ (vR_42 ++ (vR_43 ++ (vR_44 ++ (vR_45 ++ (vR_46 ++ (vR_47 ++ (vR_48 ++ (vR_49)))))))))))))))))))))))))))))))))))))))))))))))))))))))))))))))
theorem in_Row : ∀ w ∈ u_ws R_Row T_Row 3, w ∈ vT := fun _ h => List.mem_append_left _ (h)
theorem in_Meter : ∀ w ∈ u_ws R_Meter T_Meter 4, w ∈ vT := fun _ h => List.mem_append_right _ (List.mem_append_left _ (h))
theorem in_Terms : ∀ w ∈ u_ws R_Terms T_Terms 10, w ∈ vT := fun _ h => List.mem_append_right _ (List.mem_append_right _ (List.mem_append_left _ (h)))
theorem in_Env : ∀ w ∈ u_ws R_Env T_Env 3, w ∈ vT := fun _ h => List.mem_append_right _ (List.mem_append_right _ (List.mem_append_right _ (List.mem_append_left _ (h))))
theorem in_Lex : ∀ w ∈ u_ws R_Lex T_Lex 7, w ∈ vT := fun _ h => List.mem_append_right _ (List.mem_append_right _ (List.mem_append_right _ (List.mem_append_right _ (List.mem_append_left _ (h)))))
theorem in_Par : ∀ w ∈ u_ws R_Par T_Par 20, w ∈ vT := fun _ h => List.mem_append_right _ (List.mem_append_right _ (List.mem_append_right _ (List.mem_append_right _ (List.mem_append_right _ (List.mem_append_left _ (h))))))
theorem in_Fra : ∀ w ∈ u_ws R_Fra T_Fra 3, w ∈ vT := fun _ h => List.mem_append_right _ (List.mem_append_right _ (List.mem_append_right _ (List.mem_append_right _ (List.mem_append_right _ (List.mem_append_right _ (List.mem_append_left _ (h)))))))
theorem in_Red : ∀ w ∈ u_ws R_Red T_Red 5, w ∈ vT := fun _ h => List.mem_append_right _ (List.mem_append_right _ (List.mem_append_right _ (List.mem_append_right _ (List.mem_append_right _ (List.mem_append_right _ (List.mem_append_right _ (List.mem_append_left _ (h))))))))
theorem in_Typ : ∀ w ∈ u_ws R_Typ T_Typ 4, w ∈ vT := fun _ h => List.mem_append_right _ (List.mem_append_right _ (List.mem_append_right _ (List.mem_append_right _ (List.mem_append_right _ (List.mem_append_right _ (List.mem_append_right _ (List.mem_append_right _ (List.mem_append_left _ (h)))))))))
theorem in_Fam : ∀ w ∈ u_ws R_Fam T_Fam 18, w ∈ vT := fun _ h => List.mem_append_right _ (List.mem_append_right _ (List.mem_append_right _ (List.mem_append_right _ (List.mem_append_right _ (List.mem_append_right _ (List.mem_append_right _ (List.mem_append_right _ (List.mem_append_right _ (List.mem_append_left _ (h))))))))))
theorem in_Pri : ∀ w ∈ u_ws R_Pri T_Pri 4, w ∈ vT := fun _ h => List.mem_append_right _ (List.mem_append_right _ (List.mem_append_right _ (List.mem_append_right _ (List.mem_append_right _ (List.mem_append_right _ (List.mem_append_right _ (List.mem_append_right _ (List.mem_append_right _ (List.mem_append_right _ (List.mem_append_left _ (h)))))))))))
theorem in_Ker : ∀ w ∈ u_ws R_Ker T_Ker 14, w ∈ vT := fun _ h => List.mem_append_right _ (List.mem_append_right _ (List.mem_append_right _ (List.mem_append_right _ (List.mem_append_right _ (List.mem_append_right _ (List.mem_append_right _ (List.mem_append_right _ (List.mem_append_right _ (List.mem_append_right _ (List.mem_append_right _ (List.mem_append_left _ (h))))))))))))
theorem in_Mod : ∀ w ∈ u_ws R_Mod T_Mod 76, w ∈ vT := fun _ h => List.mem_append_right _ (List.mem_append_right _ (List.mem_append_right _ (List.mem_append_right _ (List.mem_append_right _ (List.mem_append_right _ (List.mem_append_right _ (List.mem_append_right _ (List.mem_append_right _ (List.mem_append_right _ (List.mem_append_right _ (List.mem_append_right _ (List.mem_append_left _ (h)))))))))))))
theorem in_Wro : ∀ w ∈ u_ws R_Wro T_Wro 8, w ∈ vT := fun _ h => List.mem_append_right _ (List.mem_append_right _ (List.mem_append_right _ (List.mem_append_right _ (List.mem_append_right _ (List.mem_append_right _ (List.mem_append_right _ (List.mem_append_right _ (List.mem_append_right _ (List.mem_append_right _ (List.mem_append_right _ (List.mem_append_right _ (List.mem_append_right _ (List.mem_append_left _ (h))))))))))))))
theorem inR_0 : ∀ w ∈ vR_0, w ∈ vT := fun _ h => List.mem_append_right _ (List.mem_append_right _ (List.mem_append_right _ (List.mem_append_right _ (List.mem_append_right _ (List.mem_append_right _ (List.mem_append_right _ (List.mem_append_right _ (List.mem_append_right _ (List.mem_append_right _ (List.mem_append_right _ (List.mem_append_right _ (List.mem_append_right _ (List.mem_append_right _ (List.mem_append_left _ (h)))))))))))))))
theorem inR_1 : ∀ w ∈ vR_1, w ∈ vT := fun _ h => List.mem_append_right _ (List.mem_append_right _ (List.mem_append_right _ (List.mem_append_right _ (List.mem_append_right _ (List.mem_append_right _ (List.mem_append_right _ (List.mem_append_right _ (List.mem_append_right _ (List.mem_append_right _ (List.mem_append_right _ (List.mem_append_right _ (List.mem_append_right _ (List.mem_append_right _ (List.mem_append_right _ (List.mem_append_left _ (h))))))))))))))))
theorem inR_2 : ∀ w ∈ vR_2, w ∈ vT := fun _ h => List.mem_append_right _ (List.mem_append_right _ (List.mem_append_right _ (List.mem_append_right _ (List.mem_append_right _ (List.mem_append_right _ (List.mem_append_right _ (List.mem_append_right _ (List.mem_append_right _ (List.mem_append_right _ (List.mem_append_right _ (List.mem_append_right _ (List.mem_append_right _ (List.mem_append_right _ (List.mem_append_right _ (List.mem_append_right _ (List.mem_append_left _ (h)))))))))))))))))
theorem inR_3 : ∀ w ∈ vR_3, w ∈ vT := fun _ h => List.mem_append_right _ (List.mem_append_right _ (List.mem_append_right _ (List.mem_append_right _ (List.mem_append_right _ (List.mem_append_right _ (List.mem_append_right _ (List.mem_append_right _ (List.mem_append_right _ (List.mem_append_right _ (List.mem_append_right _ (List.mem_append_right _ (List.mem_append_right _ (List.mem_append_right _ (List.mem_append_right _ (List.mem_append_right _ (List.mem_append_right _ (List.mem_append_left _ (h))))))))))))))))))
theorem inR_4 : ∀ w ∈ vR_4, w ∈ vT := fun _ h => List.mem_append_right _ (List.mem_append_right _ (List.mem_append_right _ (List.mem_append_right _ (List.mem_append_right _ (List.mem_append_right _ (List.mem_append_right _ (List.mem_append_right _ (List.mem_append_right _ (List.mem_append_right _ (List.mem_append_right _ (List.mem_append_right _ (List.mem_append_right _ (List.mem_append_right _ (List.mem_append_right _ (List.mem_append_right _ (List.mem_append_right _ (List.mem_append_right _ (List.mem_append_left _ (h)))))))))))))))))))
theorem inR_5 : ∀ w ∈ vR_5, w ∈ vT := fun _ h => List.mem_append_right _ (List.mem_append_right _ (List.mem_append_right _ (List.mem_append_right _ (List.mem_append_right _ (List.mem_append_right _ (List.mem_append_right _ (List.mem_append_right _ (List.mem_append_right _ (List.mem_append_right _ (List.mem_append_right _ (List.mem_append_right _ (List.mem_append_right _ (List.mem_append_right _ (List.mem_append_right _ (List.mem_append_right _ (List.mem_append_right _ (List.mem_append_right _ (List.mem_append_right _ (List.mem_append_left _ (h))))))))))))))))))))
theorem inR_6 : ∀ w ∈ vR_6, w ∈ vT := fun _ h => List.mem_append_right _ (List.mem_append_right _ (List.mem_append_right _ (List.mem_append_right _ (List.mem_append_right _ (List.mem_append_right _ (List.mem_append_right _ (List.mem_append_right _ (List.mem_append_right _ (List.mem_append_right _ (List.mem_append_right _ (List.mem_append_right _ (List.mem_append_right _ (List.mem_append_right _ (List.mem_append_right _ (List.mem_append_right _ (List.mem_append_right _ (List.mem_append_right _ (List.mem_append_right _ (List.mem_append_right _ (List.mem_append_left _ (h)))))))))))))))))))))
theorem inR_7 : ∀ w ∈ vR_7, w ∈ vT := fun _ h => List.mem_append_right _ (List.mem_append_right _ (List.mem_append_right _ (List.mem_append_right _ (List.mem_append_right _ (List.mem_append_right _ (List.mem_append_right _ (List.mem_append_right _ (List.mem_append_right _ (List.mem_append_right _ (List.mem_append_right _ (List.mem_append_right _ (List.mem_append_right _ (List.mem_append_right _ (List.mem_append_right _ (List.mem_append_right _ (List.mem_append_right _ (List.mem_append_right _ (List.mem_append_right _ (List.mem_append_right _ (List.mem_append_right _ (List.mem_append_left _ (h))))))))))))))))))))))
theorem inR_8 : ∀ w ∈ vR_8, w ∈ vT := fun _ h => List.mem_append_right _ (List.mem_append_right _ (List.mem_append_right _ (List.mem_append_right _ (List.mem_append_right _ (List.mem_append_right _ (List.mem_append_right _ (List.mem_append_right _ (List.mem_append_right _ (List.mem_append_right _ (List.mem_append_right _ (List.mem_append_right _ (List.mem_append_right _ (List.mem_append_right _ (List.mem_append_right _ (List.mem_append_right _ (List.mem_append_right _ (List.mem_append_right _ (List.mem_append_right _ (List.mem_append_right _ (List.mem_append_right _ (List.mem_append_right _ (List.mem_append_left _ (h)))))))))))))))))))))))
theorem inR_9 : ∀ w ∈ vR_9, w ∈ vT := fun _ h => List.mem_append_right _ (List.mem_append_right _ (List.mem_append_right _ (List.mem_append_right _ (List.mem_append_right _ (List.mem_append_right _ (List.mem_append_right _ (List.mem_append_right _ (List.mem_append_right _ (List.mem_append_right _ (List.mem_append_right _ (List.mem_append_right _ (List.mem_append_right _ (List.mem_append_right _ (List.mem_append_right _ (List.mem_append_right _ (List.mem_append_right _ (List.mem_append_right _ (List.mem_append_right _ (List.mem_append_right _ (List.mem_append_right _ (List.mem_append_right _ (List.mem_append_right _ (List.mem_append_left _ (h))))))))))))))))))))))))
theorem inR_10 : ∀ w ∈ vR_10, w ∈ vT := fun _ h => List.mem_append_right _ (List.mem_append_right _ (List.mem_append_right _ (List.mem_append_right _ (List.mem_append_right _ (List.mem_append_right _ (List.mem_append_right _ (List.mem_append_right _ (List.mem_append_right _ (List.mem_append_right _ (List.mem_append_right _ (List.mem_append_right _ (List.mem_append_right _ (List.mem_append_right _ (List.mem_append_right _ (List.mem_append_right _ (List.mem_append_right _ (List.mem_append_right _ (List.mem_append_right _ (List.mem_append_right _ (List.mem_append_right _ (List.mem_append_right _ (List.mem_append_right _ (List.mem_append_right _ (List.mem_append_left _ (h)))))))))))))))))))))))))
theorem inR_11 : ∀ w ∈ vR_11, w ∈ vT := fun _ h => List.mem_append_right _ (List.mem_append_right _ (List.mem_append_right _ (List.mem_append_right _ (List.mem_append_right _ (List.mem_append_right _ (List.mem_append_right _ (List.mem_append_right _ (List.mem_append_right _ (List.mem_append_right _ (List.mem_append_right _ (List.mem_append_right _ (List.mem_append_right _ (List.mem_append_right _ (List.mem_append_right _ (List.mem_append_right _ (List.mem_append_right _ (List.mem_append_right _ (List.mem_append_right _ (List.mem_append_right _ (List.mem_append_right _ (List.mem_append_right _ (List.mem_append_right _ (List.mem_append_right _ (List.mem_append_right _ (List.mem_append_left _ (h))))))))))))))))))))))))))
theorem inR_12 : ∀ w ∈ vR_12, w ∈ vT := fun _ h => List.mem_append_right _ (List.mem_append_right _ (List.mem_append_right _ (List.mem_append_right _ (List.mem_append_right _ (List.mem_append_right _ (List.mem_append_right _ (List.mem_append_right _ (List.mem_append_right _ (List.mem_append_right _ (List.mem_append_right _ (List.mem_append_right _ (List.mem_append_right _ (List.mem_append_right _ (List.mem_append_right _ (List.mem_append_right _ (List.mem_append_right _ (List.mem_append_right _ (List.mem_append_right _ (List.mem_append_right _ (List.mem_append_right _ (List.mem_append_right _ (List.mem_append_right _ (List.mem_append_right _ (List.mem_append_right _ (List.mem_append_right _ (List.mem_append_left _ (h)))))))))))))))))))))))))))
theorem inR_13 : ∀ w ∈ vR_13, w ∈ vT := fun _ h => List.mem_append_right _ (List.mem_append_right _ (List.mem_append_right _ (List.mem_append_right _ (List.mem_append_right _ (List.mem_append_right _ (List.mem_append_right _ (List.mem_append_right _ (List.mem_append_right _ (List.mem_append_right _ (List.mem_append_right _ (List.mem_append_right _ (List.mem_append_right _ (List.mem_append_right _ (List.mem_append_right _ (List.mem_append_right _ (List.mem_append_right _ (List.mem_append_right _ (List.mem_append_right _ (List.mem_append_right _ (List.mem_append_right _ (List.mem_append_right _ (List.mem_append_right _ (List.mem_append_right _ (List.mem_append_right _ (List.mem_append_right _ (List.mem_append_right _ (List.mem_append_left _ (h))))))))))))))))))))))))))))
theorem inR_14 : ∀ w ∈ vR_14, w ∈ vT := fun _ h => List.mem_append_right _ (List.mem_append_right _ (List.mem_append_right _ (List.mem_append_right _ (List.mem_append_right _ (List.mem_append_right _ (List.mem_append_right _ (List.mem_append_right _ (List.mem_append_right _ (List.mem_append_right _ (List.mem_append_right _ (List.mem_append_right _ (List.mem_append_right _ (List.mem_append_right _ (List.mem_append_right _ (List.mem_append_right _ (List.mem_append_right _ (List.mem_append_right _ (List.mem_append_right _ (List.mem_append_right _ (List.mem_append_right _ (List.mem_append_right _ (List.mem_append_right _ (List.mem_append_right _ (List.mem_append_right _ (List.mem_append_right _ (List.mem_append_right _ (List.mem_append_right _ (List.mem_append_left _ (h)))))))))))))))))))))))))))))
theorem inR_15 : ∀ w ∈ vR_15, w ∈ vT := fun _ h => List.mem_append_right _ (List.mem_append_right _ (List.mem_append_right _ (List.mem_append_right _ (List.mem_append_right _ (List.mem_append_right _ (List.mem_append_right _ (List.mem_append_right _ (List.mem_append_right _ (List.mem_append_right _ (List.mem_append_right _ (List.mem_append_right _ (List.mem_append_right _ (List.mem_append_right _ (List.mem_append_right _ (List.mem_append_right _ (List.mem_append_right _ (List.mem_append_right _ (List.mem_append_right _ (List.mem_append_right _ (List.mem_append_right _ (List.mem_append_right _ (List.mem_append_right _ (List.mem_append_right _ (List.mem_append_right _ (List.mem_append_right _ (List.mem_append_right _ (List.mem_append_right _ (List.mem_append_right _ (List.mem_append_left _ (h))))))))))))))))))))))))))))))
theorem inR_16 : ∀ w ∈ vR_16, w ∈ vT := fun _ h => List.mem_append_right _ (List.mem_append_right _ (List.mem_append_right _ (List.mem_append_right _ (List.mem_append_right _ (List.mem_append_right _ (List.mem_append_right _ (List.mem_append_right _ (List.mem_append_right _ (List.mem_append_right _ (List.mem_append_right _ (List.mem_append_right _ (List.mem_append_right _ (List.mem_append_right _ (List.mem_append_right _ (List.mem_append_right _ (List.mem_append_right _ (List.mem_append_right _ (List.mem_append_right _ (List.mem_append_right _ (List.mem_append_right _ (List.mem_append_right _ (List.mem_append_right _ (List.mem_append_right _ (List.mem_append_right _ (List.mem_append_right _ (List.mem_append_right _ (List.mem_append_right _ (List.mem_append_right _ (List.mem_append_right _ (List.mem_append_left _ (h)))))))))))))))))))))))))))))))
theorem inR_17 : ∀ w ∈ vR_17, w ∈ vT := fun _ h => List.mem_append_right _ (List.mem_append_right _ (List.mem_append_right _ (List.mem_append_right _ (List.mem_append_right _ (List.mem_append_right _ (List.mem_append_right _ (List.mem_append_right _ (List.mem_append_right _ (List.mem_append_right _ (List.mem_append_right _ (List.mem_append_right _ (List.mem_append_right _ (List.mem_append_right _ (List.mem_append_right _ (List.mem_append_right _ (List.mem_append_right _ (List.mem_append_right _ (List.mem_append_right _ (List.mem_append_right _ (List.mem_append_right _ (List.mem_append_right _ (List.mem_append_right _ (List.mem_append_right _ (List.mem_append_right _ (List.mem_append_right _ (List.mem_append_right _ (List.mem_append_right _ (List.mem_append_right _ (List.mem_append_right _ (List.mem_append_right _ (List.mem_append_left _ (h))))))))))))))))))))))))))))))))
theorem inR_18 : ∀ w ∈ vR_18, w ∈ vT := fun _ h => List.mem_append_right _ (List.mem_append_right _ (List.mem_append_right _ (List.mem_append_right _ (List.mem_append_right _ (List.mem_append_right _ (List.mem_append_right _ (List.mem_append_right _ (List.mem_append_right _ (List.mem_append_right _ (List.mem_append_right _ (List.mem_append_right _ (List.mem_append_right _ (List.mem_append_right _ (List.mem_append_right _ (List.mem_append_right _ (List.mem_append_right _ (List.mem_append_right _ (List.mem_append_right _ (List.mem_append_right _ (List.mem_append_right _ (List.mem_append_right _ (List.mem_append_right _ (List.mem_append_right _ (List.mem_append_right _ (List.mem_append_right _ (List.mem_append_right _ (List.mem_append_right _ (List.mem_append_right _ (List.mem_append_right _ (List.mem_append_right _ (List.mem_append_right _ (List.mem_append_left _ (h)))))))))))))))))))))))))))))))))
theorem inR_19 : ∀ w ∈ vR_19, w ∈ vT := fun _ h => List.mem_append_right _ (List.mem_append_right _ (List.mem_append_right _ (List.mem_append_right _ (List.mem_append_right _ (List.mem_append_right _ (List.mem_append_right _ (List.mem_append_right _ (List.mem_append_right _ (List.mem_append_right _ (List.mem_append_right _ (List.mem_append_right _ (List.mem_append_right _ (List.mem_append_right _ (List.mem_append_right _ (List.mem_append_right _ (List.mem_append_right _ (List.mem_append_right _ (List.mem_append_right _ (List.mem_append_right _ (List.mem_append_right _ (List.mem_append_right _ (List.mem_append_right _ (List.mem_append_right _ (List.mem_append_right _ (List.mem_append_right _ (List.mem_append_right _ (List.mem_append_right _ (List.mem_append_right _ (List.mem_append_right _ (List.mem_append_right _ (List.mem_append_right _ (List.mem_append_right _ (List.mem_append_left _ (h))))))))))))))))))))))))))))))))))
theorem inR_20 : ∀ w ∈ vR_20, w ∈ vT := fun _ h => List.mem_append_right _ (List.mem_append_right _ (List.mem_append_right _ (List.mem_append_right _ (List.mem_append_right _ (List.mem_append_right _ (List.mem_append_right _ (List.mem_append_right _ (List.mem_append_right _ (List.mem_append_right _ (List.mem_append_right _ (List.mem_append_right _ (List.mem_append_right _ (List.mem_append_right _ (List.mem_append_right _ (List.mem_append_right _ (List.mem_append_right _ (List.mem_append_right _ (List.mem_append_right _ (List.mem_append_right _ (List.mem_append_right _ (List.mem_append_right _ (List.mem_append_right _ (List.mem_append_right _ (List.mem_append_right _ (List.mem_append_right _ (List.mem_append_right _ (List.mem_append_right _ (List.mem_append_right _ (List.mem_append_right _ (List.mem_append_right _ (List.mem_append_right _ (List.mem_append_right _ (List.mem_append_right _ (List.mem_append_left _ (h)))))))))))))))))))))))))))))))))))
theorem inR_21 : ∀ w ∈ vR_21, w ∈ vT := fun _ h => List.mem_append_right _ (List.mem_append_right _ (List.mem_append_right _ (List.mem_append_right _ (List.mem_append_right _ (List.mem_append_right _ (List.mem_append_right _ (List.mem_append_right _ (List.mem_append_right _ (List.mem_append_right _ (List.mem_append_right _ (List.mem_append_right _ (List.mem_append_right _ (List.mem_append_right _ (List.mem_append_right _ (List.mem_append_right _ (List.mem_append_right _ (List.mem_append_right _ (List.mem_append_right _ (List.mem_append_right _ (List.mem_append_right _ (List.mem_append_right _ (List.mem_append_right _ (List.mem_append_right _ (List.mem_append_right _ (List.mem_append_right _ (List.mem_append_right _ (List.mem_append_right _ (List.mem_append_right _ (List.mem_append_right _ (List.mem_append_right _ (List.mem_append_right _ (List.mem_append_right _ (List.mem_append_right _ (List.mem_append_right _ (List.mem_append_left _ (h))))))))))))))))))))))))))))))))))))
theorem inR_22 : ∀ w ∈ vR_22, w ∈ vT := fun _ h => List.mem_append_right _ (List.mem_append_right _ (List.mem_append_right _ (List.mem_append_right _ (List.mem_append_right _ (List.mem_append_right _ (List.mem_append_right _ (List.mem_append_right _ (List.mem_append_right _ (List.mem_append_right _ (List.mem_append_right _ (List.mem_append_right _ (List.mem_append_right _ (List.mem_append_right _ (List.mem_append_right _ (List.mem_append_right _ (List.mem_append_right _ (List.mem_append_right _ (List.mem_append_right _ (List.mem_append_right _ (List.mem_append_right _ (List.mem_append_right _ (List.mem_append_right _ (List.mem_append_right _ (List.mem_append_right _ (List.mem_append_right _ (List.mem_append_right _ (List.mem_append_right _ (List.mem_append_right _ (List.mem_append_right _ (List.mem_append_right _ (List.mem_append_right _ (List.mem_append_right _ (List.mem_append_right _ (List.mem_append_right _ (List.mem_append_right _ (List.mem_append_left _ (h)))))))))))))))))))))))))))))))))))))
theorem inR_23 : ∀ w ∈ vR_23, w ∈ vT := fun _ h => List.mem_append_right _ (List.mem_append_right _ (List.mem_append_right _ (List.mem_append_right _ (List.mem_append_right _ (List.mem_append_right _ (List.mem_append_right _ (List.mem_append_right _ (List.mem_append_right _ (List.mem_append_right _ (List.mem_append_right _ (List.mem_append_right _ (List.mem_append_right _ (List.mem_append_right _ (List.mem_append_right _ (List.mem_append_right _ (List.mem_append_right _ (List.mem_append_right _ (List.mem_append_right _ (List.mem_append_right _ (List.mem_append_right _ (List.mem_append_right _ (List.mem_append_right _ (List.mem_append_right _ (List.mem_append_right _ (List.mem_append_right _ (List.mem_append_right _ (List.mem_append_right _ (List.mem_append_right _ (List.mem_append_right _ (List.mem_append_right _ (List.mem_append_right _ (List.mem_append_right _ (List.mem_append_right _ (List.mem_append_right _ (List.mem_append_right _ (List.mem_append_right _ (List.mem_append_left _ (h))))))))))))))))))))))))))))))))))))))
theorem inR_24 : ∀ w ∈ vR_24, w ∈ vT := fun _ h => List.mem_append_right _ (List.mem_append_right _ (List.mem_append_right _ (List.mem_append_right _ (List.mem_append_right _ (List.mem_append_right _ (List.mem_append_right _ (List.mem_append_right _ (List.mem_append_right _ (List.mem_append_right _ (List.mem_append_right _ (List.mem_append_right _ (List.mem_append_right _ (List.mem_append_right _ (List.mem_append_right _ (List.mem_append_right _ (List.mem_append_right _ (List.mem_append_right _ (List.mem_append_right _ (List.mem_append_right _ (List.mem_append_right _ (List.mem_append_right _ (List.mem_append_right _ (List.mem_append_right _ (List.mem_append_right _ (List.mem_append_right _ (List.mem_append_right _ (List.mem_append_right _ (List.mem_append_right _ (List.mem_append_right _ (List.mem_append_right _ (List.mem_append_right _ (List.mem_append_right _ (List.mem_append_right _ (List.mem_append_right _ (List.mem_append_right _ (List.mem_append_right _ (List.mem_append_right _ (List.mem_append_left _ (h)))))))))))))))))))))))))))))))))))))))
theorem inR_25 : ∀ w ∈ vR_25, w ∈ vT := fun _ h => List.mem_append_right _ (List.mem_append_right _ (List.mem_append_right _ (List.mem_append_right _ (List.mem_append_right _ (List.mem_append_right _ (List.mem_append_right _ (List.mem_append_right _ (List.mem_append_right _ (List.mem_append_right _ (List.mem_append_right _ (List.mem_append_right _ (List.mem_append_right _ (List.mem_append_right _ (List.mem_append_right _ (List.mem_append_right _ (List.mem_append_right _ (List.mem_append_right _ (List.mem_append_right _ (List.mem_append_right _ (List.mem_append_right _ (List.mem_append_right _ (List.mem_append_right _ (List.mem_append_right _ (List.mem_append_right _ (List.mem_append_right _ (List.mem_append_right _ (List.mem_append_right _ (List.mem_append_right _ (List.mem_append_right _ (List.mem_append_right _ (List.mem_append_right _ (List.mem_append_right _ (List.mem_append_right _ (List.mem_append_right _ (List.mem_append_right _ (List.mem_append_right _ (List.mem_append_right _ (List.mem_append_right _ (List.mem_append_left _ (h))))))))))))))))))))))))))))))))))))))))
theorem inR_26 : ∀ w ∈ vR_26, w ∈ vT := fun _ h => List.mem_append_right _ (List.mem_append_right _ (List.mem_append_right _ (List.mem_append_right _ (List.mem_append_right _ (List.mem_append_right _ (List.mem_append_right _ (List.mem_append_right _ (List.mem_append_right _ (List.mem_append_right _ (List.mem_append_right _ (List.mem_append_right _ (List.mem_append_right _ (List.mem_append_right _ (List.mem_append_right _ (List.mem_append_right _ (List.mem_append_right _ (List.mem_append_right _ (List.mem_append_right _ (List.mem_append_right _ (List.mem_append_right _ (List.mem_append_right _ (List.mem_append_right _ (List.mem_append_right _ (List.mem_append_right _ (List.mem_append_right _ (List.mem_append_right _ (List.mem_append_right _ (List.mem_append_right _ (List.mem_append_right _ (List.mem_append_right _ (List.mem_append_right _ (List.mem_append_right _ (List.mem_append_right _ (List.mem_append_right _ (List.mem_append_right _ (List.mem_append_right _ (List.mem_append_right _ (List.mem_append_right _ (List.mem_append_right _ (List.mem_append_left _ (h)))))))))))))))))))))))))))))))))))))))))
theorem inR_27 : ∀ w ∈ vR_27, w ∈ vT := fun _ h => List.mem_append_right _ (List.mem_append_right _ (List.mem_append_right _ (List.mem_append_right _ (List.mem_append_right _ (List.mem_append_right _ (List.mem_append_right _ (List.mem_append_right _ (List.mem_append_right _ (List.mem_append_right _ (List.mem_append_right _ (List.mem_append_right _ (List.mem_append_right _ (List.mem_append_right _ (List.mem_append_right _ (List.mem_append_right _ (List.mem_append_right _ (List.mem_append_right _ (List.mem_append_right _ (List.mem_append_right _ (List.mem_append_right _ (List.mem_append_right _ (List.mem_append_right _ (List.mem_append_right _ (List.mem_append_right _ (List.mem_append_right _ (List.mem_append_right _ (List.mem_append_right _ (List.mem_append_right _ (List.mem_append_right _ (List.mem_append_right _ (List.mem_append_right _ (List.mem_append_right _ (List.mem_append_right _ (List.mem_append_right _ (List.mem_append_right _ (List.mem_append_right _ (List.mem_append_right _ (List.mem_append_right _ (List.mem_append_right _ (List.mem_append_right _ (List.mem_append_left _ (h))))))))))))))))))))))))))))))))))))))))))
theorem inR_28 : ∀ w ∈ vR_28, w ∈ vT := fun _ h => List.mem_append_right _ (List.mem_append_right _ (List.mem_append_right _ (List.mem_append_right _ (List.mem_append_right _ (List.mem_append_right _ (List.mem_append_right _ (List.mem_append_right _ (List.mem_append_right _ (List.mem_append_right _ (List.mem_append_right _ (List.mem_append_right _ (List.mem_append_right _ (List.mem_append_right _ (List.mem_append_right _ (List.mem_append_right _ (List.mem_append_right _ (List.mem_append_right _ (List.mem_append_right _ (List.mem_append_right _ (List.mem_append_right _ (List.mem_append_right _ (List.mem_append_right _ (List.mem_append_right _ (List.mem_append_right _ (List.mem_append_right _ (List.mem_append_right _ (List.mem_append_right _ (List.mem_append_right _ (List.mem_append_right _ (List.mem_append_right _ (List.mem_append_right _ (List.mem_append_right _ (List.mem_append_right _ (List.mem_append_right _ (List.mem_append_right _ (List.mem_append_right _ (List.mem_append_right _ (List.mem_append_right _ (List.mem_append_right _ (List.mem_append_right _ (List.mem_append_right _ (List.mem_append_left _ (h)))))))))))))))))))))))))))))))))))))))))))
theorem inR_29 : ∀ w ∈ vR_29, w ∈ vT := fun _ h => List.mem_append_right _ (List.mem_append_right _ (List.mem_append_right _ (List.mem_append_right _ (List.mem_append_right _ (List.mem_append_right _ (List.mem_append_right _ (List.mem_append_right _ (List.mem_append_right _ (List.mem_append_right _ (List.mem_append_right _ (List.mem_append_right _ (List.mem_append_right _ (List.mem_append_right _ (List.mem_append_right _ (List.mem_append_right _ (List.mem_append_right _ (List.mem_append_right _ (List.mem_append_right _ (List.mem_append_right _ (List.mem_append_right _ (List.mem_append_right _ (List.mem_append_right _ (List.mem_append_right _ (List.mem_append_right _ (List.mem_append_right _ (List.mem_append_right _ (List.mem_append_right _ (List.mem_append_right _ (List.mem_append_right _ (List.mem_append_right _ (List.mem_append_right _ (List.mem_append_right _ (List.mem_append_right _ (List.mem_append_right _ (List.mem_append_right _ (List.mem_append_right _ (List.mem_append_right _ (List.mem_append_right _ (List.mem_append_right _ (List.mem_append_right _ (List.mem_append_right _ (List.mem_append_right _ (List.mem_append_left _ (h))))))))))))))))))))))))))))))))))))))))))))
theorem inR_30 : ∀ w ∈ vR_30, w ∈ vT := fun _ h => List.mem_append_right _ (List.mem_append_right _ (List.mem_append_right _ (List.mem_append_right _ (List.mem_append_right _ (List.mem_append_right _ (List.mem_append_right _ (List.mem_append_right _ (List.mem_append_right _ (List.mem_append_right _ (List.mem_append_right _ (List.mem_append_right _ (List.mem_append_right _ (List.mem_append_right _ (List.mem_append_right _ (List.mem_append_right _ (List.mem_append_right _ (List.mem_append_right _ (List.mem_append_right _ (List.mem_append_right _ (List.mem_append_right _ (List.mem_append_right _ (List.mem_append_right _ (List.mem_append_right _ (List.mem_append_right _ (List.mem_append_right _ (List.mem_append_right _ (List.mem_append_right _ (List.mem_append_right _ (List.mem_append_right _ (List.mem_append_right _ (List.mem_append_right _ (List.mem_append_right _ (List.mem_append_right _ (List.mem_append_right _ (List.mem_append_right _ (List.mem_append_right _ (List.mem_append_right _ (List.mem_append_right _ (List.mem_append_right _ (List.mem_append_right _ (List.mem_append_right _ (List.mem_append_right _ (List.mem_append_right _ (List.mem_append_left _ (h)))))))))))))))))))))))))))))))))))))))))))))
theorem inR_31 : ∀ w ∈ vR_31, w ∈ vT := fun _ h => List.mem_append_right _ (List.mem_append_right _ (List.mem_append_right _ (List.mem_append_right _ (List.mem_append_right _ (List.mem_append_right _ (List.mem_append_right _ (List.mem_append_right _ (List.mem_append_right _ (List.mem_append_right _ (List.mem_append_right _ (List.mem_append_right _ (List.mem_append_right _ (List.mem_append_right _ (List.mem_append_right _ (List.mem_append_right _ (List.mem_append_right _ (List.mem_append_right _ (List.mem_append_right _ (List.mem_append_right _ (List.mem_append_right _ (List.mem_append_right _ (List.mem_append_right _ (List.mem_append_right _ (List.mem_append_right _ (List.mem_append_right _ (List.mem_append_right _ (List.mem_append_right _ (List.mem_append_right _ (List.mem_append_right _ (List.mem_append_right _ (List.mem_append_right _ (List.mem_append_right _ (List.mem_append_right _ (List.mem_append_right _ (List.mem_append_right _ (List.mem_append_right _ (List.mem_append_right _ (List.mem_append_right _ (List.mem_append_right _ (List.mem_append_right _ (List.mem_append_right _ (List.mem_append_right _ (List.mem_append_right _ (List.mem_append_right _ (List.mem_append_left _ (h))))))))))))))))))))))))))))))))))))))))))))))
theorem inR_32 : ∀ w ∈ vR_32, w ∈ vT := fun _ h => List.mem_append_right _ (List.mem_append_right _ (List.mem_append_right _ (List.mem_append_right _ (List.mem_append_right _ (List.mem_append_right _ (List.mem_append_right _ (List.mem_append_right _ (List.mem_append_right _ (List.mem_append_right _ (List.mem_append_right _ (List.mem_append_right _ (List.mem_append_right _ (List.mem_append_right _ (List.mem_append_right _ (List.mem_append_right _ (List.mem_append_right _ (List.mem_append_right _ (List.mem_append_right _ (List.mem_append_right _ (List.mem_append_right _ (List.mem_append_right _ (List.mem_append_right _ (List.mem_append_right _ (List.mem_append_right _ (List.mem_append_right _ (List.mem_append_right _ (List.mem_append_right _ (List.mem_append_right _ (List.mem_append_right _ (List.mem_append_right _ (List.mem_append_right _ (List.mem_append_right _ (List.mem_append_right _ (List.mem_append_right _ (List.mem_append_right _ (List.mem_append_right _ (List.mem_append_right _ (List.mem_append_right _ (List.mem_append_right _ (List.mem_append_right _ (List.mem_append_right _ (List.mem_append_right _ (List.mem_append_right _ (List.mem_append_right _ (List.mem_append_right _ (List.mem_append_left _ (h)))))))))))))))))))))))))))))))))))))))))))))))
theorem inR_33 : ∀ w ∈ vR_33, w ∈ vT := fun _ h => List.mem_append_right _ (List.mem_append_right _ (List.mem_append_right _ (List.mem_append_right _ (List.mem_append_right _ (List.mem_append_right _ (List.mem_append_right _ (List.mem_append_right _ (List.mem_append_right _ (List.mem_append_right _ (List.mem_append_right _ (List.mem_append_right _ (List.mem_append_right _ (List.mem_append_right _ (List.mem_append_right _ (List.mem_append_right _ (List.mem_append_right _ (List.mem_append_right _ (List.mem_append_right _ (List.mem_append_right _ (List.mem_append_right _ (List.mem_append_right _ (List.mem_append_right _ (List.mem_append_right _ (List.mem_append_right _ (List.mem_append_right _ (List.mem_append_right _ (List.mem_append_right _ (List.mem_append_right _ (List.mem_append_right _ (List.mem_append_right _ (List.mem_append_right _ (List.mem_append_right _ (List.mem_append_right _ (List.mem_append_right _ (List.mem_append_right _ (List.mem_append_right _ (List.mem_append_right _ (List.mem_append_right _ (List.mem_append_right _ (List.mem_append_right _ (List.mem_append_right _ (List.mem_append_right _ (List.mem_append_right _ (List.mem_append_right _ (List.mem_append_right _ (List.mem_append_right _ (List.mem_append_left _ (h))))))))))))))))))))))))))))))))))))))))))))))))
theorem inR_34 : ∀ w ∈ vR_34, w ∈ vT := fun _ h => List.mem_append_right _ (List.mem_append_right _ (List.mem_append_right _ (List.mem_append_right _ (List.mem_append_right _ (List.mem_append_right _ (List.mem_append_right _ (List.mem_append_right _ (List.mem_append_right _ (List.mem_append_right _ (List.mem_append_right _ (List.mem_append_right _ (List.mem_append_right _ (List.mem_append_right _ (List.mem_append_right _ (List.mem_append_right _ (List.mem_append_right _ (List.mem_append_right _ (List.mem_append_right _ (List.mem_append_right _ (List.mem_append_right _ (List.mem_append_right _ (List.mem_append_right _ (List.mem_append_right _ (List.mem_append_right _ (List.mem_append_right _ (List.mem_append_right _ (List.mem_append_right _ (List.mem_append_right _ (List.mem_append_right _ (List.mem_append_right _ (List.mem_append_right _ (List.mem_append_right _ (List.mem_append_right _ (List.mem_append_right _ (List.mem_append_right _ (List.mem_append_right _ (List.mem_append_right _ (List.mem_append_right _ (List.mem_append_right _ (List.mem_append_right _ (List.mem_append_right _ (List.mem_append_right _ (List.mem_append_right _ (List.mem_append_right _ (List.mem_append_right _ (List.mem_append_right _ (List.mem_append_right _ (List.mem_append_left _ (h)))))))))))))))))))))))))))))))))))))))))))))))))
theorem inR_35 : ∀ w ∈ vR_35, w ∈ vT := fun _ h => List.mem_append_right _ (List.mem_append_right _ (List.mem_append_right _ (List.mem_append_right _ (List.mem_append_right _ (List.mem_append_right _ (List.mem_append_right _ (List.mem_append_right _ (List.mem_append_right _ (List.mem_append_right _ (List.mem_append_right _ (List.mem_append_right _ (List.mem_append_right _ (List.mem_append_right _ (List.mem_append_right _ (List.mem_append_right _ (List.mem_append_right _ (List.mem_append_right _ (List.mem_append_right _ (List.mem_append_right _ (List.mem_append_right _ (List.mem_append_right _ (List.mem_append_right _ (List.mem_append_right _ (List.mem_append_right _ (List.mem_append_right _ (List.mem_append_right _ (List.mem_append_right _ (List.mem_append_right _ (List.mem_append_right _ (List.mem_append_right _ (List.mem_append_right _ (List.mem_append_right _ (List.mem_append_right _ (List.mem_append_right _ (List.mem_append_right _ (List.mem_append_right _ (List.mem_append_right _ (List.mem_append_right _ (List.mem_append_right _ (List.mem_append_right _ (List.mem_append_right _ (List.mem_append_right _ (List.mem_append_right _ (List.mem_append_right _ (List.mem_append_right _ (List.mem_append_right _ (List.mem_append_right _ (List.mem_append_right _ (List.mem_append_left _ (h))))))))))))))))))))))))))))))))))))))))))))))))))
theorem inR_36 : ∀ w ∈ vR_36, w ∈ vT := fun _ h => List.mem_append_right _ (List.mem_append_right _ (List.mem_append_right _ (List.mem_append_right _ (List.mem_append_right _ (List.mem_append_right _ (List.mem_append_right _ (List.mem_append_right _ (List.mem_append_right _ (List.mem_append_right _ (List.mem_append_right _ (List.mem_append_right _ (List.mem_append_right _ (List.mem_append_right _ (List.mem_append_right _ (List.mem_append_right _ (List.mem_append_right _ (List.mem_append_right _ (List.mem_append_right _ (List.mem_append_right _ (List.mem_append_right _ (List.mem_append_right _ (List.mem_append_right _ (List.mem_append_right _ (List.mem_append_right _ (List.mem_append_right _ (List.mem_append_right _ (List.mem_append_right _ (List.mem_append_right _ (List.mem_append_right _ (List.mem_append_right _ (List.mem_append_right _ (List.mem_append_right _ (List.mem_append_right _ (List.mem_append_right _ (List.mem_append_right _ (List.mem_append_right _ (List.mem_append_right _ (List.mem_append_right _ (List.mem_append_right _ (List.mem_append_right _ (List.mem_append_right _ (List.mem_append_right _ (List.mem_append_right _ (List.mem_append_right _ (List.mem_append_right _ (List.mem_append_right _ (List.mem_append_right _ (List.mem_append_right _ (List.mem_append_right _ (List.mem_append_left _ (h)))))))))))))))))))))))))))))))))))))))))))))))))))
theorem inR_37 : ∀ w ∈ vR_37, w ∈ vT := fun _ h => List.mem_append_right _ (List.mem_append_right _ (List.mem_append_right _ (List.mem_append_right _ (List.mem_append_right _ (List.mem_append_right _ (List.mem_append_right _ (List.mem_append_right _ (List.mem_append_right _ (List.mem_append_right _ (List.mem_append_right _ (List.mem_append_right _ (List.mem_append_right _ (List.mem_append_right _ (List.mem_append_right _ (List.mem_append_right _ (List.mem_append_right _ (List.mem_append_right _ (List.mem_append_right _ (List.mem_append_right _ (List.mem_append_right _ (List.mem_append_right _ (List.mem_append_right _ (List.mem_append_right _ (List.mem_append_right _ (List.mem_append_right _ (List.mem_append_right _ (List.mem_append_right _ (List.mem_append_right _ (List.mem_append_right _ (List.mem_append_right _ (List.mem_append_right _ (List.mem_append_right _ (List.mem_append_right _ (List.mem_append_right _ (List.mem_append_right _ (List.mem_append_right _ (List.mem_append_right _ (List.mem_append_right _ (List.mem_append_right _ (List.mem_append_right _ (List.mem_append_right _ (List.mem_append_right _ (List.mem_append_right _ (List.mem_append_right _ (List.mem_append_right _ (List.mem_append_right _ (List.mem_append_right _ (List.mem_append_right _ (List.mem_append_right _ (List.mem_append_right _ (List.mem_append_left _ (h))))))))))))))))))))))))))))))))))))))))))))))))))))
theorem inR_38 : ∀ w ∈ vR_38, w ∈ vT := fun _ h => List.mem_append_right _ (List.mem_append_right _ (List.mem_append_right _ (List.mem_append_right _ (List.mem_append_right _ (List.mem_append_right _ (List.mem_append_right _ (List.mem_append_right _ (List.mem_append_right _ (List.mem_append_right _ (List.mem_append_right _ (List.mem_append_right _ (List.mem_append_right _ (List.mem_append_right _ (List.mem_append_right _ (List.mem_append_right _ (List.mem_append_right _ (List.mem_append_right _ (List.mem_append_right _ (List.mem_append_right _ (List.mem_append_right _ (List.mem_append_right _ (List.mem_append_right _ (List.mem_append_right _ (List.mem_append_right _ (List.mem_append_right _ (List.mem_append_right _ (List.mem_append_right _ (List.mem_append_right _ (List.mem_append_right _ (List.mem_append_right _ (List.mem_append_right _ (List.mem_append_right _ (List.mem_append_right _ (List.mem_append_right _ (List.mem_append_right _ (List.mem_append_right _ (List.mem_append_right _ (List.mem_append_right _ (List.mem_append_right _ (List.mem_append_right _ (List.mem_append_right _ (List.mem_append_right _ (List.mem_append_right _ (List.mem_append_right _ (List.mem_append_right _ (List.mem_append_right _ (List.mem_append_right _ (List.mem_append_right _ (List.mem_append_right _ (List.mem_append_right _ (List.mem_append_right _ (List.mem_append_left _ (h)))))))))))))))))))))))))))))))))))))))))))))))))))))
theorem inR_39 : ∀ w ∈ vR_39, w ∈ vT := fun _ h => List.mem_append_right _ (List.mem_append_right _ (List.mem_append_right _ (List.mem_append_right _ (List.mem_append_right _ (List.mem_append_right _ (List.mem_append_right _ (List.mem_append_right _ (List.mem_append_right _ (List.mem_append_right _ (List.mem_append_right _ (List.mem_append_right _ (List.mem_append_right _ (List.mem_append_right _ (List.mem_append_right _ (List.mem_append_right _ (List.mem_append_right _ (List.mem_append_right _ (List.mem_append_right _ (List.mem_append_right _ (List.mem_append_right _ (List.mem_append_right _ (List.mem_append_right _ (List.mem_append_right _ (List.mem_append_right _ (List.mem_append_right _ (List.mem_append_right _ (List.mem_append_right _ (List.mem_append_right _ (List.mem_append_right _ (List.mem_append_right _ (List.mem_append_right _ (List.mem_append_right _ (List.mem_append_right _ (List.mem_append_right _ (List.mem_append_right _ (List.mem_append_right _ (List.mem_append_right _ (List.mem_append_right _ (List.mem_append_right _ (List.mem_append_right _ (List.mem_append_right _ (List.mem_append_right _ (List.mem_append_right _ (List.mem_append_right _ (List.mem_append_right _ (List.mem_append_right _ (List.mem_append_right _ (List.mem_append_right _ (List.mem_append_right _ (List.mem_append_right _ (List.mem_append_right _ (List.mem_append_right _ (List.mem_append_left _ (h))))))))))))))))))))))))))))))))))))))))))))))))))))))
theorem inR_40 : ∀ w ∈ vR_40, w ∈ vT := fun _ h => List.mem_append_right _ (List.mem_append_right _ (List.mem_append_right _ (List.mem_append_right _ (List.mem_append_right _ (List.mem_append_right _ (List.mem_append_right _ (List.mem_append_right _ (List.mem_append_right _ (List.mem_append_right _ (List.mem_append_right _ (List.mem_append_right _ (List.mem_append_right _ (List.mem_append_right _ (List.mem_append_right _ (List.mem_append_right _ (List.mem_append_right _ (List.mem_append_right _ (List.mem_append_right _ (List.mem_append_right _ (List.mem_append_right _ (List.mem_append_right _ (List.mem_append_right _ (List.mem_append_right _ (List.mem_append_right _ (List.mem_append_right _ (List.mem_append_right _ (List.mem_append_right _ (List.mem_append_right _ (List.mem_append_right _ (List.mem_append_right _ (List.mem_append_right _ (List.mem_append_right _ (List.mem_append_right _ (List.mem_append_right _ (List.mem_append_right _ (List.mem_append_right _ (List.mem_append_right _ (List.mem_append_right _ (List.mem_append_right _ (List.mem_append_right _ (List.mem_append_right _ (List.mem_append_right _ (List.mem_append_right _ (List.mem_append_right _ (List.mem_append_right _ (List.mem_append_right _ (List.mem_append_right _ (List.mem_append_right _ (List.mem_append_right _ (List.mem_append_right _ (List.mem_append_right _ (List.mem_append_right _ (List.mem_append_right _ (List.mem_append_left _ (h)))))))))))))))))))))))))))))))))))))))))))))))))))))))
theorem inR_41 : ∀ w ∈ vR_41, w ∈ vT := fun _ h => List.mem_append_right _ (List.mem_append_right _ (List.mem_append_right _ (List.mem_append_right _ (List.mem_append_right _ (List.mem_append_right _ (List.mem_append_right _ (List.mem_append_right _ (List.mem_append_right _ (List.mem_append_right _ (List.mem_append_right _ (List.mem_append_right _ (List.mem_append_right _ (List.mem_append_right _ (List.mem_append_right _ (List.mem_append_right _ (List.mem_append_right _ (List.mem_append_right _ (List.mem_append_right _ (List.mem_append_right _ (List.mem_append_right _ (List.mem_append_right _ (List.mem_append_right _ (List.mem_append_right _ (List.mem_append_right _ (List.mem_append_right _ (List.mem_append_right _ (List.mem_append_right _ (List.mem_append_right _ (List.mem_append_right _ (List.mem_append_right _ (List.mem_append_right _ (List.mem_append_right _ (List.mem_append_right _ (List.mem_append_right _ (List.mem_append_right _ (List.mem_append_right _ (List.mem_append_right _ (List.mem_append_right _ (List.mem_append_right _ (List.mem_append_right _ (List.mem_append_right _ (List.mem_append_right _ (List.mem_append_right _ (List.mem_append_right _ (List.mem_append_right _ (List.mem_append_right _ (List.mem_append_right _ (List.mem_append_right _ (List.mem_append_right _ (List.mem_append_right _ (List.mem_append_right _ (List.mem_append_right _ (List.mem_append_right _ (List.mem_append_right _ (List.mem_append_left _ (h))))))))))))))))))))))))))))))))))))))))))))))))))))))))
theorem inR_42 : ∀ w ∈ vR_42, w ∈ vT := fun _ h => List.mem_append_right _ (List.mem_append_right _ (List.mem_append_right _ (List.mem_append_right _ (List.mem_append_right _ (List.mem_append_right _ (List.mem_append_right _ (List.mem_append_right _ (List.mem_append_right _ (List.mem_append_right _ (List.mem_append_right _ (List.mem_append_right _ (List.mem_append_right _ (List.mem_append_right _ (List.mem_append_right _ (List.mem_append_right _ (List.mem_append_right _ (List.mem_append_right _ (List.mem_append_right _ (List.mem_append_right _ (List.mem_append_right _ (List.mem_append_right _ (List.mem_append_right _ (List.mem_append_right _ (List.mem_append_right _ (List.mem_append_right _ (List.mem_append_right _ (List.mem_append_right _ (List.mem_append_right _ (List.mem_append_right _ (List.mem_append_right _ (List.mem_append_right _ (List.mem_append_right _ (List.mem_append_right _ (List.mem_append_right _ (List.mem_append_right _ (List.mem_append_right _ (List.mem_append_right _ (List.mem_append_right _ (List.mem_append_right _ (List.mem_append_right _ (List.mem_append_right _ (List.mem_append_right _ (List.mem_append_right _ (List.mem_append_right _ (List.mem_append_right _ (List.mem_append_right _ (List.mem_append_right _ (List.mem_append_right _ (List.mem_append_right _ (List.mem_append_right _ (List.mem_append_right _ (List.mem_append_right _ (List.mem_append_right _ (List.mem_append_right _ (List.mem_append_right _ (List.mem_append_left _ (h)))))))))))))))))))))))))))))))))))))))))))))))))))))))))
theorem inR_43 : ∀ w ∈ vR_43, w ∈ vT := fun _ h => List.mem_append_right _ (List.mem_append_right _ (List.mem_append_right _ (List.mem_append_right _ (List.mem_append_right _ (List.mem_append_right _ (List.mem_append_right _ (List.mem_append_right _ (List.mem_append_right _ (List.mem_append_right _ (List.mem_append_right _ (List.mem_append_right _ (List.mem_append_right _ (List.mem_append_right _ (List.mem_append_right _ (List.mem_append_right _ (List.mem_append_right _ (List.mem_append_right _ (List.mem_append_right _ (List.mem_append_right _ (List.mem_append_right _ (List.mem_append_right _ (List.mem_append_right _ (List.mem_append_right _ (List.mem_append_right _ (List.mem_append_right _ (List.mem_append_right _ (List.mem_append_right _ (List.mem_append_right _ (List.mem_append_right _ (List.mem_append_right _ (List.mem_append_right _ (List.mem_append_right _ (List.mem_append_right _ (List.mem_append_right _ (List.mem_append_right _ (List.mem_append_right _ (List.mem_append_right _ (List.mem_append_right _ (List.mem_append_right _ (List.mem_append_right _ (List.mem_append_right _ (List.mem_append_right _ (List.mem_append_right _ (List.mem_append_right _ (List.mem_append_right _ (List.mem_append_right _ (List.mem_append_right _ (List.mem_append_right _ (List.mem_append_right _ (List.mem_append_right _ (List.mem_append_right _ (List.mem_append_right _ (List.mem_append_right _ (List.mem_append_right _ (List.mem_append_right _ (List.mem_append_right _ (List.mem_append_left _ (h))))))))))))))))))))))))))))))))))))))))))))))))))))))))))
theorem inR_44 : ∀ w ∈ vR_44, w ∈ vT := fun _ h => List.mem_append_right _ (List.mem_append_right _ (List.mem_append_right _ (List.mem_append_right _ (List.mem_append_right _ (List.mem_append_right _ (List.mem_append_right _ (List.mem_append_right _ (List.mem_append_right _ (List.mem_append_right _ (List.mem_append_right _ (List.mem_append_right _ (List.mem_append_right _ (List.mem_append_right _ (List.mem_append_right _ (List.mem_append_right _ (List.mem_append_right _ (List.mem_append_right _ (List.mem_append_right _ (List.mem_append_right _ (List.mem_append_right _ (List.mem_append_right _ (List.mem_append_right _ (List.mem_append_right _ (List.mem_append_right _ (List.mem_append_right _ (List.mem_append_right _ (List.mem_append_right _ (List.mem_append_right _ (List.mem_append_right _ (List.mem_append_right _ (List.mem_append_right _ (List.mem_append_right _ (List.mem_append_right _ (List.mem_append_right _ (List.mem_append_right _ (List.mem_append_right _ (List.mem_append_right _ (List.mem_append_right _ (List.mem_append_right _ (List.mem_append_right _ (List.mem_append_right _ (List.mem_append_right _ (List.mem_append_right _ (List.mem_append_right _ (List.mem_append_right _ (List.mem_append_right _ (List.mem_append_right _ (List.mem_append_right _ (List.mem_append_right _ (List.mem_append_right _ (List.mem_append_right _ (List.mem_append_right _ (List.mem_append_right _ (List.mem_append_right _ (List.mem_append_right _ (List.mem_append_right _ (List.mem_append_right _ (List.mem_append_left _ (h)))))))))))))))))))))))))))))))))))))))))))))))))))))))))))
theorem inR_45 : ∀ w ∈ vR_45, w ∈ vT := fun _ h => List.mem_append_right _ (List.mem_append_right _ (List.mem_append_right _ (List.mem_append_right _ (List.mem_append_right _ (List.mem_append_right _ (List.mem_append_right _ (List.mem_append_right _ (List.mem_append_right _ (List.mem_append_right _ (List.mem_append_right _ (List.mem_append_right _ (List.mem_append_right _ (List.mem_append_right _ (List.mem_append_right _ (List.mem_append_right _ (List.mem_append_right _ (List.mem_append_right _ (List.mem_append_right _ (List.mem_append_right _ (List.mem_append_right _ (List.mem_append_right _ (List.mem_append_right _ (List.mem_append_right _ (List.mem_append_right _ (List.mem_append_right _ (List.mem_append_right _ (List.mem_append_right _ (List.mem_append_right _ (List.mem_append_right _ (List.mem_append_right _ (List.mem_append_right _ (List.mem_append_right _ (List.mem_append_right _ (List.mem_append_right _ (List.mem_append_right _ (List.mem_append_right _ (List.mem_append_right _ (List.mem_append_right _ (List.mem_append_right _ (List.mem_append_right _ (List.mem_append_right _ (List.mem_append_right _ (List.mem_append_right _ (List.mem_append_right _ (List.mem_append_right _ (List.mem_append_right _ (List.mem_append_right _ (List.mem_append_right _ (List.mem_append_right _ (List.mem_append_right _ (List.mem_append_right _ (List.mem_append_right _ (List.mem_append_right _ (List.mem_append_right _ (List.mem_append_right _ (List.mem_append_right _ (List.mem_append_right _ (List.mem_append_right _ (List.mem_append_left _ (h))))))))))))))))))))))))))))))))))))))))))))))))))))))))))))
theorem inR_46 : ∀ w ∈ vR_46, w ∈ vT := fun _ h => List.mem_append_right _ (List.mem_append_right _ (List.mem_append_right _ (List.mem_append_right _ (List.mem_append_right _ (List.mem_append_right _ (List.mem_append_right _ (List.mem_append_right _ (List.mem_append_right _ (List.mem_append_right _ (List.mem_append_right _ (List.mem_append_right _ (List.mem_append_right _ (List.mem_append_right _ (List.mem_append_right _ (List.mem_append_right _ (List.mem_append_right _ (List.mem_append_right _ (List.mem_append_right _ (List.mem_append_right _ (List.mem_append_right _ (List.mem_append_right _ (List.mem_append_right _ (List.mem_append_right _ (List.mem_append_right _ (List.mem_append_right _ (List.mem_append_right _ (List.mem_append_right _ (List.mem_append_right _ (List.mem_append_right _ (List.mem_append_right _ (List.mem_append_right _ (List.mem_append_right _ (List.mem_append_right _ (List.mem_append_right _ (List.mem_append_right _ (List.mem_append_right _ (List.mem_append_right _ (List.mem_append_right _ (List.mem_append_right _ (List.mem_append_right _ (List.mem_append_right _ (List.mem_append_right _ (List.mem_append_right _ (List.mem_append_right _ (List.mem_append_right _ (List.mem_append_right _ (List.mem_append_right _ (List.mem_append_right _ (List.mem_append_right _ (List.mem_append_right _ (List.mem_append_right _ (List.mem_append_right _ (List.mem_append_right _ (List.mem_append_right _ (List.mem_append_right _ (List.mem_append_right _ (List.mem_append_right _ (List.mem_append_right _ (List.mem_append_right _ (List.mem_append_left _ (h)))))))))))))))))))))))))))))))))))))))))))))))))))))))))))))
theorem inR_47 : ∀ w ∈ vR_47, w ∈ vT := fun _ h => List.mem_append_right _ (List.mem_append_right _ (List.mem_append_right _ (List.mem_append_right _ (List.mem_append_right _ (List.mem_append_right _ (List.mem_append_right _ (List.mem_append_right _ (List.mem_append_right _ (List.mem_append_right _ (List.mem_append_right _ (List.mem_append_right _ (List.mem_append_right _ (List.mem_append_right _ (List.mem_append_right _ (List.mem_append_right _ (List.mem_append_right _ (List.mem_append_right _ (List.mem_append_right _ (List.mem_append_right _ (List.mem_append_right _ (List.mem_append_right _ (List.mem_append_right _ (List.mem_append_right _ (List.mem_append_right _ (List.mem_append_right _ (List.mem_append_right _ (List.mem_append_right _ (List.mem_append_right _ (List.mem_append_right _ (List.mem_append_right _ (List.mem_append_right _ (List.mem_append_right _ (List.mem_append_right _ (List.mem_append_right _ (List.mem_append_right _ (List.mem_append_right _ (List.mem_append_right _ (List.mem_append_right _ (List.mem_append_right _ (List.mem_append_right _ (List.mem_append_right _ (List.mem_append_right _ (List.mem_append_right _ (List.mem_append_right _ (List.mem_append_right _ (List.mem_append_right _ (List.mem_append_right _ (List.mem_append_right _ (List.mem_append_right _ (List.mem_append_right _ (List.mem_append_right _ (List.mem_append_right _ (List.mem_append_right _ (List.mem_append_right _ (List.mem_append_right _ (List.mem_append_right _ (List.mem_append_right _ (List.mem_append_right _ (List.mem_append_right _ (List.mem_append_right _ (List.mem_append_left _ (h))))))))))))))))))))))))))))))))))))))))))))))))))))))))))))))
theorem inR_48 : ∀ w ∈ vR_48, w ∈ vT := fun _ h => List.mem_append_right _ (List.mem_append_right _ (List.mem_append_right _ (List.mem_append_right _ (List.mem_append_right _ (List.mem_append_right _ (List.mem_append_right _ (List.mem_append_right _ (List.mem_append_right _ (List.mem_append_right _ (List.mem_append_right _ (List.mem_append_right _ (List.mem_append_right _ (List.mem_append_right _ (List.mem_append_right _ (List.mem_append_right _ (List.mem_append_right _ (List.mem_append_right _ (List.mem_append_right _ (List.mem_append_right _ (List.mem_append_right _ (List.mem_append_right _ (List.mem_append_right _ (List.mem_append_right _ (List.mem_append_right _ (List.mem_append_right _ (List.mem_append_right _ (List.mem_append_right _ (List.mem_append_right _ (List.mem_append_right _ (List.mem_append_right _ (List.mem_append_right _ (List.mem_append_right _ (List.mem_append_right _ (List.mem_append_right _ (List.mem_append_right _ (List.mem_append_right _ (List.mem_append_right _ (List.mem_append_right _ (List.mem_append_right _ (List.mem_append_right _ (List.mem_append_right _ (List.mem_append_right _ (List.mem_append_right _ (List.mem_append_right _ (List.mem_append_right _ (List.mem_append_right _ (List.mem_append_right _ (List.mem_append_right _ (List.mem_append_right _ (List.mem_append_right _ (List.mem_append_right _ (List.mem_append_right _ (List.mem_append_right _ (List.mem_append_right _ (List.mem_append_right _ (List.mem_append_right _ (List.mem_append_right _ (List.mem_append_right _ (List.mem_append_right _ (List.mem_append_right _ (List.mem_append_right _ (List.mem_append_left _ (h)))))))))))))))))))))))))))))))))))))))))))))))))))))))))))))))
theorem inR_49 : ∀ w ∈ vR_49, w ∈ vT := fun _ h => List.mem_append_right _ (List.mem_append_right _ (List.mem_append_right _ (List.mem_append_right _ (List.mem_append_right _ (List.mem_append_right _ (List.mem_append_right _ (List.mem_append_right _ (List.mem_append_right _ (List.mem_append_right _ (List.mem_append_right _ (List.mem_append_right _ (List.mem_append_right _ (List.mem_append_right _ (List.mem_append_right _ (List.mem_append_right _ (List.mem_append_right _ (List.mem_append_right _ (List.mem_append_right _ (List.mem_append_right _ (List.mem_append_right _ (List.mem_append_right _ (List.mem_append_right _ (List.mem_append_right _ (List.mem_append_right _ (List.mem_append_right _ (List.mem_append_right _ (List.mem_append_right _ (List.mem_append_right _ (List.mem_append_right _ (List.mem_append_right _ (List.mem_append_right _ (List.mem_append_right _ (List.mem_append_right _ (List.mem_append_right _ (List.mem_append_right _ (List.mem_append_right _ (List.mem_append_right _ (List.mem_append_right _ (List.mem_append_right _ (List.mem_append_right _ (List.mem_append_right _ (List.mem_append_right _ (List.mem_append_right _ (List.mem_append_right _ (List.mem_append_right _ (List.mem_append_right _ (List.mem_append_right _ (List.mem_append_right _ (List.mem_append_right _ (List.mem_append_right _ (List.mem_append_right _ (List.mem_append_right _ (List.mem_append_right _ (List.mem_append_right _ (List.mem_append_right _ (List.mem_append_right _ (List.mem_append_right _ (List.mem_append_right _ (List.mem_append_right _ (List.mem_append_right _ (List.mem_append_right _ (List.mem_append_right _ (h)))))))))))))))))))))))))))))))))))))))))))))))))))))))))))))))
theorem vt_0 : (.methodLink "FamilyKernel" 1 ⟨"java/lang/Object", "<init>", "()V"⟩ : Cond) ∈ vT := inR_0 _ (List.mem_of_getElem? (i := 0) rfl)
theorem vt_1 : (.instanceMethod ⟨"java/lang/Object", "<init>", "()V"⟩ : Cond) ∈ vT := inR_0 _ (List.mem_of_getElem? (i := 1) rfl)
theorem vt_2 : (.code ⟨"java/lang/Object", "<init>", "()V"⟩ object_method_1_code 1 none : Cond) ∈ vT := inR_0 _ (List.mem_of_getElem? (i := 2) rfl)
theorem vt_3 : (.classLink "FamilyKernel" 7 "FamilyKernel$Row" : Cond) ∈ vT := inR_0 _ (List.mem_of_getElem? (i := 3) rfl)
theorem vt_4 : (.initialized "FamilyKernel$Row" : Cond) ∈ vT := inR_0 _ (List.mem_of_getElem? (i := 4) rfl)
theorem vt_5 : (.instantiable "FamilyKernel$Row" 3 : Cond) ∈ vT := inR_0 _ (List.mem_of_getElem? (i := 5) rfl)
theorem vt_6 : (.constant "FamilyKernel" 11 65536 : Cond) ∈ vT := inR_0 _ (List.mem_of_getElem? (i := 6) rfl)
theorem vt_7 : (.methodLink "FamilyKernel" 12 ⟨"FamilyKernel$Row", "<init>", "(II)V"⟩ : Cond) ∈ vT := inR_0 _ (List.mem_of_getElem? (i := 7) rfl)
theorem vt_8 : (.instanceMethod ⟨"FamilyKernel$Row", "<init>", "(II)V"⟩ : Cond) ∈ vT := inR_0 _ (List.mem_of_getElem? (i := 8) rfl)
theorem vt_9 : (.code ⟨"FamilyKernel$Row", "<init>", "(II)V"⟩ prog_10_method_1_code 3 none : Cond) ∈ vT := inR_0 _ (List.mem_of_getElem? (i := 9) rfl)
theorem vt_10 : (.fieldLink "FamilyKernel" 15 "FamilyKernel" "tape" "LFamilyKernel$Row;" : Cond) ∈ vT := inR_0 _ (List.mem_of_getElem? (i := 10) rfl)
theorem vt_11 : (.fieldLink "FamilyKernel" 19 "FamilyKernel" "shown" "LFamilyKernel$Row;" : Cond) ∈ vT := inR_0 _ (List.mem_of_getElem? (i := 11) rfl)
theorem vt_12 : (.classLink "FamilyKernel" 22 "FamilyKernel$Meter" : Cond) ∈ vT := inR_0 _ (List.mem_of_getElem? (i := 12) rfl)
theorem vt_13 : (.initialized "FamilyKernel$Meter" : Cond) ∈ vT := inR_0 _ (List.mem_of_getElem? (i := 13) rfl)
theorem vt_14 : (.instantiable "FamilyKernel$Meter" 4 : Cond) ∈ vT := inR_0 _ (List.mem_of_getElem? (i := 14) rfl)
theorem vt_15 : (.instanceMethod ⟨"FamilyKernel$Meter", "<init>", "()V"⟩ : Cond) ∈ vT := inR_0 _ (List.mem_of_getElem? (i := 15) rfl)
theorem vt_16 : (.code ⟨"FamilyKernel$Meter", "<init>", "()V"⟩ prog_6_method_1_code 1 none : Cond) ∈ vT := inR_0 _ (List.mem_of_getElem? (i := 16) rfl)
theorem vt_17 : (.fieldLink "FamilyKernel" 25 "FamilyKernel" "meter" "LFamilyKernel$Meter;" : Cond) ∈ vT := inR_0 _ (List.mem_of_getElem? (i := 17) rfl)
theorem vt_18 : (.classLink "FamilyKernel" 29 "FamilyKernel$Terms" : Cond) ∈ vT := inR_0 _ (List.mem_of_getElem? (i := 18) rfl)
theorem vt_19 : (.initialized "FamilyKernel$Terms" : Cond) ∈ vT := inR_0 _ (List.mem_of_getElem? (i := 19) rfl)
theorem vt_20 : (.instantiable "FamilyKernel$Terms" 10 : Cond) ∈ vT := inR_0 _ (List.mem_of_getElem? (i := 20) rfl)
theorem vt_21 : (.methodLink "FamilyKernel" 31 ⟨"FamilyKernel$Terms", "<init>", "(LFamilyKernel$Meter;)V"⟩ : Cond) ∈ vT := inR_0 _ (List.mem_of_getElem? (i := 21) rfl)
theorem vt_22 : (.instanceMethod ⟨"FamilyKernel$Terms", "<init>", "(LFamilyKernel$Meter;)V"⟩ : Cond) ∈ vT := inR_0 _ (List.mem_of_getElem? (i := 22) rfl)
theorem vt_23 : (.code ⟨"FamilyKernel$Terms", "<init>", "(LFamilyKernel$Meter;)V"⟩ prog_11_method_1_code 2 none : Cond) ∈ vT := inR_0 _ (List.mem_of_getElem? (i := 23) rfl)
theorem vt_24 : (.fieldLink "FamilyKernel" 34 "FamilyKernel" "terms" "LFamilyKernel$Terms;" : Cond) ∈ vT := inR_0 _ (List.mem_of_getElem? (i := 24) rfl)
theorem vt_25 : (.classLink "FamilyKernel" 38 "FamilyKernel$Environment" : Cond) ∈ vT := inR_0 _ (List.mem_of_getElem? (i := 25) rfl)
theorem vt_26 : (.initialized "FamilyKernel$Environment" : Cond) ∈ vT := inR_0 _ (List.mem_of_getElem? (i := 26) rfl)
theorem vt_27 : (.instantiable "FamilyKernel$Environment" 3 : Cond) ∈ vT := inR_0 _ (List.mem_of_getElem? (i := 27) rfl)
theorem vt_28 : (.methodLink "FamilyKernel" 40 ⟨"FamilyKernel$Environment", "<init>", "()V"⟩ : Cond) ∈ vT := inR_0 _ (List.mem_of_getElem? (i := 28) rfl)
theorem vt_29 : (.instanceMethod ⟨"FamilyKernel$Environment", "<init>", "()V"⟩ : Cond) ∈ vT := inR_0 _ (List.mem_of_getElem? (i := 29) rfl)
theorem vt_30 : (.code ⟨"FamilyKernel$Environment", "<init>", "()V"⟩ prog_2_method_1_code 1 none : Cond) ∈ vT := inR_0 _ (List.mem_of_getElem? (i := 30) rfl)
theorem vt_31 : (.fieldLink "FamilyKernel" 41 "FamilyKernel" "environment" "LFamilyKernel$Environment;" : Cond) ∈ vT := inR_0 _ (List.mem_of_getElem? (i := 31) rfl)
theorem vt_32 : (.classLink "FamilyKernel" 45 "FamilyKernel$Lexer" : Cond) ∈ vT := inR_0 _ (List.mem_of_getElem? (i := 32) rfl)
theorem vt_33 : (.initialized "FamilyKernel$Lexer" : Cond) ∈ vT := inR_0 _ (List.mem_of_getElem? (i := 33) rfl)
theorem vt_34 : (.instantiable "FamilyKernel$Lexer" 7 : Cond) ∈ vT := inR_0 _ (List.mem_of_getElem? (i := 34) rfl)
theorem vt_35 : (.methodLink "FamilyKernel" 47 ⟨"FamilyKernel$Lexer", "<init>", "(LFamilyKernel$Row;)V"⟩ : Cond) ∈ vT := inR_0 _ (List.mem_of_getElem? (i := 35) rfl)
theorem vt_36 : (.instanceMethod ⟨"FamilyKernel$Lexer", "<init>", "(LFamilyKernel$Row;)V"⟩ : Cond) ∈ vT := inR_0 _ (List.mem_of_getElem? (i := 36) rfl)
theorem vt_37 : (.code ⟨"FamilyKernel$Lexer", "<init>", "(LFamilyKernel$Row;)V"⟩ prog_5_method_1_code 2 none : Cond) ∈ vT := inR_0 _ (List.mem_of_getElem? (i := 37) rfl)
theorem vt_38 : (.fieldLink "FamilyKernel" 50 "FamilyKernel" "lexer" "LFamilyKernel$Lexer;" : Cond) ∈ vT := inR_0 _ (List.mem_of_getElem? (i := 38) rfl)
theorem vt_39 : (.classLink "FamilyKernel" 54 "FamilyKernel$Parser" : Cond) ∈ vT := inR_0 _ (List.mem_of_getElem? (i := 39) rfl)
theorem vt_40 : (.initialized "FamilyKernel$Parser" : Cond) ∈ vT := inR_1 _ (List.mem_of_getElem? (i := 0) rfl)
theorem vt_41 : (.instantiable "FamilyKernel$Parser" 20 : Cond) ∈ vT := inR_1 _ (List.mem_of_getElem? (i := 1) rfl)
theorem vt_42 : (.methodLink "FamilyKernel" 56 ⟨"FamilyKernel$Parser", "<init>", "(LFamilyKernel$Row;LFamilyKernel$Lexer;LFamilyKernel$Meter;LFamilyKernel$Terms;LFamilyKernel$Environment;)V"⟩ : Cond) ∈ vT := inR_1 _ (List.mem_of_getElem? (i := 2) rfl)
theorem vt_43 : (.instanceMethod ⟨"FamilyKernel$Parser", "<init>", "(LFamilyKernel$Row;LFamilyKernel$Lexer;LFamilyKernel$Meter;LFamilyKernel$Terms;LFamilyKernel$Environment;)V"⟩ : Cond) ∈ vT := inR_1 _ (List.mem_of_getElem? (i := 3) rfl)
theorem vt_44 : (.code ⟨"FamilyKernel$Parser", "<init>", "(LFamilyKernel$Row;LFamilyKernel$Lexer;LFamilyKernel$Meter;LFamilyKernel$Terms;LFamilyKernel$Environment;)V"⟩ prog_7_method_1_code 6 none : Cond) ∈ vT := inR_1 _ (List.mem_of_getElem? (i := 4) rfl)
theorem vt_45 : (.fieldLink "FamilyKernel" 59 "FamilyKernel" "parser" "LFamilyKernel$Parser;" : Cond) ∈ vT := inR_1 _ (List.mem_of_getElem? (i := 5) rfl)
theorem vt_46 : (.classLink "FamilyKernel" 63 "FamilyKernel$Frames" : Cond) ∈ vT := inR_1 _ (List.mem_of_getElem? (i := 6) rfl)
theorem vt_47 : (.initialized "FamilyKernel$Frames" : Cond) ∈ vT := inR_1 _ (List.mem_of_getElem? (i := 7) rfl)
theorem vt_48 : (.instantiable "FamilyKernel$Frames" 3 : Cond) ∈ vT := inR_1 _ (List.mem_of_getElem? (i := 8) rfl)
theorem vt_49 : (.methodLink "FamilyKernel" 65 ⟨"FamilyKernel$Frames", "<init>", "()V"⟩ : Cond) ∈ vT := inR_1 _ (List.mem_of_getElem? (i := 9) rfl)
theorem vt_50 : (.instanceMethod ⟨"FamilyKernel$Frames", "<init>", "()V"⟩ : Cond) ∈ vT := inR_1 _ (List.mem_of_getElem? (i := 10) rfl)
theorem vt_51 : (.code ⟨"FamilyKernel$Frames", "<init>", "()V"⟩ prog_4_method_1_code 1 none : Cond) ∈ vT := inR_1 _ (List.mem_of_getElem? (i := 11) rfl)
theorem vt_52 : (.fieldLink "FamilyKernel" 66 "FamilyKernel" "frames" "LFamilyKernel$Frames;" : Cond) ∈ vT := inR_1 _ (List.mem_of_getElem? (i := 12) rfl)
theorem vt_53 : (.classLink "FamilyKernel" 70 "FamilyKernel$Reducer" : Cond) ∈ vT := inR_1 _ (List.mem_of_getElem? (i := 13) rfl)
theorem vt_54 : (.initialized "FamilyKernel$Reducer" : Cond) ∈ vT := inR_1 _ (List.mem_of_getElem? (i := 14) rfl)
theorem vt_55 : (.instantiable "FamilyKernel$Reducer" 5 : Cond) ∈ vT := inR_1 _ (List.mem_of_getElem? (i := 15) rfl)
theorem vt_56 : (.methodLink "FamilyKernel" 72 ⟨"FamilyKernel$Reducer", "<init>", "(LFamilyKernel$Frames;LFamilyKernel$Meter;LFamilyKernel$Terms;LFamilyKernel$Environment;)V"⟩ : Cond) ∈ vT := inR_1 _ (List.mem_of_getElem? (i := 16) rfl)
theorem vt_57 : (.instanceMethod ⟨"FamilyKernel$Reducer", "<init>", "(LFamilyKernel$Frames;LFamilyKernel$Meter;LFamilyKernel$Terms;LFamilyKernel$Environment;)V"⟩ : Cond) ∈ vT := inR_1 _ (List.mem_of_getElem? (i := 17) rfl)
theorem vt_58 : (.code ⟨"FamilyKernel$Reducer", "<init>", "(LFamilyKernel$Frames;LFamilyKernel$Meter;LFamilyKernel$Terms;LFamilyKernel$Environment;)V"⟩ prog_9_method_1_code 5 none : Cond) ∈ vT := inR_1 _ (List.mem_of_getElem? (i := 18) rfl)
theorem vt_59 : (.fieldLink "FamilyKernel" 75 "FamilyKernel" "reducer" "LFamilyKernel$Reducer;" : Cond) ∈ vT := inR_1 _ (List.mem_of_getElem? (i := 19) rfl)
theorem vt_60 : (.classLink "FamilyKernel" 79 "FamilyKernel$Typer" : Cond) ∈ vT := inR_1 _ (List.mem_of_getElem? (i := 20) rfl)
theorem vt_61 : (.initialized "FamilyKernel$Typer" : Cond) ∈ vT := inR_1 _ (List.mem_of_getElem? (i := 21) rfl)
theorem vt_62 : (.instantiable "FamilyKernel$Typer" 4 : Cond) ∈ vT := inR_1 _ (List.mem_of_getElem? (i := 22) rfl)
theorem vt_63 : (.methodLink "FamilyKernel" 81 ⟨"FamilyKernel$Typer", "<init>", "(LFamilyKernel$Frames;LFamilyKernel$Meter;LFamilyKernel$Terms;LFamilyKernel$Environment;)V"⟩ : Cond) ∈ vT := inR_1 _ (List.mem_of_getElem? (i := 23) rfl)
theorem vt_64 : (.instanceMethod ⟨"FamilyKernel$Typer", "<init>", "(LFamilyKernel$Frames;LFamilyKernel$Meter;LFamilyKernel$Terms;LFamilyKernel$Environment;)V"⟩ : Cond) ∈ vT := inR_1 _ (List.mem_of_getElem? (i := 24) rfl)
theorem vt_65 : (.code ⟨"FamilyKernel$Typer", "<init>", "(LFamilyKernel$Frames;LFamilyKernel$Meter;LFamilyKernel$Terms;LFamilyKernel$Environment;)V"⟩ prog_12_method_1_code 5 none : Cond) ∈ vT := inR_1 _ (List.mem_of_getElem? (i := 25) rfl)
theorem vt_66 : (.fieldLink "FamilyKernel" 82 "FamilyKernel" "typer" "LFamilyKernel$Typer;" : Cond) ∈ vT := inR_1 _ (List.mem_of_getElem? (i := 26) rfl)
theorem vt_67 : (.classLink "FamilyKernel" 86 "FamilyKernel$Families" : Cond) ∈ vT := inR_1 _ (List.mem_of_getElem? (i := 27) rfl)
theorem vt_68 : (.initialized "FamilyKernel$Families" : Cond) ∈ vT := inR_1 _ (List.mem_of_getElem? (i := 28) rfl)
theorem vt_69 : (.instantiable "FamilyKernel$Families" 18 : Cond) ∈ vT := inR_1 _ (List.mem_of_getElem? (i := 29) rfl)
theorem vt_70 : (.methodLink "FamilyKernel" 88 ⟨"FamilyKernel$Families", "<init>", "(LFamilyKernel$Frames;LFamilyKernel$Meter;LFamilyKernel$Terms;LFamilyKernel$Environment;LFamilyKernel$Parser;)V"⟩ : Cond) ∈ vT := inR_1 _ (List.mem_of_getElem? (i := 30) rfl)
theorem vt_71 : (.instanceMethod ⟨"FamilyKernel$Families", "<init>", "(LFamilyKernel$Frames;LFamilyKernel$Meter;LFamilyKernel$Terms;LFamilyKernel$Environment;LFamilyKernel$Parser;)V"⟩ : Cond) ∈ vT := inR_1 _ (List.mem_of_getElem? (i := 31) rfl)
theorem vt_72 : (.code ⟨"FamilyKernel$Families", "<init>", "(LFamilyKernel$Frames;LFamilyKernel$Meter;LFamilyKernel$Terms;LFamilyKernel$Environment;LFamilyKernel$Parser;)V"⟩ prog_3_method_1_code 6 none : Cond) ∈ vT := inR_1 _ (List.mem_of_getElem? (i := 32) rfl)
theorem vt_73 : (.fieldLink "FamilyKernel" 91 "FamilyKernel" "families" "LFamilyKernel$Families;" : Cond) ∈ vT := inR_1 _ (List.mem_of_getElem? (i := 33) rfl)
theorem vt_74 : (.classLink "FamilyKernel" 95 "FamilyKernel$Printer" : Cond) ∈ vT := inR_1 _ (List.mem_of_getElem? (i := 34) rfl)
theorem vt_75 : (.initialized "FamilyKernel$Printer" : Cond) ∈ vT := inR_1 _ (List.mem_of_getElem? (i := 35) rfl)
theorem vt_76 : (.instantiable "FamilyKernel$Printer" 4 : Cond) ∈ vT := inR_1 _ (List.mem_of_getElem? (i := 36) rfl)
theorem vt_77 : (.methodLink "FamilyKernel" 97 ⟨"FamilyKernel$Printer", "<init>", "(LFamilyKernel$Row;LFamilyKernel$Terms;LFamilyKernel$Environment;)V"⟩ : Cond) ∈ vT := inR_1 _ (List.mem_of_getElem? (i := 37) rfl)
theorem vt_78 : (.instanceMethod ⟨"FamilyKernel$Printer", "<init>", "(LFamilyKernel$Row;LFamilyKernel$Terms;LFamilyKernel$Environment;)V"⟩ : Cond) ∈ vT := inR_1 _ (List.mem_of_getElem? (i := 38) rfl)
theorem vt_79 : (.code ⟨"FamilyKernel$Printer", "<init>", "(LFamilyKernel$Row;LFamilyKernel$Terms;LFamilyKernel$Environment;)V"⟩ prog_8_method_1_code 4 none : Cond) ∈ vT := inR_1 _ (List.mem_of_getElem? (i := 39) rfl)
theorem vt_80 : (.fieldLink "FamilyKernel" 100 "FamilyKernel" "printer" "LFamilyKernel$Printer;" : Cond) ∈ vT := inR_2 _ (List.mem_of_getElem? (i := 0) rfl)
theorem vt_81 : (.code ⟨"FamilyKernel", "<init>", "()V"⟩ prog_1_method_1_code 1 none : Cond) ∈ vT := inR_2 _ (List.mem_of_getElem? (i := 1) rfl)
theorem vt_82 : (.methodLink "FamilyKernel$Row" 1 ⟨"java/lang/Object", "<init>", "()V"⟩ : Cond) ∈ vT := inR_2 _ (List.mem_of_getElem? (i := 2) rfl)
theorem vt_83 : (.arrayClass .int : Cond) ∈ vT := inR_2 _ (List.mem_of_getElem? (i := 3) rfl)
theorem vt_84 : (.fieldLink "FamilyKernel$Row" 7 "FamilyKernel$Row" "cells" "[I" : Cond) ∈ vT := inR_2 _ (List.mem_of_getElem? (i := 4) rfl)
theorem vt_85 : (.fieldLink "FamilyKernel$Row" 13 "FamilyKernel$Row" "most" "I" : Cond) ∈ vT := inR_2 _ (List.mem_of_getElem? (i := 5) rfl)
theorem vt_86 : (.methodLink "FamilyKernel$Meter" 3 ⟨"java/lang/Object", "<init>", "()V"⟩ : Cond) ∈ vT := inR_2 _ (List.mem_of_getElem? (i := 6) rfl)
theorem vt_87 : (.methodLink "FamilyKernel$Terms" 3 ⟨"java/lang/Object", "<init>", "()V"⟩ : Cond) ∈ vT := inR_2 _ (List.mem_of_getElem? (i := 7) rfl)
theorem vt_88 : (.fieldLink "FamilyKernel$Terms" 9 "FamilyKernel$Terms" "meter" "LFamilyKernel$Meter;" : Cond) ∈ vT := inR_2 _ (List.mem_of_getElem? (i := 8) rfl)
theorem vt_89 : (.classLink "FamilyKernel$Terms" 15 "FamilyKernel$Row" : Cond) ∈ vT := inR_2 _ (List.mem_of_getElem? (i := 9) rfl)
theorem vt_90 : (.constant "FamilyKernel$Terms" 17 16777216 : Cond) ∈ vT := inR_2 _ (List.mem_of_getElem? (i := 10) rfl)
theorem vt_91 : (.methodLink "FamilyKernel$Terms" 18 ⟨"FamilyKernel$Row", "<init>", "(II)V"⟩ : Cond) ∈ vT := inR_2 _ (List.mem_of_getElem? (i := 11) rfl)
theorem vt_92 : (.fieldLink "FamilyKernel$Terms" 21 "FamilyKernel$Terms" "todo" "LFamilyKernel$Row;" : Cond) ∈ vT := inR_2 _ (List.mem_of_getElem? (i := 12) rfl)
theorem vt_93 : (.fieldLink "FamilyKernel$Terms" 25 "FamilyKernel$Terms" "offsets" "LFamilyKernel$Row;" : Cond) ∈ vT := inR_2 _ (List.mem_of_getElem? (i := 13) rfl)
theorem vt_94 : (.fieldLink "FamilyKernel$Terms" 28 "FamilyKernel$Terms" "built" "LFamilyKernel$Row;" : Cond) ∈ vT := inR_2 _ (List.mem_of_getElem? (i := 14) rfl)
theorem vt_95 : (.arrayClass .long : Cond) ∈ vT := inR_2 _ (List.mem_of_getElem? (i := 15) rfl)
theorem vt_96 : (.fieldLink "FamilyKernel$Terms" 31 "FamilyKernel$Terms" "infos" "[J" : Cond) ∈ vT := inR_2 _ (List.mem_of_getElem? (i := 16) rfl)
theorem vt_97 : (.fieldLink "FamilyKernel$Terms" 35 "FamilyKernel$Terms" "lefts" "[I" : Cond) ∈ vT := inR_2 _ (List.mem_of_getElem? (i := 17) rfl)
theorem vt_98 : (.fieldLink "FamilyKernel$Terms" 39 "FamilyKernel$Terms" "rights" "[I" : Cond) ∈ vT := inR_2 _ (List.mem_of_getElem? (i := 18) rfl)
theorem vt_99 : (.fieldLink "FamilyKernel$Terms" 42 "FamilyKernel$Terms" "links" "[I" : Cond) ∈ vT := inR_2 _ (List.mem_of_getElem? (i := 19) rfl)
theorem vt_100 : (.fieldLink "FamilyKernel$Terms" 45 "FamilyKernel$Terms" "heads" "[I" : Cond) ∈ vT := inR_2 _ (List.mem_of_getElem? (i := 20) rfl)
theorem vt_101 : (.methodLink "FamilyKernel$Environment" 3 ⟨"java/lang/Object", "<init>", "()V"⟩ : Cond) ∈ vT := inR_2 _ (List.mem_of_getElem? (i := 21) rfl)
theorem vt_102 : (.classLink "FamilyKernel$Environment" 9 "FamilyKernel$Row" : Cond) ∈ vT := inR_2 _ (List.mem_of_getElem? (i := 22) rfl)
theorem vt_103 : (.constant "FamilyKernel$Environment" 11 16777216 : Cond) ∈ vT := inR_2 _ (List.mem_of_getElem? (i := 23) rfl)
theorem vt_104 : (.methodLink "FamilyKernel$Environment" 12 ⟨"FamilyKernel$Row", "<init>", "(II)V"⟩ : Cond) ∈ vT := inR_2 _ (List.mem_of_getElem? (i := 24) rfl)
theorem vt_105 : (.fieldLink "FamilyKernel$Environment" 15 "FamilyKernel$Environment" "facts" "LFamilyKernel$Row;" : Cond) ∈ vT := inR_2 _ (List.mem_of_getElem? (i := 25) rfl)
theorem vt_106 : (.fieldLink "FamilyKernel$Environment" 21 "FamilyKernel$Environment" "names" "LFamilyKernel$Row;" : Cond) ∈ vT := inR_2 _ (List.mem_of_getElem? (i := 26) rfl)
theorem vt_107 : (.methodLink "FamilyKernel$Lexer" 3 ⟨"java/lang/Object", "<init>", "()V"⟩ : Cond) ∈ vT := inR_2 _ (List.mem_of_getElem? (i := 27) rfl)
theorem vt_108 : (.fieldLink "FamilyKernel$Lexer" 9 "FamilyKernel$Lexer" "text" "LFamilyKernel$Row;" : Cond) ∈ vT := inR_2 _ (List.mem_of_getElem? (i := 28) rfl)
theorem vt_109 : (.classLink "FamilyKernel$Lexer" 15 "FamilyKernel$Row" : Cond) ∈ vT := inR_2 _ (List.mem_of_getElem? (i := 29) rfl)
theorem vt_110 : (.constant "FamilyKernel$Lexer" 17 16777216 : Cond) ∈ vT := inR_2 _ (List.mem_of_getElem? (i := 30) rfl)
theorem vt_111 : (.methodLink "FamilyKernel$Lexer" 18 ⟨"FamilyKernel$Row", "<init>", "(II)V"⟩ : Cond) ∈ vT := inR_2 _ (List.mem_of_getElem? (i := 31) rfl)
theorem vt_112 : (.fieldLink "FamilyKernel$Lexer" 21 "FamilyKernel$Lexer" "tokens" "LFamilyKernel$Row;" : Cond) ∈ vT := inR_2 _ (List.mem_of_getElem? (i := 32) rfl)
theorem vt_113 : (.methodLink "FamilyKernel$Parser" 3 ⟨"java/lang/Object", "<init>", "()V"⟩ : Cond) ∈ vT := inR_2 _ (List.mem_of_getElem? (i := 33) rfl)
theorem vt_114 : (.fieldLink "FamilyKernel$Parser" 9 "FamilyKernel$Parser" "text" "LFamilyKernel$Row;" : Cond) ∈ vT := inR_2 _ (List.mem_of_getElem? (i := 34) rfl)
theorem vt_115 : (.fieldLink "FamilyKernel$Parser" 15 "FamilyKernel$Parser" "lexer" "LFamilyKernel$Lexer;" : Cond) ∈ vT := inR_2 _ (List.mem_of_getElem? (i := 35) rfl)
theorem vt_116 : (.fieldLink "FamilyKernel$Parser" 19 "FamilyKernel$Parser" "meter" "LFamilyKernel$Meter;" : Cond) ∈ vT := inR_2 _ (List.mem_of_getElem? (i := 36) rfl)
theorem vt_117 : (.fieldLink "FamilyKernel$Parser" 23 "FamilyKernel$Parser" "terms" "LFamilyKernel$Terms;" : Cond) ∈ vT := inR_2 _ (List.mem_of_getElem? (i := 37) rfl)
theorem vt_118 : (.fieldLink "FamilyKernel$Parser" 27 "FamilyKernel$Parser" "environment" "LFamilyKernel$Environment;" : Cond) ∈ vT := inR_2 _ (List.mem_of_getElem? (i := 38) rfl)
theorem vt_119 : (.classLink "FamilyKernel$Parser" 31 "FamilyKernel$Row" : Cond) ∈ vT := inR_2 _ (List.mem_of_getElem? (i := 39) rfl)
theorem vt_120 : (.constant "FamilyKernel$Parser" 33 16777216 : Cond) ∈ vT := inR_3 _ (List.mem_of_getElem? (i := 0) rfl)
theorem vt_121 : (.methodLink "FamilyKernel$Parser" 34 ⟨"FamilyKernel$Row", "<init>", "(II)V"⟩ : Cond) ∈ vT := inR_3 _ (List.mem_of_getElem? (i := 1) rfl)
theorem vt_122 : (.fieldLink "FamilyKernel$Parser" 37 "FamilyKernel$Parser" "open" "LFamilyKernel$Row;" : Cond) ∈ vT := inR_3 _ (List.mem_of_getElem? (i := 2) rfl)
theorem vt_123 : (.fieldLink "FamilyKernel$Parser" 40 "FamilyKernel$Parser" "scope" "LFamilyKernel$Row;" : Cond) ∈ vT := inR_3 _ (List.mem_of_getElem? (i := 3) rfl)
theorem vt_124 : (.fieldLink "FamilyKernel$Parser" 43 "FamilyKernel$Parser" "pending" "LFamilyKernel$Row;" : Cond) ∈ vT := inR_3 _ (List.mem_of_getElem? (i := 4) rfl)
theorem vt_125 : (.fieldLink "FamilyKernel$Parser" 46 "FamilyKernel$Parser" "binders" "LFamilyKernel$Row;" : Cond) ∈ vT := inR_3 _ (List.mem_of_getElem? (i := 5) rfl)
theorem vt_126 : (.methodLink "FamilyKernel$Frames" 3 ⟨"java/lang/Object", "<init>", "()V"⟩ : Cond) ∈ vT := inR_3 _ (List.mem_of_getElem? (i := 6) rfl)
theorem vt_127 : (.classLink "FamilyKernel$Frames" 9 "FamilyKernel$Row" : Cond) ∈ vT := inR_3 _ (List.mem_of_getElem? (i := 7) rfl)
theorem vt_128 : (.constant "FamilyKernel$Frames" 13 16777216 : Cond) ∈ vT := inR_3 _ (List.mem_of_getElem? (i := 8) rfl)
theorem vt_129 : (.methodLink "FamilyKernel$Frames" 14 ⟨"FamilyKernel$Row", "<init>", "(II)V"⟩ : Cond) ∈ vT := inR_3 _ (List.mem_of_getElem? (i := 9) rfl)
theorem vt_130 : (.fieldLink "FamilyKernel$Frames" 17 "FamilyKernel$Frames" "cells" "LFamilyKernel$Row;" : Cond) ∈ vT := inR_3 _ (List.mem_of_getElem? (i := 10) rfl)
theorem vt_131 : (.fieldLink "FamilyKernel$Frames" 21 "FamilyKernel$Frames" "types" "LFamilyKernel$Row;" : Cond) ∈ vT := inR_3 _ (List.mem_of_getElem? (i := 11) rfl)
theorem vt_132 : (.methodLink "FamilyKernel$Reducer" 3 ⟨"java/lang/Object", "<init>", "()V"⟩ : Cond) ∈ vT := inR_3 _ (List.mem_of_getElem? (i := 12) rfl)
theorem vt_133 : (.fieldLink "FamilyKernel$Reducer" 9 "FamilyKernel$Reducer" "frames" "LFamilyKernel$Frames;" : Cond) ∈ vT := inR_3 _ (List.mem_of_getElem? (i := 13) rfl)
theorem vt_134 : (.fieldLink "FamilyKernel$Reducer" 15 "FamilyKernel$Reducer" "meter" "LFamilyKernel$Meter;" : Cond) ∈ vT := inR_3 _ (List.mem_of_getElem? (i := 14) rfl)
theorem vt_135 : (.fieldLink "FamilyKernel$Reducer" 19 "FamilyKernel$Reducer" "terms" "LFamilyKernel$Terms;" : Cond) ∈ vT := inR_3 _ (List.mem_of_getElem? (i := 15) rfl)
theorem vt_136 : (.fieldLink "FamilyKernel$Reducer" 23 "FamilyKernel$Reducer" "environment" "LFamilyKernel$Environment;" : Cond) ∈ vT := inR_3 _ (List.mem_of_getElem? (i := 16) rfl)
theorem vt_137 : (.classLink "FamilyKernel$Reducer" 27 "FamilyKernel$Row" : Cond) ∈ vT := inR_3 _ (List.mem_of_getElem? (i := 17) rfl)
theorem vt_138 : (.constant "FamilyKernel$Reducer" 29 16777216 : Cond) ∈ vT := inR_3 _ (List.mem_of_getElem? (i := 18) rfl)
theorem vt_139 : (.methodLink "FamilyKernel$Reducer" 30 ⟨"FamilyKernel$Row", "<init>", "(II)V"⟩ : Cond) ∈ vT := inR_3 _ (List.mem_of_getElem? (i := 19) rfl)
theorem vt_140 : (.fieldLink "FamilyKernel$Reducer" 33 "FamilyKernel$Reducer" "given" "LFamilyKernel$Row;" : Cond) ∈ vT := inR_3 _ (List.mem_of_getElem? (i := 20) rfl)
theorem vt_141 : (.methodLink "FamilyKernel$Typer" 3 ⟨"java/lang/Object", "<init>", "()V"⟩ : Cond) ∈ vT := inR_3 _ (List.mem_of_getElem? (i := 21) rfl)
theorem vt_142 : (.fieldLink "FamilyKernel$Typer" 9 "FamilyKernel$Typer" "frames" "LFamilyKernel$Frames;" : Cond) ∈ vT := inR_3 _ (List.mem_of_getElem? (i := 22) rfl)
theorem vt_143 : (.fieldLink "FamilyKernel$Typer" 15 "FamilyKernel$Typer" "meter" "LFamilyKernel$Meter;" : Cond) ∈ vT := inR_3 _ (List.mem_of_getElem? (i := 23) rfl)
theorem vt_144 : (.fieldLink "FamilyKernel$Typer" 19 "FamilyKernel$Typer" "terms" "LFamilyKernel$Terms;" : Cond) ∈ vT := inR_3 _ (List.mem_of_getElem? (i := 24) rfl)
theorem vt_145 : (.fieldLink "FamilyKernel$Typer" 23 "FamilyKernel$Typer" "environment" "LFamilyKernel$Environment;" : Cond) ∈ vT := inR_3 _ (List.mem_of_getElem? (i := 25) rfl)
theorem vt_146 : (.methodLink "FamilyKernel$Families" 3 ⟨"java/lang/Object", "<init>", "()V"⟩ : Cond) ∈ vT := inR_3 _ (List.mem_of_getElem? (i := 26) rfl)
theorem vt_147 : (.fieldLink "FamilyKernel$Families" 9 "FamilyKernel$Families" "frames" "LFamilyKernel$Frames;" : Cond) ∈ vT := inR_3 _ (List.mem_of_getElem? (i := 27) rfl)
theorem vt_148 : (.fieldLink "FamilyKernel$Families" 15 "FamilyKernel$Families" "meter" "LFamilyKernel$Meter;" : Cond) ∈ vT := inR_3 _ (List.mem_of_getElem? (i := 28) rfl)
theorem vt_149 : (.fieldLink "FamilyKernel$Families" 19 "FamilyKernel$Families" "terms" "LFamilyKernel$Terms;" : Cond) ∈ vT := inR_3 _ (List.mem_of_getElem? (i := 29) rfl)
theorem vt_150 : (.fieldLink "FamilyKernel$Families" 23 "FamilyKernel$Families" "environment" "LFamilyKernel$Environment;" : Cond) ∈ vT := inR_3 _ (List.mem_of_getElem? (i := 30) rfl)
theorem vt_151 : (.fieldLink "FamilyKernel$Families" 27 "FamilyKernel$Families" "parser" "LFamilyKernel$Parser;" : Cond) ∈ vT := inR_3 _ (List.mem_of_getElem? (i := 31) rfl)
theorem vt_152 : (.classLink "FamilyKernel$Families" 31 "FamilyKernel$Row" : Cond) ∈ vT := inR_3 _ (List.mem_of_getElem? (i := 32) rfl)
theorem vt_153 : (.constant "FamilyKernel$Families" 33 16777216 : Cond) ∈ vT := inR_3 _ (List.mem_of_getElem? (i := 33) rfl)
theorem vt_154 : (.methodLink "FamilyKernel$Families" 34 ⟨"FamilyKernel$Row", "<init>", "(II)V"⟩ : Cond) ∈ vT := inR_3 _ (List.mem_of_getElem? (i := 34) rfl)
theorem vt_155 : (.fieldLink "FamilyKernel$Families" 37 "FamilyKernel$Families" "sorts" "LFamilyKernel$Row;" : Cond) ∈ vT := inR_3 _ (List.mem_of_getElem? (i := 35) rfl)
theorem vt_156 : (.fieldLink "FamilyKernel$Families" 41 "FamilyKernel$Families" "domains" "LFamilyKernel$Row;" : Cond) ∈ vT := inR_3 _ (List.mem_of_getElem? (i := 36) rfl)
theorem vt_157 : (.fieldLink "FamilyKernel$Families" 44 "FamilyKernel$Families" "hypotheses" "LFamilyKernel$Row;" : Cond) ∈ vT := inR_3 _ (List.mem_of_getElem? (i := 37) rfl)
theorem vt_158 : (.fieldLink "FamilyKernel$Families" 47 "FamilyKernel$Families" "within" "LFamilyKernel$Row;" : Cond) ∈ vT := inR_3 _ (List.mem_of_getElem? (i := 38) rfl)
theorem vt_159 : (.fieldLink "FamilyKernel$Families" 50 "FamilyKernel$Families" "minors" "LFamilyKernel$Row;" : Cond) ∈ vT := inR_3 _ (List.mem_of_getElem? (i := 39) rfl)
theorem vt_160 : (.methodLink "FamilyKernel$Printer" 3 ⟨"java/lang/Object", "<init>", "()V"⟩ : Cond) ∈ vT := inR_4 _ (List.mem_of_getElem? (i := 0) rfl)
theorem vt_161 : (.fieldLink "FamilyKernel$Printer" 9 "FamilyKernel$Printer" "shown" "LFamilyKernel$Row;" : Cond) ∈ vT := inR_4 _ (List.mem_of_getElem? (i := 1) rfl)
theorem vt_162 : (.fieldLink "FamilyKernel$Printer" 15 "FamilyKernel$Printer" "terms" "LFamilyKernel$Terms;" : Cond) ∈ vT := inR_4 _ (List.mem_of_getElem? (i := 2) rfl)
theorem vt_163 : (.fieldLink "FamilyKernel$Printer" 19 "FamilyKernel$Printer" "environment" "LFamilyKernel$Environment;" : Cond) ∈ vT := inR_4 _ (List.mem_of_getElem? (i := 3) rfl)
theorem vt_164 : (.classLink "FamilyKernel$Printer" 23 "FamilyKernel$Row" : Cond) ∈ vT := inR_4 _ (List.mem_of_getElem? (i := 4) rfl)
theorem vt_165 : (.constant "FamilyKernel$Printer" 25 16777216 : Cond) ∈ vT := inR_4 _ (List.mem_of_getElem? (i := 5) rfl)
theorem vt_166 : (.methodLink "FamilyKernel$Printer" 26 ⟨"FamilyKernel$Row", "<init>", "(II)V"⟩ : Cond) ∈ vT := inR_4 _ (List.mem_of_getElem? (i := 6) rfl)
theorem vt_167 : (.fieldLink "FamilyKernel$Printer" 29 "FamilyKernel$Printer" "todo" "LFamilyKernel$Row;" : Cond) ∈ vT := inR_4 _ (List.mem_of_getElem? (i := 7) rfl)
theorem vt_168 : (.methodLink "FamilyKernel" 124 ⟨"FamilyKernel$Meter", "forget", "()V"⟩ : Cond) ∈ vT := inR_4 _ (List.mem_of_getElem? (i := 8) rfl)
theorem vt_169 : (.instanceMethod ⟨"FamilyKernel$Meter", "forget", "()V"⟩ : Cond) ∈ vT := inR_4 _ (List.mem_of_getElem? (i := 9) rfl)
theorem vt_170 : (.selects "FamilyKernel$Meter" ⟨"FamilyKernel$Meter", "forget", "()V"⟩ ⟨"FamilyKernel$Meter", "forget", "()V"⟩ : Cond) ∈ vT := inR_4 _ (List.mem_of_getElem? (i := 10) rfl)
theorem vt_171 : (.code ⟨"FamilyKernel$Meter", "forget", "()V"⟩ prog_6_method_2_code 1 none : Cond) ∈ vT := inR_4 _ (List.mem_of_getElem? (i := 11) rfl)
theorem vt_172 : (.methodLink "FamilyKernel" 127 ⟨"FamilyKernel$Lexer", "begin", "()V"⟩ : Cond) ∈ vT := inR_4 _ (List.mem_of_getElem? (i := 12) rfl)
theorem vt_173 : (.instanceMethod ⟨"FamilyKernel$Lexer", "begin", "()V"⟩ : Cond) ∈ vT := inR_4 _ (List.mem_of_getElem? (i := 13) rfl)
theorem vt_174 : (.selects "FamilyKernel$Lexer" ⟨"FamilyKernel$Lexer", "begin", "()V"⟩ ⟨"FamilyKernel$Lexer", "begin", "()V"⟩ : Cond) ∈ vT := inR_4 _ (List.mem_of_getElem? (i := 14) rfl)
theorem vt_175 : (.code ⟨"FamilyKernel$Lexer", "begin", "()V"⟩ prog_5_method_2_code 2 none : Cond) ∈ vT := inR_4 _ (List.mem_of_getElem? (i := 15) rfl)
theorem vt_176 : (.methodLink "FamilyKernel" 130 ⟨"FamilyKernel$Lexer", "kind", "()I"⟩ : Cond) ∈ vT := inR_4 _ (List.mem_of_getElem? (i := 16) rfl)
theorem vt_177 : (.instanceMethod ⟨"FamilyKernel$Lexer", "kind", "()I"⟩ : Cond) ∈ vT := inR_4 _ (List.mem_of_getElem? (i := 17) rfl)
theorem vt_178 : (.selects "FamilyKernel$Lexer" ⟨"FamilyKernel$Lexer", "kind", "()I"⟩ ⟨"FamilyKernel$Lexer", "kind", "()I"⟩ : Cond) ∈ vT := inR_4 _ (List.mem_of_getElem? (i := 18) rfl)
theorem vt_179 : (.code ⟨"FamilyKernel$Lexer", "kind", "()I"⟩ prog_5_method_4_code 1 (some .int) : Cond) ∈ vT := inR_4 _ (List.mem_of_getElem? (i := 19) rfl)
theorem vt_180 : (.methodLink "FamilyKernel" 133 ⟨"FamilyKernel$Environment", "length", "()I"⟩ : Cond) ∈ vT := inR_4 _ (List.mem_of_getElem? (i := 20) rfl)
theorem vt_181 : (.instanceMethod ⟨"FamilyKernel$Environment", "length", "()I"⟩ : Cond) ∈ vT := inR_4 _ (List.mem_of_getElem? (i := 21) rfl)
theorem vt_182 : (.selects "FamilyKernel$Environment" ⟨"FamilyKernel$Environment", "length", "()I"⟩ ⟨"FamilyKernel$Environment", "length", "()I"⟩ : Cond) ∈ vT := inR_4 _ (List.mem_of_getElem? (i := 22) rfl)
theorem vt_183 : (.code ⟨"FamilyKernel$Environment", "length", "()I"⟩ prog_2_method_2_code 1 (some .int) : Cond) ∈ vT := inR_4 _ (List.mem_of_getElem? (i := 23) rfl)
theorem vt_184 : (.methodLink "FamilyKernel" 136 ⟨"FamilyKernel$Terms", "length", "()I"⟩ : Cond) ∈ vT := inR_4 _ (List.mem_of_getElem? (i := 24) rfl)
theorem vt_185 : (.instanceMethod ⟨"FamilyKernel$Terms", "length", "()I"⟩ : Cond) ∈ vT := inR_4 _ (List.mem_of_getElem? (i := 25) rfl)
theorem vt_186 : (.selects "FamilyKernel$Terms" ⟨"FamilyKernel$Terms", "length", "()I"⟩ ⟨"FamilyKernel$Terms", "length", "()I"⟩ : Cond) ∈ vT := inR_4 _ (List.mem_of_getElem? (i := 26) rfl)
theorem vt_187 : (.code ⟨"FamilyKernel$Terms", "length", "()I"⟩ prog_11_method_2_code 1 (some .int) : Cond) ∈ vT := inR_4 _ (List.mem_of_getElem? (i := 27) rfl)
theorem vt_188 : (.methodLink "FamilyKernel" 137 ⟨"FamilyKernel$Lexer", "start", "()I"⟩ : Cond) ∈ vT := inR_4 _ (List.mem_of_getElem? (i := 28) rfl)
theorem vt_189 : (.instanceMethod ⟨"FamilyKernel$Lexer", "start", "()I"⟩ : Cond) ∈ vT := inR_4 _ (List.mem_of_getElem? (i := 29) rfl)
theorem vt_190 : (.selects "FamilyKernel$Lexer" ⟨"FamilyKernel$Lexer", "start", "()I"⟩ ⟨"FamilyKernel$Lexer", "start", "()I"⟩ : Cond) ∈ vT := inR_4 _ (List.mem_of_getElem? (i := 30) rfl)
theorem vt_191 : (.code ⟨"FamilyKernel$Lexer", "start", "()I"⟩ prog_5_method_5_code 1 (some .int) : Cond) ∈ vT := inR_4 _ (List.mem_of_getElem? (i := 31) rfl)
theorem vt_192 : (.methodLink "FamilyKernel" 140 ⟨"FamilyKernel$Meter", "begin", "(I)V"⟩ : Cond) ∈ vT := inR_4 _ (List.mem_of_getElem? (i := 32) rfl)
theorem vt_193 : (.instanceMethod ⟨"FamilyKernel$Meter", "begin", "(I)V"⟩ : Cond) ∈ vT := inR_4 _ (List.mem_of_getElem? (i := 33) rfl)
theorem vt_194 : (.selects "FamilyKernel$Meter" ⟨"FamilyKernel$Meter", "begin", "(I)V"⟩ ⟨"FamilyKernel$Meter", "begin", "(I)V"⟩ : Cond) ∈ vT := inR_4 _ (List.mem_of_getElem? (i := 34) rfl)
theorem vt_195 : (.code ⟨"FamilyKernel$Meter", "begin", "(I)V"⟩ prog_6_method_3_code 2 none : Cond) ∈ vT := inR_4 _ (List.mem_of_getElem? (i := 35) rfl)
theorem vt_196 : (.methodLink "FamilyKernel" 142 ⟨"FamilyKernel$Parser", "declaration", "()V"⟩ : Cond) ∈ vT := inR_4 _ (List.mem_of_getElem? (i := 36) rfl)
theorem vt_197 : (.instanceMethod ⟨"FamilyKernel$Parser", "declaration", "()V"⟩ : Cond) ∈ vT := inR_4 _ (List.mem_of_getElem? (i := 37) rfl)
theorem vt_198 : (.selects "FamilyKernel$Parser" ⟨"FamilyKernel$Parser", "declaration", "()V"⟩ ⟨"FamilyKernel$Parser", "declaration", "()V"⟩ : Cond) ∈ vT := inR_4 _ (List.mem_of_getElem? (i := 38) rfl)
theorem vt_199 : (.code ⟨"FamilyKernel$Parser", "declaration", "()V"⟩ prog_7_method_10_code 2 none : Cond) ∈ vT := inR_4 _ (List.mem_of_getElem? (i := 39) rfl)
theorem vt_200 : (.methodLink "FamilyKernel" 145 ⟨"FamilyKernel", "work", "()V"⟩ : Cond) ∈ vT := inR_5 _ (List.mem_of_getElem? (i := 0) rfl)
theorem vt_201 : (.initialized "FamilyKernel" : Cond) ∈ vT := inR_5 _ (List.mem_of_getElem? (i := 1) rfl)
theorem vt_202 : (.instanceMethod ⟨"FamilyKernel", "work", "()V"⟩ : Cond) ∈ vT := inR_5 _ (List.mem_of_getElem? (i := 2) rfl)
theorem vt_203 : (.selects "FamilyKernel" ⟨"FamilyKernel", "work", "()V"⟩ ⟨"FamilyKernel", "work", "()V"⟩ : Cond) ∈ vT := inR_5 _ (List.mem_of_getElem? (i := 3) rfl)
theorem vt_204 : (.code ⟨"FamilyKernel", "work", "()V"⟩ prog_1_method_6_code 2 none : Cond) ∈ vT := inR_5 _ (List.mem_of_getElem? (i := 4) rfl)
theorem vt_205 : (.methodLink "FamilyKernel" 148 ⟨"FamilyKernel$Parser", "task", "()I"⟩ : Cond) ∈ vT := inR_5 _ (List.mem_of_getElem? (i := 5) rfl)
theorem vt_206 : (.instanceMethod ⟨"FamilyKernel$Parser", "task", "()I"⟩ : Cond) ∈ vT := inR_5 _ (List.mem_of_getElem? (i := 6) rfl)
theorem vt_207 : (.selects "FamilyKernel$Parser" ⟨"FamilyKernel$Parser", "task", "()I"⟩ ⟨"FamilyKernel$Parser", "task", "()I"⟩ : Cond) ∈ vT := inR_5 _ (List.mem_of_getElem? (i := 7) rfl)
theorem vt_208 : (.code ⟨"FamilyKernel$Parser", "task", "()I"⟩ prog_7_method_2_code 1 (some .int) : Cond) ∈ vT := inR_5 _ (List.mem_of_getElem? (i := 8) rfl)
theorem vt_209 : (.methodLink "FamilyKernel" 151 ⟨"FamilyKernel$Families", "build", "()V"⟩ : Cond) ∈ vT := inR_5 _ (List.mem_of_getElem? (i := 9) rfl)
theorem vt_210 : (.instanceMethod ⟨"FamilyKernel$Families", "build", "()V"⟩ : Cond) ∈ vT := inR_5 _ (List.mem_of_getElem? (i := 10) rfl)
theorem vt_211 : (.selects "FamilyKernel$Families" ⟨"FamilyKernel$Families", "build", "()V"⟩ ⟨"FamilyKernel$Families", "build", "()V"⟩ : Cond) ∈ vT := inR_5 _ (List.mem_of_getElem? (i := 11) rfl)
theorem vt_212 : (.code ⟨"FamilyKernel$Families", "build", "()V"⟩ prog_3_method_14_code 6 none : Cond) ∈ vT := inR_5 _ (List.mem_of_getElem? (i := 12) rfl)
theorem vt_213 : (.methodLink "FamilyKernel" 154 ⟨"FamilyKernel", "keep", "(I)V"⟩ : Cond) ∈ vT := inR_5 _ (List.mem_of_getElem? (i := 13) rfl)
theorem vt_214 : (.instanceMethod ⟨"FamilyKernel", "keep", "(I)V"⟩ : Cond) ∈ vT := inR_5 _ (List.mem_of_getElem? (i := 14) rfl)
theorem vt_215 : (.selects "FamilyKernel" ⟨"FamilyKernel", "keep", "(I)V"⟩ ⟨"FamilyKernel", "keep", "(I)V"⟩ : Cond) ∈ vT := inR_5 _ (List.mem_of_getElem? (i := 15) rfl)
theorem vt_216 : (.code ⟨"FamilyKernel", "keep", "(I)V"⟩ prog_1_method_7_code 2 none : Cond) ∈ vT := inR_5 _ (List.mem_of_getElem? (i := 16) rfl)
theorem vt_217 : (.methodLink "FamilyKernel" 157 ⟨"FamilyKernel$Environment", "cut", "(I)V"⟩ : Cond) ∈ vT := inR_5 _ (List.mem_of_getElem? (i := 17) rfl)
theorem vt_218 : (.instanceMethod ⟨"FamilyKernel$Environment", "cut", "(I)V"⟩ : Cond) ∈ vT := inR_5 _ (List.mem_of_getElem? (i := 18) rfl)
theorem vt_219 : (.selects "FamilyKernel$Environment" ⟨"FamilyKernel$Environment", "cut", "(I)V"⟩ ⟨"FamilyKernel$Environment", "cut", "(I)V"⟩ : Cond) ∈ vT := inR_5 _ (List.mem_of_getElem? (i := 19) rfl)
theorem vt_220 : (.code ⟨"FamilyKernel$Environment", "cut", "(I)V"⟩ prog_2_method_9_code 2 none : Cond) ∈ vT := inR_5 _ (List.mem_of_getElem? (i := 20) rfl)
theorem vt_221 : (.methodLink "FamilyKernel" 158 ⟨"FamilyKernel$Terms", "release", "(I)V"⟩ : Cond) ∈ vT := inR_5 _ (List.mem_of_getElem? (i := 21) rfl)
theorem vt_222 : (.instanceMethod ⟨"FamilyKernel$Terms", "release", "(I)V"⟩ : Cond) ∈ vT := inR_5 _ (List.mem_of_getElem? (i := 22) rfl)
theorem vt_223 : (.selects "FamilyKernel$Terms" ⟨"FamilyKernel$Terms", "release", "(I)V"⟩ ⟨"FamilyKernel$Terms", "release", "(I)V"⟩ : Cond) ∈ vT := inR_5 _ (List.mem_of_getElem? (i := 23) rfl)
theorem vt_224 : (.code ⟨"FamilyKernel$Terms", "release", "(I)V"⟩ prog_11_method_17_code 3 none : Cond) ∈ vT := inR_5 _ (List.mem_of_getElem? (i := 24) rfl)
theorem vt_225 : (.fieldLink "FamilyKernel" 161 "FamilyKernel" "declared" "I" : Cond) ∈ vT := inR_5 _ (List.mem_of_getElem? (i := 25) rfl)
theorem vt_226 : (.methodLink "FamilyKernel" 165 ⟨"FamilyKernel$Meter", "work", "()I"⟩ : Cond) ∈ vT := inR_5 _ (List.mem_of_getElem? (i := 26) rfl)
theorem vt_227 : (.instanceMethod ⟨"FamilyKernel$Meter", "work", "()I"⟩ : Cond) ∈ vT := inR_5 _ (List.mem_of_getElem? (i := 27) rfl)
theorem vt_228 : (.selects "FamilyKernel$Meter" ⟨"FamilyKernel$Meter", "work", "()I"⟩ ⟨"FamilyKernel$Meter", "work", "()I"⟩ : Cond) ∈ vT := inR_5 _ (List.mem_of_getElem? (i := 28) rfl)
theorem vt_229 : (.code ⟨"FamilyKernel$Meter", "work", "()I"⟩ prog_6_method_4_code 1 (some .int) : Cond) ∈ vT := inR_5 _ (List.mem_of_getElem? (i := 29) rfl)
theorem vt_230 : (.fieldLink "FamilyKernel" 167 "FamilyKernel" "latestWork" "I" : Cond) ∈ vT := inR_5 _ (List.mem_of_getElem? (i := 30) rfl)
theorem vt_231 : (.methodLink "FamilyKernel" 121 ⟨"FamilyKernel$Row", "cut", "(I)V"⟩ : Cond) ∈ vT := inR_5 _ (List.mem_of_getElem? (i := 31) rfl)
theorem vt_232 : (.instanceMethod ⟨"FamilyKernel$Row", "cut", "(I)V"⟩ : Cond) ∈ vT := inR_5 _ (List.mem_of_getElem? (i := 32) rfl)
theorem vt_233 : (.selects "FamilyKernel$Row" ⟨"FamilyKernel$Row", "cut", "(I)V"⟩ ⟨"FamilyKernel$Row", "cut", "(I)V"⟩ : Cond) ∈ vT := inR_5 _ (List.mem_of_getElem? (i := 33) rfl)
theorem vt_234 : (.code ⟨"FamilyKernel$Row", "cut", "(I)V"⟩ prog_10_method_7_code 2 none : Cond) ∈ vT := inR_5 _ (List.mem_of_getElem? (i := 34) rfl)
theorem vt_235 : (.codeWith ⟨"FamilyKernel", "read", "()I"⟩ prog_1_method_5_code 6 (some .int) [(65, 104, 107, 108)] : Cond) ∈ vT := inR_5 _ (List.mem_of_getElem? (i := 35) rfl)
theorem vt_236 : (.fieldLink "FamilyKernel$Meter" 9 "FamilyKernel$Meter" "code" "I" : Cond) ∈ vT := inR_5 _ (List.mem_of_getElem? (i := 36) rfl)
theorem vt_237 : (.fieldLink "FamilyKernel$Meter" 15 "FamilyKernel$Meter" "place" "I" : Cond) ∈ vT := inR_5 _ (List.mem_of_getElem? (i := 37) rfl)
theorem vt_238 : (.methodLink "FamilyKernel$Lexer" 24 ⟨"FamilyKernel$Row", "cut", "(I)V"⟩ : Cond) ∈ vT := inR_5 _ (List.mem_of_getElem? (i := 38) rfl)
theorem vt_239 : (.fieldLink "FamilyKernel$Lexer" 28 "FamilyKernel$Lexer" "place" "I" : Cond) ∈ vT := inR_5 _ (List.mem_of_getElem? (i := 39) rfl)
theorem vt_240 : (.fieldLink "FamilyKernel$Lexer" 32 "FamilyKernel$Lexer" "kind" "I" : Cond) ∈ vT := inR_6 _ (List.mem_of_getElem? (i := 0) rfl)
theorem vt_241 : (.constant "FamilyKernel$Lexer" 35 65536 : Cond) ∈ vT := inR_6 _ (List.mem_of_getElem? (i := 1) rfl)
theorem vt_242 : (.methodLink "FamilyKernel$Lexer" 36 ⟨"FamilyKernel$Lexer", "scan", "()V"⟩ : Cond) ∈ vT := inR_6 _ (List.mem_of_getElem? (i := 2) rfl)
theorem vt_243 : (.instanceMethod ⟨"FamilyKernel$Lexer", "scan", "()V"⟩ : Cond) ∈ vT := inR_6 _ (List.mem_of_getElem? (i := 3) rfl)
theorem vt_244 : (.selects "FamilyKernel$Lexer" ⟨"FamilyKernel$Lexer", "scan", "()V"⟩ ⟨"FamilyKernel$Lexer", "scan", "()V"⟩ : Cond) ∈ vT := inR_6 _ (List.mem_of_getElem? (i := 4) rfl)
theorem vt_245 : (.code ⟨"FamilyKernel$Lexer", "scan", "()V"⟩ prog_5_method_14_code 2 none : Cond) ∈ vT := inR_6 _ (List.mem_of_getElem? (i := 5) rfl)
theorem vt_246 : (.fieldLink "FamilyKernel$Lexer" 39 "FamilyKernel$Lexer" "start" "I" : Cond) ∈ vT := inR_6 _ (List.mem_of_getElem? (i := 6) rfl)
theorem vt_247 : (.fieldLink "FamilyKernel$Lexer" 42 "FamilyKernel$Lexer" "length" "I" : Cond) ∈ vT := inR_6 _ (List.mem_of_getElem? (i := 7) rfl)
theorem vt_248 : (.methodLink "FamilyKernel$Lexer" 45 ⟨"FamilyKernel$Lexer", "named", "(II)I"⟩ : Cond) ∈ vT := inR_6 _ (List.mem_of_getElem? (i := 8) rfl)
theorem vt_249 : (.static ⟨"FamilyKernel$Lexer", "named", "(II)I"⟩ : Cond) ∈ vT := inR_6 _ (List.mem_of_getElem? (i := 9) rfl)
theorem vt_250 : (.code ⟨"FamilyKernel$Lexer", "named", "(II)I"⟩ prog_5_method_7_code 2 (some .int) : Cond) ∈ vT := inR_6 _ (List.mem_of_getElem? (i := 10) rfl)
theorem vt_251 : (.methodLink "FamilyKernel$Lexer" 49 ⟨"FamilyKernel$Row", "push", "(I)V"⟩ : Cond) ∈ vT := inR_6 _ (List.mem_of_getElem? (i := 11) rfl)
theorem vt_252 : (.instanceMethod ⟨"FamilyKernel$Row", "push", "(I)V"⟩ : Cond) ∈ vT := inR_6 _ (List.mem_of_getElem? (i := 12) rfl)
theorem vt_253 : (.selects "FamilyKernel$Row" ⟨"FamilyKernel$Row", "push", "(I)V"⟩ ⟨"FamilyKernel$Row", "push", "(I)V"⟩ : Cond) ∈ vT := inR_6 _ (List.mem_of_getElem? (i := 13) rfl)
theorem vt_254 : (.code ⟨"FamilyKernel$Row", "push", "(I)V"⟩ prog_10_method_5_code 2 none : Cond) ∈ vT := inR_6 _ (List.mem_of_getElem? (i := 14) rfl)
theorem vt_255 : (.fieldLink "FamilyKernel$Lexer" 52 "FamilyKernel$Lexer" "at" "I" : Cond) ∈ vT := inR_6 _ (List.mem_of_getElem? (i := 15) rfl)
theorem vt_256 : (.methodLink "FamilyKernel$Lexer" 55 ⟨"FamilyKernel$Lexer", "advance", "()V"⟩ : Cond) ∈ vT := inR_6 _ (List.mem_of_getElem? (i := 16) rfl)
theorem vt_257 : (.instanceMethod ⟨"FamilyKernel$Lexer", "advance", "()V"⟩ : Cond) ∈ vT := inR_6 _ (List.mem_of_getElem? (i := 17) rfl)
theorem vt_258 : (.selects "FamilyKernel$Lexer" ⟨"FamilyKernel$Lexer", "advance", "()V"⟩ ⟨"FamilyKernel$Lexer", "advance", "()V"⟩ : Cond) ∈ vT := inR_6 _ (List.mem_of_getElem? (i := 18) rfl)
theorem vt_259 : (.code ⟨"FamilyKernel$Lexer", "advance", "()V"⟩ prog_5_method_3_code 2 none : Cond) ∈ vT := inR_6 _ (List.mem_of_getElem? (i := 19) rfl)
theorem vt_260 : (.fieldLink "FamilyKernel$Row" 17 "FamilyKernel$Row" "length" "I" : Cond) ∈ vT := inR_6 _ (List.mem_of_getElem? (i := 20) rfl)
theorem vt_261 : (.methodLink "FamilyKernel$Lexer" 70 ⟨"FamilyKernel$Lexer", "skip", "()V"⟩ : Cond) ∈ vT := inR_6 _ (List.mem_of_getElem? (i := 21) rfl)
theorem vt_262 : (.instanceMethod ⟨"FamilyKernel$Lexer", "skip", "()V"⟩ : Cond) ∈ vT := inR_6 _ (List.mem_of_getElem? (i := 22) rfl)
theorem vt_263 : (.selects "FamilyKernel$Lexer" ⟨"FamilyKernel$Lexer", "skip", "()V"⟩ ⟨"FamilyKernel$Lexer", "skip", "()V"⟩ : Cond) ∈ vT := inR_6 _ (List.mem_of_getElem? (i := 23) rfl)
theorem vt_264 : (.code ⟨"FamilyKernel$Lexer", "skip", "()V"⟩ prog_5_method_15_code 3 none : Cond) ∈ vT := inR_6 _ (List.mem_of_getElem? (i := 24) rfl)
theorem vt_265 : (.methodLink "FamilyKernel$Lexer" 58 ⟨"FamilyKernel$Row", "at", "(I)I"⟩ : Cond) ∈ vT := inR_6 _ (List.mem_of_getElem? (i := 25) rfl)
theorem vt_266 : (.instanceMethod ⟨"FamilyKernel$Row", "at", "(I)I"⟩ : Cond) ∈ vT := inR_6 _ (List.mem_of_getElem? (i := 26) rfl)
theorem vt_267 : (.selects "FamilyKernel$Row" ⟨"FamilyKernel$Row", "at", "(I)I"⟩ ⟨"FamilyKernel$Row", "at", "(I)I"⟩ : Cond) ∈ vT := inR_6 _ (List.mem_of_getElem? (i := 27) rfl)
theorem vt_268 : (.code ⟨"FamilyKernel$Row", "at", "(I)I"⟩ prog_10_method_3_code 2 (some .int) : Cond) ∈ vT := inR_6 _ (List.mem_of_getElem? (i := 28) rfl)
theorem vt_269 : (.methodLink "FamilyKernel$Lexer" 73 ⟨"FamilyKernel$Row", "size", "()I"⟩ : Cond) ∈ vT := inR_6 _ (List.mem_of_getElem? (i := 29) rfl)
theorem vt_270 : (.instanceMethod ⟨"FamilyKernel$Row", "size", "()I"⟩ : Cond) ∈ vT := inR_6 _ (List.mem_of_getElem? (i := 30) rfl)
theorem vt_271 : (.selects "FamilyKernel$Row" ⟨"FamilyKernel$Row", "size", "()I"⟩ ⟨"FamilyKernel$Row", "size", "()I"⟩ : Cond) ∈ vT := inR_6 _ (List.mem_of_getElem? (i := 31) rfl)
theorem vt_272 : (.code ⟨"FamilyKernel$Row", "size", "()I"⟩ prog_10_method_2_code 1 (some .int) : Cond) ∈ vT := inR_6 _ (List.mem_of_getElem? (i := 32) rfl)
theorem vt_273 : (.methodLink "FamilyKernel$Lexer" 77 ⟨"FamilyKernel$Lexer", "isLetter", "(I)Z"⟩ : Cond) ∈ vT := inR_6 _ (List.mem_of_getElem? (i := 33) rfl)
theorem vt_274 : (.static ⟨"FamilyKernel$Lexer", "isLetter", "(I)Z"⟩ : Cond) ∈ vT := inR_6 _ (List.mem_of_getElem? (i := 34) rfl)
theorem vt_275 : (.code ⟨"FamilyKernel$Lexer", "isLetter", "(I)Z"⟩ prog_5_method_16_code 1 (some .boolean) : Cond) ∈ vT := inR_6 _ (List.mem_of_getElem? (i := 35) rfl)
theorem vt_276 : (.methodLink "FamilyKernel$Lexer" 81 ⟨"FamilyKernel$Lexer", "scanWord", "()V"⟩ : Cond) ∈ vT := inR_6 _ (List.mem_of_getElem? (i := 36) rfl)
theorem vt_277 : (.instanceMethod ⟨"FamilyKernel$Lexer", "scanWord", "()V"⟩ : Cond) ∈ vT := inR_6 _ (List.mem_of_getElem? (i := 37) rfl)
theorem vt_278 : (.selects "FamilyKernel$Lexer" ⟨"FamilyKernel$Lexer", "scanWord", "()V"⟩ ⟨"FamilyKernel$Lexer", "scanWord", "()V"⟩ : Cond) ∈ vT := inR_6 _ (List.mem_of_getElem? (i := 38) rfl)
theorem vt_279 : (.code ⟨"FamilyKernel$Lexer", "scanWord", "()V"⟩ prog_5_method_19_code 2 none : Cond) ∈ vT := inR_6 _ (List.mem_of_getElem? (i := 39) rfl)
theorem vt_280 : (.methodLink "FamilyKernel$Lexer" 84 ⟨"FamilyKernel$Lexer", "isDigit", "(I)Z"⟩ : Cond) ∈ vT := inR_7 _ (List.mem_of_getElem? (i := 0) rfl)
theorem vt_281 : (.static ⟨"FamilyKernel$Lexer", "isDigit", "(I)Z"⟩ : Cond) ∈ vT := inR_7 _ (List.mem_of_getElem? (i := 1) rfl)
theorem vt_282 : (.code ⟨"FamilyKernel$Lexer", "isDigit", "(I)Z"⟩ prog_5_method_17_code 1 (some .boolean) : Cond) ∈ vT := inR_7 _ (List.mem_of_getElem? (i := 2) rfl)
theorem vt_283 : (.methodLink "FamilyKernel$Lexer" 87 ⟨"FamilyKernel$Lexer", "scanNumber", "()V"⟩ : Cond) ∈ vT := inR_7 _ (List.mem_of_getElem? (i := 3) rfl)
theorem vt_284 : (.instanceMethod ⟨"FamilyKernel$Lexer", "scanNumber", "()V"⟩ : Cond) ∈ vT := inR_7 _ (List.mem_of_getElem? (i := 4) rfl)
theorem vt_285 : (.selects "FamilyKernel$Lexer" ⟨"FamilyKernel$Lexer", "scanNumber", "()V"⟩ ⟨"FamilyKernel$Lexer", "scanNumber", "()V"⟩ : Cond) ∈ vT := inR_7 _ (List.mem_of_getElem? (i := 5) rfl)
theorem vt_286 : (.code ⟨"FamilyKernel$Lexer", "scanNumber", "()V"⟩ prog_5_method_20_code 2 none : Cond) ∈ vT := inR_7 _ (List.mem_of_getElem? (i := 6) rfl)
theorem vt_287 : (.methodLink "FamilyKernel$Lexer" 90 ⟨"FamilyKernel$Lexer", "scanSign", "(II)V"⟩ : Cond) ∈ vT := inR_7 _ (List.mem_of_getElem? (i := 7) rfl)
theorem vt_288 : (.instanceMethod ⟨"FamilyKernel$Lexer", "scanSign", "(II)V"⟩ : Cond) ∈ vT := inR_7 _ (List.mem_of_getElem? (i := 8) rfl)
theorem vt_289 : (.selects "FamilyKernel$Lexer" ⟨"FamilyKernel$Lexer", "scanSign", "(II)V"⟩ ⟨"FamilyKernel$Lexer", "scanSign", "(II)V"⟩ : Cond) ∈ vT := inR_7 _ (List.mem_of_getElem? (i := 9) rfl)
theorem vt_290 : (.code ⟨"FamilyKernel$Lexer", "scanSign", "(II)V"⟩ prog_5_method_21_code 4 none : Cond) ∈ vT := inR_7 _ (List.mem_of_getElem? (i := 10) rfl)
theorem vt_291 : (.methodLink "FamilyKernel$Lexer" 93 ⟨"FamilyKernel$Lexer", "isInWord", "(I)Z"⟩ : Cond) ∈ vT := inR_7 _ (List.mem_of_getElem? (i := 11) rfl)
theorem vt_292 : (.static ⟨"FamilyKernel$Lexer", "isInWord", "(I)Z"⟩ : Cond) ∈ vT := inR_7 _ (List.mem_of_getElem? (i := 12) rfl)
theorem vt_293 : (.code ⟨"FamilyKernel$Lexer", "isInWord", "(I)Z"⟩ prog_5_method_18_code 1 (some .boolean) : Cond) ∈ vT := inR_7 _ (List.mem_of_getElem? (i := 13) rfl)
theorem vt_294 : (.methodLink "FamilyKernel$Lexer" 96 ⟨"FamilyKernel$Lexer", "wordKind", "()I"⟩ : Cond) ∈ vT := inR_7 _ (List.mem_of_getElem? (i := 14) rfl)
theorem vt_295 : (.instanceMethod ⟨"FamilyKernel$Lexer", "wordKind", "()I"⟩ : Cond) ∈ vT := inR_7 _ (List.mem_of_getElem? (i := 15) rfl)
theorem vt_296 : (.selects "FamilyKernel$Lexer" ⟨"FamilyKernel$Lexer", "wordKind", "()I"⟩ ⟨"FamilyKernel$Lexer", "wordKind", "()I"⟩ : Cond) ∈ vT := inR_7 _ (List.mem_of_getElem? (i := 16) rfl)
theorem vt_297 : (.code ⟨"FamilyKernel$Lexer", "wordKind", "()I"⟩ prog_5_method_22_code 1 (some .int) : Cond) ∈ vT := inR_7 _ (List.mem_of_getElem? (i := 17) rfl)
theorem vt_298 : (.methodLink "FamilyKernel$Lexer" 101 ⟨"FamilyKernel$Lexer", "reads", "(Ljava/lang/String;)Z"⟩ : Cond) ∈ vT := inR_7 _ (List.mem_of_getElem? (i := 18) rfl)
theorem vt_299 : (.instanceMethod ⟨"FamilyKernel$Lexer", "reads", "(Ljava/lang/String;)Z"⟩ : Cond) ∈ vT := inR_7 _ (List.mem_of_getElem? (i := 19) rfl)
theorem vt_300 : (.selects "FamilyKernel$Lexer" ⟨"FamilyKernel$Lexer", "reads", "(Ljava/lang/String;)Z"⟩ ⟨"FamilyKernel$Lexer", "reads", "(Ljava/lang/String;)Z"⟩ : Cond) ∈ vT := inR_7 _ (List.mem_of_getElem? (i := 20) rfl)
theorem vt_301 : (.code ⟨"FamilyKernel$Lexer", "reads", "(Ljava/lang/String;)Z"⟩ prog_5_method_23_code 4 (some .boolean) : Cond) ∈ vT := inR_7 _ (List.mem_of_getElem? (i := 21) rfl)
theorem vt_302 : (.methodLink "FamilyKernel$Lexer" 129 ⟨"java/lang/String", "length", "()I"⟩ : Cond) ∈ vT := inR_7 _ (List.mem_of_getElem? (i := 22) rfl)
theorem vt_303 : (.initialized "java/lang/String" : Cond) ∈ vT := inR_7 _ (List.mem_of_getElem? (i := 23) rfl)
theorem vt_304 : (.instanceMethod ⟨"java/lang/String", "length", "()I"⟩ : Cond) ∈ vT := inR_7 _ (List.mem_of_getElem? (i := 24) rfl)
theorem vt_305 : (.selects "java/lang/String" ⟨"java/lang/String", "length", "()I"⟩ ⟨"java/lang/String", "length", "()I"⟩ : Cond) ∈ vT := inR_7 _ (List.mem_of_getElem? (i := 25) rfl)
theorem vt_306 : (.code ⟨"java/lang/String", "length", "()I"⟩ prog_23_method_54_code 1 (some .int) : Cond) ∈ vT := inR_7 _ (List.mem_of_getElem? (i := 26) rfl)
theorem vt_307 : (.methodLink "FamilyKernel$Lexer" 133 ⟨"java/lang/String", "charAt", "(I)C"⟩ : Cond) ∈ vT := inR_7 _ (List.mem_of_getElem? (i := 27) rfl)
theorem vt_308 : (.instanceMethod ⟨"java/lang/String", "charAt", "(I)C"⟩ : Cond) ∈ vT := inR_7 _ (List.mem_of_getElem? (i := 28) rfl)
theorem vt_309 : (.selects "java/lang/String" ⟨"java/lang/String", "charAt", "(I)C"⟩ ⟨"java/lang/String", "charAt", "(I)C"⟩ : Cond) ∈ vT := inR_7 _ (List.mem_of_getElem? (i := 29) rfl)
theorem vt_310 : (.code ⟨"java/lang/String", "charAt", "(I)C"⟩ prog_23_method_56_code 2 (some .char) : Cond) ∈ vT := inR_7 _ (List.mem_of_getElem? (i := 30) rfl)
theorem vt_311 : (.methodLink "FamilyKernel$Row" 20 ⟨"java/util/Arrays", "copyOf", "([II)[I"⟩ : Cond) ∈ vT := inR_7 _ (List.mem_of_getElem? (i := 31) rfl)
theorem vt_312 : (.initialized "java/util/Arrays" : Cond) ∈ vT := inR_7 _ (List.mem_of_getElem? (i := 32) rfl)
theorem vt_313 : (.static ⟨"java/util/Arrays", "copyOf", "([II)[I"⟩ : Cond) ∈ vT := inR_7 _ (List.mem_of_getElem? (i := 33) rfl)
theorem vt_314 : (.code ⟨"java/util/Arrays", "copyOf", "([II)[I"⟩ prog_28_method_123_code 3 (some (.array .int)) : Cond) ∈ vT := inR_7 _ (List.mem_of_getElem? (i := 34) rfl)
theorem vt_315 : (.methodLink "java/util/Arrays" 316 ⟨"[I", "clone", "()Ljava/lang/Object;"⟩ : Cond) ∈ vT := inR_7 _ (List.mem_of_getElem? (i := 35) rfl)
theorem vt_316 : (.methodLink "java/util/Arrays" 304 ⟨"java/lang/Math", "min", "(II)I"⟩ : Cond) ∈ vT := inR_7 _ (List.mem_of_getElem? (i := 36) rfl)
theorem vt_317 : (.initialized "java/lang/Math" : Cond) ∈ vT := inR_7 _ (List.mem_of_getElem? (i := 37) rfl)
theorem vt_318 : (.static ⟨"java/lang/Math", "min", "(II)I"⟩ : Cond) ∈ vT := inR_7 _ (List.mem_of_getElem? (i := 38) rfl)
theorem vt_319 : (.code ⟨"java/lang/Math", "min", "(II)I"⟩ prog_21_method_69_code 2 (some .int) : Cond) ∈ vT := inR_7 _ (List.mem_of_getElem? (i := 39) rfl)
theorem vt_320 : (.methodLink "java/util/Arrays" 150 ⟨"java/lang/System", "arraycopy", "(Ljava/lang/Object;ILjava/lang/Object;II)V"⟩ : Cond) ∈ vT := inR_8 _ (List.mem_of_getElem? (i := 0) rfl)
theorem vt_321 : (.initialized "java/lang/System" : Cond) ∈ vT := inR_8 _ (List.mem_of_getElem? (i := 1) rfl)
theorem vt_322 : (.static ⟨"java/lang/System", "arraycopy", "(Ljava/lang/Object;ILjava/lang/Object;II)V"⟩ : Cond) ∈ vT := inR_8 _ (List.mem_of_getElem? (i := 2) rfl)
theorem vt_323 : (.methodLink "FamilyKernel$Environment" 24 ⟨"FamilyKernel$Row", "size", "()I"⟩ : Cond) ∈ vT := inR_8 _ (List.mem_of_getElem? (i := 3) rfl)
theorem vt_324 : (.fieldLink "FamilyKernel$Terms" 48 "FamilyKernel$Terms" "length" "I" : Cond) ∈ vT := inR_8 _ (List.mem_of_getElem? (i := 4) rfl)
theorem vt_325 : (.fieldLink "FamilyKernel$Meter" 18 "FamilyKernel$Meter" "work" "I" : Cond) ∈ vT := inR_8 _ (List.mem_of_getElem? (i := 5) rfl)
theorem vt_326 : (.fieldLink "FamilyKernel$Meter" 21 "FamilyKernel$Meter" "start" "I" : Cond) ∈ vT := inR_8 _ (List.mem_of_getElem? (i := 6) rfl)
theorem vt_327 : (.methodLink "FamilyKernel$Parser" 79 ⟨"FamilyKernel$Row", "cut", "(I)V"⟩ : Cond) ∈ vT := inR_8 _ (List.mem_of_getElem? (i := 7) rfl)
theorem vt_328 : (.fieldLink "FamilyKernel$Parser" 83 "FamilyKernel$Parser" "nest" "I" : Cond) ∈ vT := inR_8 _ (List.mem_of_getElem? (i := 8) rfl)
theorem vt_329 : (.fieldLink "FamilyKernel$Parser" 86 "FamilyKernel$Parser" "copies" "I" : Cond) ∈ vT := inR_8 _ (List.mem_of_getElem? (i := 9) rfl)
theorem vt_330 : (.fieldLink "FamilyKernel$Parser" 89 "FamilyKernel$Parser" "textSize" "I" : Cond) ∈ vT := inR_8 _ (List.mem_of_getElem? (i := 10) rfl)
theorem vt_331 : (.methodLink "FamilyKernel$Parser" 92 ⟨"FamilyKernel$Environment", "length", "()I"⟩ : Cond) ∈ vT := inR_8 _ (List.mem_of_getElem? (i := 11) rfl)
theorem vt_332 : (.fieldLink "FamilyKernel$Parser" 97 "FamilyKernel$Parser" "known" "I" : Cond) ∈ vT := inR_8 _ (List.mem_of_getElem? (i := 12) rfl)
theorem vt_333 : (.fieldLink "FamilyKernel$Parser" 53 "FamilyKernel$Parser" "constant" "I" : Cond) ∈ vT := inR_8 _ (List.mem_of_getElem? (i := 13) rfl)
theorem vt_334 : (.fieldLink "FamilyKernel$Parser" 56 "FamilyKernel$Parser" "type" "I" : Cond) ∈ vT := inR_8 _ (List.mem_of_getElem? (i := 14) rfl)
theorem vt_335 : (.fieldLink "FamilyKernel$Parser" 59 "FamilyKernel$Parser" "value" "I" : Cond) ∈ vT := inR_8 _ (List.mem_of_getElem? (i := 15) rfl)
theorem vt_336 : (.methodLink "FamilyKernel$Parser" 100 ⟨"FamilyKernel$Parser", "begin", "()V"⟩ : Cond) ∈ vT := inR_8 _ (List.mem_of_getElem? (i := 16) rfl)
theorem vt_337 : (.instanceMethod ⟨"FamilyKernel$Parser", "begin", "()V"⟩ : Cond) ∈ vT := inR_8 _ (List.mem_of_getElem? (i := 17) rfl)
theorem vt_338 : (.selects "FamilyKernel$Parser" ⟨"FamilyKernel$Parser", "begin", "()V"⟩ ⟨"FamilyKernel$Parser", "begin", "()V"⟩ : Cond) ∈ vT := inR_8 _ (List.mem_of_getElem? (i := 18) rfl)
theorem vt_339 : (.code ⟨"FamilyKernel$Parser", "begin", "()V"⟩ prog_7_method_11_code 2 none : Cond) ∈ vT := inR_8 _ (List.mem_of_getElem? (i := 19) rfl)
theorem vt_340 : (.fieldLink "FamilyKernel$Parser" 103 "FamilyKernel$Parser" "state" "I" : Cond) ∈ vT := inR_8 _ (List.mem_of_getElem? (i := 20) rfl)
theorem vt_341 : (.methodLink "FamilyKernel$Parser" 106 ⟨"FamilyKernel$Parser", "startTerm", "()V"⟩ : Cond) ∈ vT := inR_8 _ (List.mem_of_getElem? (i := 21) rfl)
theorem vt_342 : (.instanceMethod ⟨"FamilyKernel$Parser", "startTerm", "()V"⟩ : Cond) ∈ vT := inR_8 _ (List.mem_of_getElem? (i := 22) rfl)
theorem vt_343 : (.selects "FamilyKernel$Parser" ⟨"FamilyKernel$Parser", "startTerm", "()V"⟩ ⟨"FamilyKernel$Parser", "startTerm", "()V"⟩ : Cond) ∈ vT := inR_8 _ (List.mem_of_getElem? (i := 23) rfl)
theorem vt_344 : (.code ⟨"FamilyKernel$Parser", "startTerm", "()V"⟩ prog_7_method_24_code 3 none : Cond) ∈ vT := inR_8 _ (List.mem_of_getElem? (i := 24) rfl)
theorem vt_345 : (.methodLink "FamilyKernel$Parser" 109 ⟨"FamilyKernel$Parser", "takeAtom", "()V"⟩ : Cond) ∈ vT := inR_8 _ (List.mem_of_getElem? (i := 25) rfl)
theorem vt_346 : (.instanceMethod ⟨"FamilyKernel$Parser", "takeAtom", "()V"⟩ : Cond) ∈ vT := inR_8 _ (List.mem_of_getElem? (i := 26) rfl)
theorem vt_347 : (.selects "FamilyKernel$Parser" ⟨"FamilyKernel$Parser", "takeAtom", "()V"⟩ ⟨"FamilyKernel$Parser", "takeAtom", "()V"⟩ : Cond) ∈ vT := inR_8 _ (List.mem_of_getElem? (i := 27) rfl)
theorem vt_348 : (.code ⟨"FamilyKernel$Parser", "takeAtom", "()V"⟩ prog_7_method_25_code 2 none : Cond) ∈ vT := inR_8 _ (List.mem_of_getElem? (i := 28) rfl)
theorem vt_349 : (.methodLink "FamilyKernel$Parser" 112 ⟨"FamilyKernel$Parser", "startGroup", "()V"⟩ : Cond) ∈ vT := inR_8 _ (List.mem_of_getElem? (i := 29) rfl)
theorem vt_350 : (.instanceMethod ⟨"FamilyKernel$Parser", "startGroup", "()V"⟩ : Cond) ∈ vT := inR_8 _ (List.mem_of_getElem? (i := 30) rfl)
theorem vt_351 : (.selects "FamilyKernel$Parser" ⟨"FamilyKernel$Parser", "startGroup", "()V"⟩ ⟨"FamilyKernel$Parser", "startGroup", "()V"⟩ : Cond) ∈ vT := inR_8 _ (List.mem_of_getElem? (i := 31) rfl)
theorem vt_352 : (.code ⟨"FamilyKernel$Parser", "startGroup", "()V"⟩ prog_7_method_31_code 2 none : Cond) ∈ vT := inR_8 _ (List.mem_of_getElem? (i := 32) rfl)
theorem vt_353 : (.methodLink "FamilyKernel$Parser" 115 ⟨"FamilyKernel$Parser", "takeMember", "()V"⟩ : Cond) ∈ vT := inR_8 _ (List.mem_of_getElem? (i := 33) rfl)
theorem vt_354 : (.instanceMethod ⟨"FamilyKernel$Parser", "takeMember", "()V"⟩ : Cond) ∈ vT := inR_8 _ (List.mem_of_getElem? (i := 34) rfl)
theorem vt_355 : (.selects "FamilyKernel$Parser" ⟨"FamilyKernel$Parser", "takeMember", "()V"⟩ ⟨"FamilyKernel$Parser", "takeMember", "()V"⟩ : Cond) ∈ vT := inR_8 _ (List.mem_of_getElem? (i := 35) rfl)
theorem vt_356 : (.code ⟨"FamilyKernel$Parser", "takeMember", "()V"⟩ prog_7_method_44_code 2 none : Cond) ∈ vT := inR_8 _ (List.mem_of_getElem? (i := 36) rfl)
theorem vt_357 : (.methodLink "FamilyKernel$Parser" 118 ⟨"FamilyKernel$Parser", "endParen", "()V"⟩ : Cond) ∈ vT := inR_8 _ (List.mem_of_getElem? (i := 37) rfl)
theorem vt_358 : (.instanceMethod ⟨"FamilyKernel$Parser", "endParen", "()V"⟩ : Cond) ∈ vT := inR_8 _ (List.mem_of_getElem? (i := 38) rfl)
theorem vt_359 : (.selects "FamilyKernel$Parser" ⟨"FamilyKernel$Parser", "endParen", "()V"⟩ ⟨"FamilyKernel$Parser", "endParen", "()V"⟩ : Cond) ∈ vT := inR_8 _ (List.mem_of_getElem? (i := 39) rfl)
theorem vt_360 : (.code ⟨"FamilyKernel$Parser", "endParen", "()V"⟩ prog_7_method_35_code 3 none : Cond) ∈ vT := inR_9 _ (List.mem_of_getElem? (i := 0) rfl)
theorem vt_361 : (.methodLink "FamilyKernel$Parser" 121 ⟨"FamilyKernel$Parser", "endArrow", "()V"⟩ : Cond) ∈ vT := inR_9 _ (List.mem_of_getElem? (i := 1) rfl)
theorem vt_362 : (.instanceMethod ⟨"FamilyKernel$Parser", "endArrow", "()V"⟩ : Cond) ∈ vT := inR_9 _ (List.mem_of_getElem? (i := 2) rfl)
theorem vt_363 : (.selects "FamilyKernel$Parser" ⟨"FamilyKernel$Parser", "endArrow", "()V"⟩ ⟨"FamilyKernel$Parser", "endArrow", "()V"⟩ : Cond) ∈ vT := inR_9 _ (List.mem_of_getElem? (i := 3) rfl)
theorem vt_364 : (.code ⟨"FamilyKernel$Parser", "endArrow", "()V"⟩ prog_7_method_36_code 2 none : Cond) ∈ vT := inR_9 _ (List.mem_of_getElem? (i := 4) rfl)
theorem vt_365 : (.methodLink "FamilyKernel$Parser" 124 ⟨"FamilyKernel$Parser", "endGroup", "()V"⟩ : Cond) ∈ vT := inR_9 _ (List.mem_of_getElem? (i := 5) rfl)
theorem vt_366 : (.instanceMethod ⟨"FamilyKernel$Parser", "endGroup", "()V"⟩ : Cond) ∈ vT := inR_9 _ (List.mem_of_getElem? (i := 6) rfl)
theorem vt_367 : (.selects "FamilyKernel$Parser" ⟨"FamilyKernel$Parser", "endGroup", "()V"⟩ ⟨"FamilyKernel$Parser", "endGroup", "()V"⟩ : Cond) ∈ vT := inR_9 _ (List.mem_of_getElem? (i := 7) rfl)
theorem vt_368 : (.code ⟨"FamilyKernel$Parser", "endGroup", "()V"⟩ prog_7_method_32_code 4 none : Cond) ∈ vT := inR_9 _ (List.mem_of_getElem? (i := 8) rfl)
theorem vt_369 : (.methodLink "FamilyKernel$Parser" 127 ⟨"FamilyKernel$Parser", "endBody", "()V"⟩ : Cond) ∈ vT := inR_9 _ (List.mem_of_getElem? (i := 9) rfl)
theorem vt_370 : (.instanceMethod ⟨"FamilyKernel$Parser", "endBody", "()V"⟩ : Cond) ∈ vT := inR_9 _ (List.mem_of_getElem? (i := 10) rfl)
theorem vt_371 : (.selects "FamilyKernel$Parser" ⟨"FamilyKernel$Parser", "endBody", "()V"⟩ ⟨"FamilyKernel$Parser", "endBody", "()V"⟩ : Cond) ∈ vT := inR_9 _ (List.mem_of_getElem? (i := 11) rfl)
theorem vt_372 : (.code ⟨"FamilyKernel$Parser", "endBody", "()V"⟩ prog_7_method_34_code 3 none : Cond) ∈ vT := inR_9 _ (List.mem_of_getElem? (i := 12) rfl)
theorem vt_373 : (.methodLink "FamilyKernel$Parser" 130 ⟨"FamilyKernel$Parser", "endLetType", "()V"⟩ : Cond) ∈ vT := inR_9 _ (List.mem_of_getElem? (i := 13) rfl)
theorem vt_374 : (.instanceMethod ⟨"FamilyKernel$Parser", "endLetType", "()V"⟩ : Cond) ∈ vT := inR_9 _ (List.mem_of_getElem? (i := 14) rfl)
theorem vt_375 : (.selects "FamilyKernel$Parser" ⟨"FamilyKernel$Parser", "endLetType", "()V"⟩ ⟨"FamilyKernel$Parser", "endLetType", "()V"⟩ : Cond) ∈ vT := inR_9 _ (List.mem_of_getElem? (i := 15) rfl)
theorem vt_376 : (.code ⟨"FamilyKernel$Parser", "endLetType", "()V"⟩ prog_7_method_37_code 2 none : Cond) ∈ vT := inR_9 _ (List.mem_of_getElem? (i := 16) rfl)
theorem vt_377 : (.methodLink "FamilyKernel$Parser" 133 ⟨"FamilyKernel$Parser", "endLetValue", "()V"⟩ : Cond) ∈ vT := inR_9 _ (List.mem_of_getElem? (i := 17) rfl)
theorem vt_378 : (.instanceMethod ⟨"FamilyKernel$Parser", "endLetValue", "()V"⟩ : Cond) ∈ vT := inR_9 _ (List.mem_of_getElem? (i := 18) rfl)
theorem vt_379 : (.selects "FamilyKernel$Parser" ⟨"FamilyKernel$Parser", "endLetValue", "()V"⟩ ⟨"FamilyKernel$Parser", "endLetValue", "()V"⟩ : Cond) ∈ vT := inR_9 _ (List.mem_of_getElem? (i := 19) rfl)
theorem vt_380 : (.code ⟨"FamilyKernel$Parser", "endLetValue", "()V"⟩ prog_7_method_38_code 3 none : Cond) ∈ vT := inR_9 _ (List.mem_of_getElem? (i := 20) rfl)
theorem vt_381 : (.methodLink "FamilyKernel$Parser" 136 ⟨"FamilyKernel$Parser", "endLetBody", "()V"⟩ : Cond) ∈ vT := inR_9 _ (List.mem_of_getElem? (i := 21) rfl)
theorem vt_382 : (.instanceMethod ⟨"FamilyKernel$Parser", "endLetBody", "()V"⟩ : Cond) ∈ vT := inR_9 _ (List.mem_of_getElem? (i := 22) rfl)
theorem vt_383 : (.selects "FamilyKernel$Parser" ⟨"FamilyKernel$Parser", "endLetBody", "()V"⟩ ⟨"FamilyKernel$Parser", "endLetBody", "()V"⟩ : Cond) ∈ vT := inR_9 _ (List.mem_of_getElem? (i := 23) rfl)
theorem vt_384 : (.code ⟨"FamilyKernel$Parser", "endLetBody", "()V"⟩ prog_7_method_39_code 2 none : Cond) ∈ vT := inR_9 _ (List.mem_of_getElem? (i := 24) rfl)
theorem vt_385 : (.methodLink "FamilyKernel$Parser" 139 ⟨"FamilyKernel$Parser", "endType", "()V"⟩ : Cond) ∈ vT := inR_9 _ (List.mem_of_getElem? (i := 25) rfl)
theorem vt_386 : (.instanceMethod ⟨"FamilyKernel$Parser", "endType", "()V"⟩ : Cond) ∈ vT := inR_9 _ (List.mem_of_getElem? (i := 26) rfl)
theorem vt_387 : (.selects "FamilyKernel$Parser" ⟨"FamilyKernel$Parser", "endType", "()V"⟩ ⟨"FamilyKernel$Parser", "endType", "()V"⟩ : Cond) ∈ vT := inR_9 _ (List.mem_of_getElem? (i := 27) rfl)
theorem vt_388 : (.code ⟨"FamilyKernel$Parser", "endType", "()V"⟩ prog_7_method_40_code 2 none : Cond) ∈ vT := inR_9 _ (List.mem_of_getElem? (i := 28) rfl)
theorem vt_389 : (.methodLink "FamilyKernel$Parser" 142 ⟨"FamilyKernel$Parser", "endValue", "()V"⟩ : Cond) ∈ vT := inR_9 _ (List.mem_of_getElem? (i := 29) rfl)
theorem vt_390 : (.instanceMethod ⟨"FamilyKernel$Parser", "endValue", "()V"⟩ : Cond) ∈ vT := inR_9 _ (List.mem_of_getElem? (i := 30) rfl)
theorem vt_391 : (.selects "FamilyKernel$Parser" ⟨"FamilyKernel$Parser", "endValue", "()V"⟩ ⟨"FamilyKernel$Parser", "endValue", "()V"⟩ : Cond) ∈ vT := inR_9 _ (List.mem_of_getElem? (i := 31) rfl)
theorem vt_392 : (.code ⟨"FamilyKernel$Parser", "endValue", "()V"⟩ prog_7_method_41_code 1 none : Cond) ∈ vT := inR_9 _ (List.mem_of_getElem? (i := 32) rfl)
theorem vt_393 : (.methodLink "FamilyKernel$Parser" 145 ⟨"FamilyKernel$Parser", "endChecked", "()V"⟩ : Cond) ∈ vT := inR_9 _ (List.mem_of_getElem? (i := 33) rfl)
theorem vt_394 : (.instanceMethod ⟨"FamilyKernel$Parser", "endChecked", "()V"⟩ : Cond) ∈ vT := inR_9 _ (List.mem_of_getElem? (i := 34) rfl)
theorem vt_395 : (.selects "FamilyKernel$Parser" ⟨"FamilyKernel$Parser", "endChecked", "()V"⟩ ⟨"FamilyKernel$Parser", "endChecked", "()V"⟩ : Cond) ∈ vT := inR_9 _ (List.mem_of_getElem? (i := 35) rfl)
theorem vt_396 : (.code ⟨"FamilyKernel$Parser", "endChecked", "()V"⟩ prog_7_method_42_code 1 none : Cond) ∈ vT := inR_9 _ (List.mem_of_getElem? (i := 36) rfl)
theorem vt_397 : (.methodLink "FamilyKernel$Parser" 148 ⟨"FamilyKernel$Parser", "endFamilyType", "()V"⟩ : Cond) ∈ vT := inR_9 _ (List.mem_of_getElem? (i := 37) rfl)
theorem vt_398 : (.instanceMethod ⟨"FamilyKernel$Parser", "endFamilyType", "()V"⟩ : Cond) ∈ vT := inR_9 _ (List.mem_of_getElem? (i := 38) rfl)
theorem vt_399 : (.selects "FamilyKernel$Parser" ⟨"FamilyKernel$Parser", "endFamilyType", "()V"⟩ ⟨"FamilyKernel$Parser", "endFamilyType", "()V"⟩ : Cond) ∈ vT := inR_9 _ (List.mem_of_getElem? (i := 39) rfl)
theorem vt_400 : (.code ⟨"FamilyKernel$Parser", "endFamilyType", "()V"⟩ prog_7_method_43_code 2 none : Cond) ∈ vT := inR_10 _ (List.mem_of_getElem? (i := 0) rfl)
theorem vt_401 : (.methodLink "FamilyKernel$Parser" 151 ⟨"FamilyKernel$Parser", "endMember", "()V"⟩ : Cond) ∈ vT := inR_10 _ (List.mem_of_getElem? (i := 1) rfl)
theorem vt_402 : (.instanceMethod ⟨"FamilyKernel$Parser", "endMember", "()V"⟩ : Cond) ∈ vT := inR_10 _ (List.mem_of_getElem? (i := 2) rfl)
theorem vt_403 : (.selects "FamilyKernel$Parser" ⟨"FamilyKernel$Parser", "endMember", "()V"⟩ ⟨"FamilyKernel$Parser", "endMember", "()V"⟩ : Cond) ∈ vT := inR_10 _ (List.mem_of_getElem? (i := 3) rfl)
theorem vt_404 : (.code ⟨"FamilyKernel$Parser", "endMember", "()V"⟩ prog_7_method_45_code 1 none : Cond) ∈ vT := inR_10 _ (List.mem_of_getElem? (i := 4) rfl)
theorem vt_405 : (.methodLink "FamilyKernel$Parser" 154 ⟨"FamilyKernel$Meter", "fail", "(I)V"⟩ : Cond) ∈ vT := inR_10 _ (List.mem_of_getElem? (i := 5) rfl)
theorem vt_406 : (.instanceMethod ⟨"FamilyKernel$Meter", "fail", "(I)V"⟩ : Cond) ∈ vT := inR_10 _ (List.mem_of_getElem? (i := 6) rfl)
theorem vt_407 : (.selects "FamilyKernel$Meter" ⟨"FamilyKernel$Meter", "fail", "(I)V"⟩ ⟨"FamilyKernel$Meter", "fail", "(I)V"⟩ : Cond) ∈ vT := inR_10 _ (List.mem_of_getElem? (i := 7) rfl)
theorem vt_408 : (.code ⟨"FamilyKernel$Meter", "fail", "(I)V"⟩ prog_6_method_8_code 2 none : Cond) ∈ vT := inR_10 _ (List.mem_of_getElem? (i := 8) rfl)
theorem vt_409 : (.methodLink "FamilyKernel$Parser" 159 ⟨"FamilyKernel$Terms", "length", "()I"⟩ : Cond) ∈ vT := inR_10 _ (List.mem_of_getElem? (i := 9) rfl)
theorem vt_410 : (.fieldLink "FamilyKernel$Parser" 62 "FamilyKernel$Parser" "nodes" "I" : Cond) ∈ vT := inR_10 _ (List.mem_of_getElem? (i := 10) rfl)
theorem vt_411 : (.methodLink "FamilyKernel$Parser" 160 ⟨"FamilyKernel$Lexer", "kind", "()I"⟩ : Cond) ∈ vT := inR_10 _ (List.mem_of_getElem? (i := 11) rfl)
theorem vt_412 : (.methodLink "FamilyKernel$Parser" 165 ⟨"FamilyKernel$Parser", "refuse", "()V"⟩ : Cond) ∈ vT := inR_10 _ (List.mem_of_getElem? (i := 12) rfl)
theorem vt_413 : (.instanceMethod ⟨"FamilyKernel$Parser", "refuse", "()V"⟩ : Cond) ∈ vT := inR_10 _ (List.mem_of_getElem? (i := 13) rfl)
theorem vt_414 : (.selects "FamilyKernel$Parser" ⟨"FamilyKernel$Parser", "refuse", "()V"⟩ ⟨"FamilyKernel$Parser", "refuse", "()V"⟩ : Cond) ∈ vT := inR_10 _ (List.mem_of_getElem? (i := 14) rfl)
theorem vt_415 : (.code ⟨"FamilyKernel$Parser", "refuse", "()V"⟩ prog_7_method_14_code 1 none : Cond) ∈ vT := inR_10 _ (List.mem_of_getElem? (i := 15) rfl)
theorem vt_416 : (.methodLink "FamilyKernel$Parser" 168 ⟨"FamilyKernel$Lexer", "advance", "()V"⟩ : Cond) ∈ vT := inR_10 _ (List.mem_of_getElem? (i := 16) rfl)
theorem vt_417 : (.fieldLink "FamilyKernel$Parser" 49 "FamilyKernel$Parser" "task" "I" : Cond) ∈ vT := inR_10 _ (List.mem_of_getElem? (i := 17) rfl)
theorem vt_418 : (.methodLink "FamilyKernel$Parser" 171 ⟨"FamilyKernel$Parser", "beginConstant", "(I)V"⟩ : Cond) ∈ vT := inR_10 _ (List.mem_of_getElem? (i := 18) rfl)
theorem vt_419 : (.instanceMethod ⟨"FamilyKernel$Parser", "beginConstant", "(I)V"⟩ : Cond) ∈ vT := inR_10 _ (List.mem_of_getElem? (i := 19) rfl)
theorem vt_420 : (.selects "FamilyKernel$Parser" ⟨"FamilyKernel$Parser", "beginConstant", "(I)V"⟩ ⟨"FamilyKernel$Parser", "beginConstant", "(I)V"⟩ : Cond) ∈ vT := inR_10 _ (List.mem_of_getElem? (i := 20) rfl)
theorem vt_421 : (.code ⟨"FamilyKernel$Parser", "beginConstant", "(I)V"⟩ prog_7_method_12_code 2 none : Cond) ∈ vT := inR_10 _ (List.mem_of_getElem? (i := 21) rfl)
theorem vt_422 : (.methodLink "FamilyKernel$Parser" 174 ⟨"FamilyKernel$Parser", "beginFamily", "()V"⟩ : Cond) ∈ vT := inR_10 _ (List.mem_of_getElem? (i := 22) rfl)
theorem vt_423 : (.instanceMethod ⟨"FamilyKernel$Parser", "beginFamily", "()V"⟩ : Cond) ∈ vT := inR_10 _ (List.mem_of_getElem? (i := 23) rfl)
theorem vt_424 : (.selects "FamilyKernel$Parser" ⟨"FamilyKernel$Parser", "beginFamily", "()V"⟩ ⟨"FamilyKernel$Parser", "beginFamily", "()V"⟩ : Cond) ∈ vT := inR_10 _ (List.mem_of_getElem? (i := 24) rfl)
theorem vt_425 : (.code ⟨"FamilyKernel$Parser", "beginFamily", "()V"⟩ prog_7_method_13_code 1 none : Cond) ∈ vT := inR_10 _ (List.mem_of_getElem? (i := 25) rfl)
theorem vt_426 : (.methodLink "FamilyKernel$Parser" 177 ⟨"FamilyKernel$Parser", "await", "(III)V"⟩ : Cond) ∈ vT := inR_10 _ (List.mem_of_getElem? (i := 26) rfl)
theorem vt_427 : (.instanceMethod ⟨"FamilyKernel$Parser", "await", "(III)V"⟩ : Cond) ∈ vT := inR_10 _ (List.mem_of_getElem? (i := 27) rfl)
theorem vt_428 : (.selects "FamilyKernel$Parser" ⟨"FamilyKernel$Parser", "await", "(III)V"⟩ ⟨"FamilyKernel$Parser", "await", "(III)V"⟩ : Cond) ∈ vT := inR_10 _ (List.mem_of_getElem? (i := 28) rfl)
theorem vt_429 : (.code ⟨"FamilyKernel$Parser", "await", "(III)V"⟩ prog_7_method_18_code 4 none : Cond) ∈ vT := inR_10 _ (List.mem_of_getElem? (i := 29) rfl)
theorem vt_430 : (.methodLink "FamilyKernel$Parser" 190 ⟨"FamilyKernel$Lexer", "start", "()I"⟩ : Cond) ∈ vT := inR_10 _ (List.mem_of_getElem? (i := 30) rfl)
theorem vt_431 : (.methodLink "FamilyKernel$Parser" 193 ⟨"FamilyKernel$Meter", "failAt", "(II)V"⟩ : Cond) ∈ vT := inR_10 _ (List.mem_of_getElem? (i := 31) rfl)
theorem vt_432 : (.instanceMethod ⟨"FamilyKernel$Meter", "failAt", "(II)V"⟩ : Cond) ∈ vT := inR_10 _ (List.mem_of_getElem? (i := 32) rfl)
theorem vt_433 : (.selects "FamilyKernel$Meter" ⟨"FamilyKernel$Meter", "failAt", "(II)V"⟩ ⟨"FamilyKernel$Meter", "failAt", "(II)V"⟩ : Cond) ∈ vT := inR_10 _ (List.mem_of_getElem? (i := 33) rfl)
theorem vt_434 : (.code ⟨"FamilyKernel$Meter", "failAt", "(II)V"⟩ prog_6_method_9_code 3 none : Cond) ∈ vT := inR_10 _ (List.mem_of_getElem? (i := 34) rfl)
theorem vt_435 : (.classLink "FamilyKernel$Meter" 29 "java/lang/IllegalStateException" : Cond) ∈ vT := inR_10 _ (List.mem_of_getElem? (i := 35) rfl)
theorem vt_436 : (.initialized "java/lang/IllegalStateException" : Cond) ∈ vT := inR_10 _ (List.mem_of_getElem? (i := 36) rfl)
theorem vt_437 : (.instantiable "java/lang/IllegalStateException" 6 : Cond) ∈ vT := inR_10 _ (List.mem_of_getElem? (i := 37) rfl)
theorem vt_438 : (.methodLink "FamilyKernel$Meter" 31 ⟨"java/lang/IllegalStateException", "<init>", "()V"⟩ : Cond) ∈ vT := inR_10 _ (List.mem_of_getElem? (i := 38) rfl)
theorem vt_439 : (.instanceMethod ⟨"java/lang/IllegalStateException", "<init>", "()V"⟩ : Cond) ∈ vT := inR_10 _ (List.mem_of_getElem? (i := 39) rfl)
theorem vt_440 : (.code ⟨"java/lang/IllegalStateException", "<init>", "()V"⟩ prog_19_method_1_code 1 none : Cond) ∈ vT := inR_11 _ (List.mem_of_getElem? (i := 0) rfl)
theorem vt_441 : (.methodLink "FamilyKernel$Parser" 181 ⟨"FamilyKernel$Parser", "takeNewName", "(I)I"⟩ : Cond) ∈ vT := inR_11 _ (List.mem_of_getElem? (i := 1) rfl)
theorem vt_442 : (.instanceMethod ⟨"FamilyKernel$Parser", "takeNewName", "(I)I"⟩ : Cond) ∈ vT := inR_11 _ (List.mem_of_getElem? (i := 2) rfl)
theorem vt_443 : (.selects "FamilyKernel$Parser" ⟨"FamilyKernel$Parser", "takeNewName", "(I)I"⟩ ⟨"FamilyKernel$Parser", "takeNewName", "(I)I"⟩ : Cond) ∈ vT := inR_11 _ (List.mem_of_getElem? (i := 3) rfl)
theorem vt_444 : (.code ⟨"FamilyKernel$Parser", "takeNewName", "(I)I"⟩ prog_7_method_16_code 3 (some .int) : Cond) ∈ vT := inR_11 _ (List.mem_of_getElem? (i := 4) rfl)
theorem vt_445 : (.methodLink "FamilyKernel$Parser" 184 ⟨"FamilyKernel$Parser", "expect", "(I)V"⟩ : Cond) ∈ vT := inR_11 _ (List.mem_of_getElem? (i := 5) rfl)
theorem vt_446 : (.instanceMethod ⟨"FamilyKernel$Parser", "expect", "(I)V"⟩ : Cond) ∈ vT := inR_11 _ (List.mem_of_getElem? (i := 6) rfl)
theorem vt_447 : (.selects "FamilyKernel$Parser" ⟨"FamilyKernel$Parser", "expect", "(I)V"⟩ ⟨"FamilyKernel$Parser", "expect", "(I)V"⟩ : Cond) ∈ vT := inR_11 _ (List.mem_of_getElem? (i := 7) rfl)
theorem vt_448 : (.code ⟨"FamilyKernel$Parser", "expect", "(I)V"⟩ prog_7_method_15_code 2 none : Cond) ∈ vT := inR_11 _ (List.mem_of_getElem? (i := 8) rfl)
theorem vt_449 : (.methodLink "FamilyKernel$Parser" 196 ⟨"FamilyKernel$Environment", "find", "(LFamilyKernel$Lexer;I)I"⟩ : Cond) ∈ vT := inR_11 _ (List.mem_of_getElem? (i := 9) rfl)
theorem vt_450 : (.instanceMethod ⟨"FamilyKernel$Environment", "find", "(LFamilyKernel$Lexer;I)I"⟩ : Cond) ∈ vT := inR_11 _ (List.mem_of_getElem? (i := 10) rfl)
theorem vt_451 : (.selects "FamilyKernel$Environment" ⟨"FamilyKernel$Environment", "find", "(LFamilyKernel$Lexer;I)I"⟩ ⟨"FamilyKernel$Environment", "find", "(LFamilyKernel$Lexer;I)I"⟩ : Cond) ∈ vT := inR_11 _ (List.mem_of_getElem? (i := 11) rfl)
theorem vt_452 : (.code ⟨"FamilyKernel$Environment", "find", "(LFamilyKernel$Lexer;I)I"⟩ prog_2_method_10_code 4 (some .int) : Cond) ∈ vT := inR_11 _ (List.mem_of_getElem? (i := 12) rfl)
theorem vt_453 : (.methodLink "FamilyKernel$Parser" 200 ⟨"FamilyKernel$Environment", "add", "(ILFamilyKernel$Lexer;)I"⟩ : Cond) ∈ vT := inR_11 _ (List.mem_of_getElem? (i := 13) rfl)
theorem vt_454 : (.instanceMethod ⟨"FamilyKernel$Environment", "add", "(ILFamilyKernel$Lexer;)I"⟩ : Cond) ∈ vT := inR_11 _ (List.mem_of_getElem? (i := 14) rfl)
theorem vt_455 : (.selects "FamilyKernel$Environment" ⟨"FamilyKernel$Environment", "add", "(ILFamilyKernel$Lexer;)I"⟩ ⟨"FamilyKernel$Environment", "add", "(ILFamilyKernel$Lexer;)I"⟩ : Cond) ∈ vT := inR_11 _ (List.mem_of_getElem? (i := 15) rfl)
theorem vt_456 : (.code ⟨"FamilyKernel$Environment", "add", "(ILFamilyKernel$Lexer;)I"⟩ prog_2_method_8_code 6 (some .int) : Cond) ∈ vT := inR_11 _ (List.mem_of_getElem? (i := 16) rfl)
theorem vt_457 : (.methodLink "FamilyKernel$Environment" 43 ⟨"FamilyKernel$Environment", "length", "()I"⟩ : Cond) ∈ vT := inR_11 _ (List.mem_of_getElem? (i := 17) rfl)
theorem vt_458 : (.methodLink "FamilyKernel$Environment" 63 ⟨"FamilyKernel$Environment", "fact", "(II)I"⟩ : Cond) ∈ vT := inR_11 _ (List.mem_of_getElem? (i := 18) rfl)
theorem vt_459 : (.instanceMethod ⟨"FamilyKernel$Environment", "fact", "(II)I"⟩ : Cond) ∈ vT := inR_11 _ (List.mem_of_getElem? (i := 19) rfl)
theorem vt_460 : (.selects "FamilyKernel$Environment" ⟨"FamilyKernel$Environment", "fact", "(II)I"⟩ ⟨"FamilyKernel$Environment", "fact", "(II)I"⟩ : Cond) ∈ vT := inR_11 _ (List.mem_of_getElem? (i := 20) rfl)
theorem vt_461 : (.code ⟨"FamilyKernel$Environment", "fact", "(II)I"⟩ prog_2_method_6_code 3 (some .int) : Cond) ∈ vT := inR_11 _ (List.mem_of_getElem? (i := 21) rfl)
theorem vt_462 : (.methodLink "FamilyKernel$Environment" 70 ⟨"FamilyKernel$Lexer", "standsAt", "(LFamilyKernel$Row;I)Z"⟩ : Cond) ∈ vT := inR_11 _ (List.mem_of_getElem? (i := 22) rfl)
theorem vt_463 : (.instanceMethod ⟨"FamilyKernel$Lexer", "standsAt", "(LFamilyKernel$Row;I)Z"⟩ : Cond) ∈ vT := inR_11 _ (List.mem_of_getElem? (i := 23) rfl)
theorem vt_464 : (.selects "FamilyKernel$Lexer" ⟨"FamilyKernel$Lexer", "standsAt", "(LFamilyKernel$Row;I)Z"⟩ ⟨"FamilyKernel$Lexer", "standsAt", "(LFamilyKernel$Row;I)Z"⟩ : Cond) ∈ vT := inR_11 _ (List.mem_of_getElem? (i := 24) rfl)
theorem vt_465 : (.code ⟨"FamilyKernel$Lexer", "standsAt", "(LFamilyKernel$Row;I)Z"⟩ prog_5_method_13_code 5 (some .boolean) : Cond) ∈ vT := inR_11 _ (List.mem_of_getElem? (i := 25) rfl)
theorem vt_466 : (.methodLink "FamilyKernel$Environment" 36 ⟨"FamilyKernel$Row", "at", "(I)I"⟩ : Cond) ∈ vT := inR_11 _ (List.mem_of_getElem? (i := 26) rfl)
theorem vt_467 : (.methodLink "FamilyKernel$Lexer" 64 ⟨"FamilyKernel$Lexer", "lengthOf", "(I)I"⟩ : Cond) ∈ vT := inR_11 _ (List.mem_of_getElem? (i := 27) rfl)
theorem vt_468 : (.static ⟨"FamilyKernel$Lexer", "lengthOf", "(I)I"⟩ : Cond) ∈ vT := inR_11 _ (List.mem_of_getElem? (i := 28) rfl)
theorem vt_469 : (.code ⟨"FamilyKernel$Lexer", "lengthOf", "(I)I"⟩ prog_5_method_9_code 1 (some .int) : Cond) ∈ vT := inR_11 _ (List.mem_of_getElem? (i := 29) rfl)
theorem vt_470 : (.methodLink "FamilyKernel$Lexer" 67 ⟨"FamilyKernel$Lexer", "startOf", "(I)I"⟩ : Cond) ∈ vT := inR_11 _ (List.mem_of_getElem? (i := 30) rfl)
theorem vt_471 : (.static ⟨"FamilyKernel$Lexer", "startOf", "(I)I"⟩ : Cond) ∈ vT := inR_11 _ (List.mem_of_getElem? (i := 31) rfl)
theorem vt_472 : (.code ⟨"FamilyKernel$Lexer", "startOf", "(I)I"⟩ prog_5_method_8_code 1 (some .int) : Cond) ∈ vT := inR_11 _ (List.mem_of_getElem? (i := 32) rfl)
theorem vt_473 : (.methodLink "FamilyKernel$Environment" 46 ⟨"FamilyKernel$Lexer", "length", "()I"⟩ : Cond) ∈ vT := inR_11 _ (List.mem_of_getElem? (i := 33) rfl)
theorem vt_474 : (.instanceMethod ⟨"FamilyKernel$Lexer", "length", "()I"⟩ : Cond) ∈ vT := inR_11 _ (List.mem_of_getElem? (i := 34) rfl)
theorem vt_475 : (.selects "FamilyKernel$Lexer" ⟨"FamilyKernel$Lexer", "length", "()I"⟩ ⟨"FamilyKernel$Lexer", "length", "()I"⟩ : Cond) ∈ vT := inR_11 _ (List.mem_of_getElem? (i := 35) rfl)
theorem vt_476 : (.code ⟨"FamilyKernel$Lexer", "length", "()I"⟩ prog_5_method_6_code 1 (some .int) : Cond) ∈ vT := inR_11 _ (List.mem_of_getElem? (i := 36) rfl)
theorem vt_477 : (.methodLink "FamilyKernel$Environment" 49 ⟨"FamilyKernel$Lexer", "named", "(II)I"⟩ : Cond) ∈ vT := inR_11 _ (List.mem_of_getElem? (i := 37) rfl)
theorem vt_478 : (.methodLink "FamilyKernel$Environment" 53 ⟨"FamilyKernel$Lexer", "sign", "(I)I"⟩ : Cond) ∈ vT := inR_11 _ (List.mem_of_getElem? (i := 38) rfl)
theorem vt_479 : (.instanceMethod ⟨"FamilyKernel$Lexer", "sign", "(I)I"⟩ : Cond) ∈ vT := inR_11 _ (List.mem_of_getElem? (i := 39) rfl)
theorem vt_480 : (.selects "FamilyKernel$Lexer" ⟨"FamilyKernel$Lexer", "sign", "(I)I"⟩ ⟨"FamilyKernel$Lexer", "sign", "(I)I"⟩ : Cond) ∈ vT := inR_12 _ (List.mem_of_getElem? (i := 0) rfl)
theorem vt_481 : (.code ⟨"FamilyKernel$Lexer", "sign", "(I)I"⟩ prog_5_method_11_code 2 (some .int) : Cond) ∈ vT := inR_12 _ (List.mem_of_getElem? (i := 1) rfl)
theorem vt_482 : (.methodLink "FamilyKernel$Environment" 56 ⟨"FamilyKernel$Row", "push", "(I)V"⟩ : Cond) ∈ vT := inR_12 _ (List.mem_of_getElem? (i := 2) rfl)
theorem vt_483 : (.methodLink "FamilyKernel$Environment" 59 ⟨"FamilyKernel$Environment", "fix", "(III)V"⟩ : Cond) ∈ vT := inR_12 _ (List.mem_of_getElem? (i := 3) rfl)
theorem vt_484 : (.instanceMethod ⟨"FamilyKernel$Environment", "fix", "(III)V"⟩ : Cond) ∈ vT := inR_12 _ (List.mem_of_getElem? (i := 4) rfl)
theorem vt_485 : (.selects "FamilyKernel$Environment" ⟨"FamilyKernel$Environment", "fix", "(III)V"⟩ ⟨"FamilyKernel$Environment", "fix", "(III)V"⟩ : Cond) ∈ vT := inR_12 _ (List.mem_of_getElem? (i := 5) rfl)
theorem vt_486 : (.code ⟨"FamilyKernel$Environment", "fix", "(III)V"⟩ prog_2_method_7_code 4 none : Cond) ∈ vT := inR_12 _ (List.mem_of_getElem? (i := 6) rfl)
theorem vt_487 : (.methodLink "FamilyKernel$Environment" 40 ⟨"FamilyKernel$Row", "put", "(II)V"⟩ : Cond) ∈ vT := inR_12 _ (List.mem_of_getElem? (i := 7) rfl)
theorem vt_488 : (.instanceMethod ⟨"FamilyKernel$Row", "put", "(II)V"⟩ : Cond) ∈ vT := inR_12 _ (List.mem_of_getElem? (i := 8) rfl)
theorem vt_489 : (.selects "FamilyKernel$Row" ⟨"FamilyKernel$Row", "put", "(II)V"⟩ ⟨"FamilyKernel$Row", "put", "(II)V"⟩ : Cond) ∈ vT := inR_12 _ (List.mem_of_getElem? (i := 9) rfl)
theorem vt_490 : (.code ⟨"FamilyKernel$Row", "put", "(II)V"⟩ prog_10_method_4_code 3 none : Cond) ∈ vT := inR_12 _ (List.mem_of_getElem? (i := 10) rfl)
theorem vt_491 : (.methodLink "FamilyKernel$Parser" 187 ⟨"FamilyKernel$Parser", "hold", "(III)V"⟩ : Cond) ∈ vT := inR_12 _ (List.mem_of_getElem? (i := 11) rfl)
theorem vt_492 : (.instanceMethod ⟨"FamilyKernel$Parser", "hold", "(III)V"⟩ : Cond) ∈ vT := inR_12 _ (List.mem_of_getElem? (i := 12) rfl)
theorem vt_493 : (.selects "FamilyKernel$Parser" ⟨"FamilyKernel$Parser", "hold", "(III)V"⟩ ⟨"FamilyKernel$Parser", "hold", "(III)V"⟩ : Cond) ∈ vT := inR_12 _ (List.mem_of_getElem? (i := 13) rfl)
theorem vt_494 : (.code ⟨"FamilyKernel$Parser", "hold", "(III)V"⟩ prog_7_method_17_code 4 none : Cond) ∈ vT := inR_12 _ (List.mem_of_getElem? (i := 14) rfl)
theorem vt_495 : (.methodLink "FamilyKernel$Parser" 204 ⟨"FamilyKernel$Row", "push", "(I)V"⟩ : Cond) ∈ vT := inR_12 _ (List.mem_of_getElem? (i := 15) rfl)
theorem vt_496 : (.fieldLink "FamilyKernel$Parser" 210 "FamilyKernel$Parser" "current" "I" : Cond) ∈ vT := inR_12 _ (List.mem_of_getElem? (i := 16) rfl)
theorem vt_497 : (.methodLink "FamilyKernel$Parser" 216 ⟨"FamilyKernel$Lexer", "word", "()I"⟩ : Cond) ∈ vT := inR_12 _ (List.mem_of_getElem? (i := 17) rfl)
theorem vt_498 : (.instanceMethod ⟨"FamilyKernel$Lexer", "word", "()I"⟩ : Cond) ∈ vT := inR_12 _ (List.mem_of_getElem? (i := 18) rfl)
theorem vt_499 : (.selects "FamilyKernel$Lexer" ⟨"FamilyKernel$Lexer", "word", "()I"⟩ ⟨"FamilyKernel$Lexer", "word", "()I"⟩ : Cond) ∈ vT := inR_12 _ (List.mem_of_getElem? (i := 19) rfl)
theorem vt_500 : (.code ⟨"FamilyKernel$Lexer", "word", "()I"⟩ prog_5_method_10_code 1 (some .int) : Cond) ∈ vT := inR_12 _ (List.mem_of_getElem? (i := 20) rfl)
theorem vt_501 : (.methodLink "FamilyKernel$Parser" 219 ⟨"FamilyKernel$Parser", "nest", "(III)V"⟩ : Cond) ∈ vT := inR_12 _ (List.mem_of_getElem? (i := 21) rfl)
theorem vt_502 : (.instanceMethod ⟨"FamilyKernel$Parser", "nest", "(III)V"⟩ : Cond) ∈ vT := inR_12 _ (List.mem_of_getElem? (i := 22) rfl)
theorem vt_503 : (.selects "FamilyKernel$Parser" ⟨"FamilyKernel$Parser", "nest", "(III)V"⟩ ⟨"FamilyKernel$Parser", "nest", "(III)V"⟩ : Cond) ∈ vT := inR_12 _ (List.mem_of_getElem? (i := 23) rfl)
theorem vt_504 : (.code ⟨"FamilyKernel$Parser", "nest", "(III)V"⟩ prog_7_method_19_code 4 none : Cond) ∈ vT := inR_12 _ (List.mem_of_getElem? (i := 24) rfl)
theorem vt_505 : (.methodLink "FamilyKernel$Parser" 221 ⟨"FamilyKernel$Parser", "resolve", "()I"⟩ : Cond) ∈ vT := inR_12 _ (List.mem_of_getElem? (i := 25) rfl)
theorem vt_506 : (.instanceMethod ⟨"FamilyKernel$Parser", "resolve", "()I"⟩ : Cond) ∈ vT := inR_12 _ (List.mem_of_getElem? (i := 26) rfl)
theorem vt_507 : (.selects "FamilyKernel$Parser" ⟨"FamilyKernel$Parser", "resolve", "()I"⟩ ⟨"FamilyKernel$Parser", "resolve", "()I"⟩ : Cond) ∈ vT := inR_12 _ (List.mem_of_getElem? (i := 27) rfl)
theorem vt_508 : (.code ⟨"FamilyKernel$Parser", "resolve", "()I"⟩ prog_7_method_28_code 3 (some .int) : Cond) ∈ vT := inR_12 _ (List.mem_of_getElem? (i := 28) rfl)
theorem vt_509 : (.methodLink "FamilyKernel$Parser" 224 ⟨"FamilyKernel$Parser", "apply", "(I)V"⟩ : Cond) ∈ vT := inR_12 _ (List.mem_of_getElem? (i := 29) rfl)
theorem vt_510 : (.instanceMethod ⟨"FamilyKernel$Parser", "apply", "(I)V"⟩ : Cond) ∈ vT := inR_12 _ (List.mem_of_getElem? (i := 30) rfl)
theorem vt_511 : (.selects "FamilyKernel$Parser" ⟨"FamilyKernel$Parser", "apply", "(I)V"⟩ ⟨"FamilyKernel$Parser", "apply", "(I)V"⟩ : Cond) ∈ vT := inR_12 _ (List.mem_of_getElem? (i := 31) rfl)
theorem vt_512 : (.code ⟨"FamilyKernel$Parser", "apply", "(I)V"⟩ prog_7_method_26_code 2 none : Cond) ∈ vT := inR_12 _ (List.mem_of_getElem? (i := 32) rfl)
theorem vt_513 : (.methodLink "FamilyKernel$Parser" 227 ⟨"FamilyKernel$Parser", "takeSort", "()I"⟩ : Cond) ∈ vT := inR_12 _ (List.mem_of_getElem? (i := 33) rfl)
theorem vt_514 : (.instanceMethod ⟨"FamilyKernel$Parser", "takeSort", "()I"⟩ : Cond) ∈ vT := inR_12 _ (List.mem_of_getElem? (i := 34) rfl)
theorem vt_515 : (.selects "FamilyKernel$Parser" ⟨"FamilyKernel$Parser", "takeSort", "()I"⟩ ⟨"FamilyKernel$Parser", "takeSort", "()I"⟩ : Cond) ∈ vT := inR_12 _ (List.mem_of_getElem? (i := 35) rfl)
theorem vt_516 : (.code ⟨"FamilyKernel$Parser", "takeSort", "()I"⟩ prog_7_method_30_code 2 (some .int) : Cond) ∈ vT := inR_12 _ (List.mem_of_getElem? (i := 36) rfl)
theorem vt_517 : (.methodLink "FamilyKernel$Parser" 73 ⟨"FamilyKernel$Terms", "make", "(III)I"⟩ : Cond) ∈ vT := inR_12 _ (List.mem_of_getElem? (i := 37) rfl)
theorem vt_518 : (.instanceMethod ⟨"FamilyKernel$Terms", "make", "(III)I"⟩ : Cond) ∈ vT := inR_12 _ (List.mem_of_getElem? (i := 38) rfl)
theorem vt_519 : (.selects "FamilyKernel$Terms" ⟨"FamilyKernel$Terms", "make", "(III)I"⟩ ⟨"FamilyKernel$Terms", "make", "(III)I"⟩ : Cond) ∈ vT := inR_12 _ (List.mem_of_getElem? (i := 39) rfl)
theorem vt_520 : (.code ⟨"FamilyKernel$Terms", "make", "(III)I"⟩ prog_11_method_13_code 10 (some .int) : Cond) ∈ vT := inR_13 _ (List.mem_of_getElem? (i := 0) rfl)
theorem vt_521 : (.methodLink "FamilyKernel$Parser" 230 ⟨"FamilyKernel$Parser", "takeRecursor", "()I"⟩ : Cond) ∈ vT := inR_13 _ (List.mem_of_getElem? (i := 1) rfl)
theorem vt_522 : (.instanceMethod ⟨"FamilyKernel$Parser", "takeRecursor", "()I"⟩ : Cond) ∈ vT := inR_13 _ (List.mem_of_getElem? (i := 2) rfl)
theorem vt_523 : (.selects "FamilyKernel$Parser" ⟨"FamilyKernel$Parser", "takeRecursor", "()I"⟩ ⟨"FamilyKernel$Parser", "takeRecursor", "()I"⟩ : Cond) ∈ vT := inR_13 _ (List.mem_of_getElem? (i := 3) rfl)
theorem vt_524 : (.code ⟨"FamilyKernel$Parser", "takeRecursor", "()I"⟩ prog_7_method_29_code 3 (some .int) : Cond) ∈ vT := inR_13 _ (List.mem_of_getElem? (i := 4) rfl)
theorem vt_525 : (.methodLink "FamilyKernel$Parser" 233 ⟨"FamilyKernel$Parser", "beWhole", "(I)V"⟩ : Cond) ∈ vT := inR_13 _ (List.mem_of_getElem? (i := 5) rfl)
theorem vt_526 : (.instanceMethod ⟨"FamilyKernel$Parser", "beWhole", "(I)V"⟩ : Cond) ∈ vT := inR_13 _ (List.mem_of_getElem? (i := 6) rfl)
theorem vt_527 : (.selects "FamilyKernel$Parser" ⟨"FamilyKernel$Parser", "beWhole", "(I)V"⟩ ⟨"FamilyKernel$Parser", "beWhole", "(I)V"⟩ : Cond) ∈ vT := inR_13 _ (List.mem_of_getElem? (i := 7) rfl)
theorem vt_528 : (.code ⟨"FamilyKernel$Parser", "beWhole", "(I)V"⟩ prog_7_method_23_code 2 none : Cond) ∈ vT := inR_13 _ (List.mem_of_getElem? (i := 8) rfl)
theorem vt_529 : (.methodLink "FamilyKernel$Parser" 240 ⟨"FamilyKernel$Parser", "boundAt", "()I"⟩ : Cond) ∈ vT := inR_13 _ (List.mem_of_getElem? (i := 9) rfl)
theorem vt_530 : (.instanceMethod ⟨"FamilyKernel$Parser", "boundAt", "()I"⟩ : Cond) ∈ vT := inR_13 _ (List.mem_of_getElem? (i := 10) rfl)
theorem vt_531 : (.selects "FamilyKernel$Parser" ⟨"FamilyKernel$Parser", "boundAt", "()I"⟩ ⟨"FamilyKernel$Parser", "boundAt", "()I"⟩ : Cond) ∈ vT := inR_13 _ (List.mem_of_getElem? (i := 11) rfl)
theorem vt_532 : (.code ⟨"FamilyKernel$Parser", "boundAt", "()I"⟩ prog_7_method_27_code 2 (some .int) : Cond) ∈ vT := inR_13 _ (List.mem_of_getElem? (i := 12) rfl)
theorem vt_533 : (.methodLink "FamilyKernel$Parser" 65 ⟨"FamilyKernel$Row", "size", "()I"⟩ : Cond) ∈ vT := inR_13 _ (List.mem_of_getElem? (i := 13) rfl)
theorem vt_534 : (.methodLink "FamilyKernel$Parser" 69 ⟨"FamilyKernel$Row", "at", "(I)I"⟩ : Cond) ∈ vT := inR_13 _ (List.mem_of_getElem? (i := 14) rfl)
theorem vt_535 : (.methodLink "FamilyKernel$Parser" 236 ⟨"FamilyKernel$Lexer", "standsAt", "(LFamilyKernel$Row;I)Z"⟩ : Cond) ∈ vT := inR_13 _ (List.mem_of_getElem? (i := 15) rfl)
theorem vt_536 : (.methodLink "FamilyKernel$Terms" 62 ⟨"FamilyKernel$Terms", "slot", "(III)I"⟩ : Cond) ∈ vT := inR_13 _ (List.mem_of_getElem? (i := 16) rfl)
theorem vt_537 : (.instanceMethod ⟨"FamilyKernel$Terms", "slot", "(III)I"⟩ : Cond) ∈ vT := inR_13 _ (List.mem_of_getElem? (i := 17) rfl)
theorem vt_538 : (.selects "FamilyKernel$Terms" ⟨"FamilyKernel$Terms", "slot", "(III)I"⟩ ⟨"FamilyKernel$Terms", "slot", "(III)I"⟩ : Cond) ∈ vT := inR_13 _ (List.mem_of_getElem? (i := 18) rfl)
theorem vt_539 : (.code ⟨"FamilyKernel$Terms", "slot", "(III)I"⟩ prog_11_method_14_code 5 (some .int) : Cond) ∈ vT := inR_13 _ (List.mem_of_getElem? (i := 19) rfl)
theorem vt_540 : (.methodLink "FamilyKernel$Terms" 52 ⟨"FamilyKernel$Terms", "kind", "(I)I"⟩ : Cond) ∈ vT := inR_13 _ (List.mem_of_getElem? (i := 20) rfl)
theorem vt_541 : (.instanceMethod ⟨"FamilyKernel$Terms", "kind", "(I)I"⟩ : Cond) ∈ vT := inR_13 _ (List.mem_of_getElem? (i := 21) rfl)
theorem vt_542 : (.selects "FamilyKernel$Terms" ⟨"FamilyKernel$Terms", "kind", "(I)I"⟩ ⟨"FamilyKernel$Terms", "kind", "(I)I"⟩ : Cond) ∈ vT := inR_13 _ (List.mem_of_getElem? (i := 22) rfl)
theorem vt_543 : (.code ⟨"FamilyKernel$Terms", "kind", "(I)I"⟩ prog_11_method_3_code 2 (some .int) : Cond) ∈ vT := inR_13 _ (List.mem_of_getElem? (i := 23) rfl)
theorem vt_544 : (.methodLink "FamilyKernel$Terms" 66 ⟨"FamilyKernel$Terms", "size", "(I)I"⟩ : Cond) ∈ vT := inR_13 _ (List.mem_of_getElem? (i := 24) rfl)
theorem vt_545 : (.instanceMethod ⟨"FamilyKernel$Terms", "size", "(I)I"⟩ : Cond) ∈ vT := inR_13 _ (List.mem_of_getElem? (i := 25) rfl)
theorem vt_546 : (.selects "FamilyKernel$Terms" ⟨"FamilyKernel$Terms", "size", "(I)I"⟩ ⟨"FamilyKernel$Terms", "size", "(I)I"⟩ : Cond) ∈ vT := inR_13 _ (List.mem_of_getElem? (i := 26) rfl)
theorem vt_547 : (.code ⟨"FamilyKernel$Terms", "size", "(I)I"⟩ prog_11_method_4_code 2 (some .int) : Cond) ∈ vT := inR_13 _ (List.mem_of_getElem? (i := 27) rfl)
theorem vt_548 : (.methodLink "FamilyKernel$Terms" 69 ⟨"FamilyKernel$Terms", "depth", "(I)I"⟩ : Cond) ∈ vT := inR_13 _ (List.mem_of_getElem? (i := 28) rfl)
theorem vt_549 : (.instanceMethod ⟨"FamilyKernel$Terms", "depth", "(I)I"⟩ : Cond) ∈ vT := inR_13 _ (List.mem_of_getElem? (i := 29) rfl)
theorem vt_550 : (.selects "FamilyKernel$Terms" ⟨"FamilyKernel$Terms", "depth", "(I)I"⟩ ⟨"FamilyKernel$Terms", "depth", "(I)I"⟩ : Cond) ∈ vT := inR_13 _ (List.mem_of_getElem? (i := 30) rfl)
theorem vt_551 : (.code ⟨"FamilyKernel$Terms", "depth", "(I)I"⟩ prog_11_method_5_code 2 (some .int) : Cond) ∈ vT := inR_13 _ (List.mem_of_getElem? (i := 31) rfl)
theorem vt_552 : (.methodLink "FamilyKernel$Terms" 72 ⟨"java/lang/Math", "max", "(II)I"⟩ : Cond) ∈ vT := inR_13 _ (List.mem_of_getElem? (i := 32) rfl)
theorem vt_553 : (.static ⟨"java/lang/Math", "max", "(II)I"⟩ : Cond) ∈ vT := inR_13 _ (List.mem_of_getElem? (i := 33) rfl)
theorem vt_554 : (.code ⟨"java/lang/Math", "max", "(II)I"⟩ prog_21_method_65_code 2 (some .int) : Cond) ∈ vT := inR_13 _ (List.mem_of_getElem? (i := 34) rfl)
theorem vt_555 : (.methodLink "FamilyKernel$Terms" 78 ⟨"FamilyKernel$Terms", "loose", "(I)I"⟩ : Cond) ∈ vT := inR_13 _ (List.mem_of_getElem? (i := 35) rfl)
theorem vt_556 : (.instanceMethod ⟨"FamilyKernel$Terms", "loose", "(I)I"⟩ : Cond) ∈ vT := inR_13 _ (List.mem_of_getElem? (i := 36) rfl)
theorem vt_557 : (.selects "FamilyKernel$Terms" ⟨"FamilyKernel$Terms", "loose", "(I)I"⟩ ⟨"FamilyKernel$Terms", "loose", "(I)I"⟩ : Cond) ∈ vT := inR_13 _ (List.mem_of_getElem? (i := 37) rfl)
theorem vt_558 : (.code ⟨"FamilyKernel$Terms", "loose", "(I)I"⟩ prog_11_method_6_code 2 (some .int) : Cond) ∈ vT := inR_13 _ (List.mem_of_getElem? (i := 38) rfl)
theorem vt_559 : (.methodLink "FamilyKernel$Terms" 81 ⟨"FamilyKernel$Terms", "binds", "(I)I"⟩ : Cond) ∈ vT := inR_13 _ (List.mem_of_getElem? (i := 39) rfl)
theorem vt_560 : (.static ⟨"FamilyKernel$Terms", "binds", "(I)I"⟩ : Cond) ∈ vT := inR_14 _ (List.mem_of_getElem? (i := 0) rfl)
theorem vt_561 : (.code ⟨"FamilyKernel$Terms", "binds", "(I)I"⟩ prog_11_method_15_code 1 (some .int) : Cond) ∈ vT := inR_14 _ (List.mem_of_getElem? (i := 1) rfl)
theorem vt_562 : (.methodLink "FamilyKernel$Terms" 84 ⟨"FamilyKernel$Terms", "free", "(I)I"⟩ : Cond) ∈ vT := inR_14 _ (List.mem_of_getElem? (i := 2) rfl)
theorem vt_563 : (.instanceMethod ⟨"FamilyKernel$Terms", "free", "(I)I"⟩ : Cond) ∈ vT := inR_14 _ (List.mem_of_getElem? (i := 3) rfl)
theorem vt_564 : (.selects "FamilyKernel$Terms" ⟨"FamilyKernel$Terms", "free", "(I)I"⟩ ⟨"FamilyKernel$Terms", "free", "(I)I"⟩ : Cond) ∈ vT := inR_14 _ (List.mem_of_getElem? (i := 4) rfl)
theorem vt_565 : (.code ⟨"FamilyKernel$Terms", "free", "(I)I"⟩ prog_11_method_7_code 2 (some .int) : Cond) ∈ vT := inR_14 _ (List.mem_of_getElem? (i := 5) rfl)
theorem vt_566 : (.constant "FamilyKernel$Terms" 87 524288 : Cond) ∈ vT := inR_14 _ (List.mem_of_getElem? (i := 6) rfl)
theorem vt_567 : (.methodLink "FamilyKernel$Terms" 88 ⟨"FamilyKernel$Meter", "fail", "(I)V"⟩ : Cond) ∈ vT := inR_14 _ (List.mem_of_getElem? (i := 7) rfl)
theorem vt_568 : (.methodLink "FamilyKernel$Terms" 94 ⟨"FamilyKernel$Terms", "grow", "()V"⟩ : Cond) ∈ vT := inR_14 _ (List.mem_of_getElem? (i := 8) rfl)
theorem vt_569 : (.instanceMethod ⟨"FamilyKernel$Terms", "grow", "()V"⟩ : Cond) ∈ vT := inR_14 _ (List.mem_of_getElem? (i := 9) rfl)
theorem vt_570 : (.selects "FamilyKernel$Terms" ⟨"FamilyKernel$Terms", "grow", "()V"⟩ ⟨"FamilyKernel$Terms", "grow", "()V"⟩ : Cond) ∈ vT := inR_14 _ (List.mem_of_getElem? (i := 10) rfl)
theorem vt_571 : (.code ⟨"FamilyKernel$Terms", "grow", "()V"⟩ prog_11_method_16_code 4 none : Cond) ∈ vT := inR_14 _ (List.mem_of_getElem? (i := 11) rfl)
theorem vt_572 : (.constant "FamilyKernel$Terms" 97 668265263 : Cond) ∈ vT := inR_14 _ (List.mem_of_getElem? (i := 12) rfl)
theorem vt_573 : (.constant "FamilyKernel$Terms" 98 (-1640531535) : Cond) ∈ vT := inR_14 _ (List.mem_of_getElem? (i := 13) rfl)
theorem vt_574 : (.constant "FamilyKernel$Terms" 99 (-2048144789) : Cond) ∈ vT := inR_14 _ (List.mem_of_getElem? (i := 14) rfl)
theorem vt_575 : (.methodLink "FamilyKernel$Terms" 100 ⟨"java/util/Arrays", "copyOf", "([JI)[J"⟩ : Cond) ∈ vT := inR_14 _ (List.mem_of_getElem? (i := 15) rfl)
theorem vt_576 : (.static ⟨"java/util/Arrays", "copyOf", "([JI)[J"⟩ : Cond) ∈ vT := inR_14 _ (List.mem_of_getElem? (i := 16) rfl)
theorem vt_577 : (.code ⟨"java/util/Arrays", "copyOf", "([JI)[J"⟩ prog_28_method_124_code 3 (some (.array .long)) : Cond) ∈ vT := inR_14 _ (List.mem_of_getElem? (i := 17) rfl)
theorem vt_578 : (.methodLink "FamilyKernel$Terms" 106 ⟨"java/util/Arrays", "copyOf", "([II)[I"⟩ : Cond) ∈ vT := inR_14 _ (List.mem_of_getElem? (i := 18) rfl)
theorem vt_579 : (.methodLink "java/util/Arrays" 319 ⟨"[J", "clone", "()Ljava/lang/Object;"⟩ : Cond) ∈ vT := inR_14 _ (List.mem_of_getElem? (i := 19) rfl)
theorem vt_580 : (.methodLink "FamilyKernel$Parser" 247 ⟨"FamilyKernel$Lexer", "value", "()I"⟩ : Cond) ∈ vT := inR_14 _ (List.mem_of_getElem? (i := 20) rfl)
theorem vt_581 : (.instanceMethod ⟨"FamilyKernel$Lexer", "value", "()I"⟩ : Cond) ∈ vT := inR_14 _ (List.mem_of_getElem? (i := 21) rfl)
theorem vt_582 : (.selects "FamilyKernel$Lexer" ⟨"FamilyKernel$Lexer", "value", "()I"⟩ ⟨"FamilyKernel$Lexer", "value", "()I"⟩ : Cond) ∈ vT := inR_14 _ (List.mem_of_getElem? (i := 22) rfl)
theorem vt_583 : (.code ⟨"FamilyKernel$Lexer", "value", "()I"⟩ prog_5_method_12_code 3 (some .int) : Cond) ∈ vT := inR_14 _ (List.mem_of_getElem? (i := 23) rfl)
theorem vt_584 : (.methodLink "FamilyKernel$Lexer" 61 ⟨"FamilyKernel$Lexer", "sign", "(I)I"⟩ : Cond) ∈ vT := inR_14 _ (List.mem_of_getElem? (i := 24) rfl)
theorem vt_585 : (.methodLink "FamilyKernel$Parser" 243 ⟨"FamilyKernel$Environment", "fact", "(II)I"⟩ : Cond) ∈ vT := inR_14 _ (List.mem_of_getElem? (i := 25) rfl)
theorem vt_586 : (.methodLink "FamilyKernel$Parser" 213 ⟨"FamilyKernel$Parser", "held", "(I)I"⟩ : Cond) ∈ vT := inR_14 _ (List.mem_of_getElem? (i := 26) rfl)
theorem vt_587 : (.instanceMethod ⟨"FamilyKernel$Parser", "held", "(I)I"⟩ : Cond) ∈ vT := inR_14 _ (List.mem_of_getElem? (i := 27) rfl)
theorem vt_588 : (.selects "FamilyKernel$Parser" ⟨"FamilyKernel$Parser", "held", "(I)I"⟩ ⟨"FamilyKernel$Parser", "held", "(I)I"⟩ : Cond) ∈ vT := inR_14 _ (List.mem_of_getElem? (i := 28) rfl)
theorem vt_589 : (.code ⟨"FamilyKernel$Parser", "held", "(I)I"⟩ prog_7_method_20_code 2 (some .int) : Cond) ∈ vT := inR_14 _ (List.mem_of_getElem? (i := 29) rfl)
theorem vt_590 : (.methodLink "FamilyKernel$Parser" 251 ⟨"FamilyKernel$Parser", "unnest", "()V"⟩ : Cond) ∈ vT := inR_14 _ (List.mem_of_getElem? (i := 30) rfl)
theorem vt_591 : (.instanceMethod ⟨"FamilyKernel$Parser", "unnest", "()V"⟩ : Cond) ∈ vT := inR_14 _ (List.mem_of_getElem? (i := 31) rfl)
theorem vt_592 : (.selects "FamilyKernel$Parser" ⟨"FamilyKernel$Parser", "unnest", "()V"⟩ ⟨"FamilyKernel$Parser", "unnest", "()V"⟩ : Cond) ∈ vT := inR_14 _ (List.mem_of_getElem? (i := 32) rfl)
theorem vt_593 : (.code ⟨"FamilyKernel$Parser", "unnest", "()V"⟩ prog_7_method_22_code 1 none : Cond) ∈ vT := inR_14 _ (List.mem_of_getElem? (i := 33) rfl)
theorem vt_594 : (.methodLink "FamilyKernel$Parser" 207 ⟨"FamilyKernel$Parser", "drop", "()V"⟩ : Cond) ∈ vT := inR_14 _ (List.mem_of_getElem? (i := 34) rfl)
theorem vt_595 : (.instanceMethod ⟨"FamilyKernel$Parser", "drop", "()V"⟩ : Cond) ∈ vT := inR_14 _ (List.mem_of_getElem? (i := 35) rfl)
theorem vt_596 : (.selects "FamilyKernel$Parser" ⟨"FamilyKernel$Parser", "drop", "()V"⟩ ⟨"FamilyKernel$Parser", "drop", "()V"⟩ : Cond) ∈ vT := inR_14 _ (List.mem_of_getElem? (i := 36) rfl)
theorem vt_597 : (.code ⟨"FamilyKernel$Parser", "drop", "()V"⟩ prog_7_method_21_code 1 none : Cond) ∈ vT := inR_14 _ (List.mem_of_getElem? (i := 37) rfl)
theorem vt_598 : (.methodLink "FamilyKernel$Parser" 263 ⟨"FamilyKernel$Row", "pop", "()I"⟩ : Cond) ∈ vT := inR_14 _ (List.mem_of_getElem? (i := 38) rfl)
theorem vt_599 : (.instanceMethod ⟨"FamilyKernel$Row", "pop", "()I"⟩ : Cond) ∈ vT := inR_14 _ (List.mem_of_getElem? (i := 39) rfl)
theorem vt_600 : (.selects "FamilyKernel$Row" ⟨"FamilyKernel$Row", "pop", "()I"⟩ ⟨"FamilyKernel$Row", "pop", "()I"⟩ : Cond) ∈ vT := inR_15 _ (List.mem_of_getElem? (i := 0) rfl)
theorem vt_601 : (.code ⟨"FamilyKernel$Row", "pop", "()I"⟩ prog_10_method_6_code 1 (some .int) : Cond) ∈ vT := inR_15 _ (List.mem_of_getElem? (i := 1) rfl)
theorem vt_602 : (.methodLink "FamilyKernel$Parser" 249 ⟨"FamilyKernel$Terms", "size", "(I)I"⟩ : Cond) ∈ vT := inR_15 _ (List.mem_of_getElem? (i := 2) rfl)
theorem vt_603 : (.methodLink "FamilyKernel$Parser" 254 ⟨"FamilyKernel$Terms", "rewrite", "(III)I"⟩ : Cond) ∈ vT := inR_15 _ (List.mem_of_getElem? (i := 3) rfl)
theorem vt_604 : (.instanceMethod ⟨"FamilyKernel$Terms", "rewrite", "(III)I"⟩ : Cond) ∈ vT := inR_15 _ (List.mem_of_getElem? (i := 4) rfl)
theorem vt_605 : (.selects "FamilyKernel$Terms" ⟨"FamilyKernel$Terms", "rewrite", "(III)I"⟩ ⟨"FamilyKernel$Terms", "rewrite", "(III)I"⟩ : Cond) ∈ vT := inR_15 _ (List.mem_of_getElem? (i := 5) rfl)
theorem vt_606 : (.code ⟨"FamilyKernel$Terms", "rewrite", "(III)I"⟩ prog_11_method_18_code 9 (some .int) : Cond) ∈ vT := inR_15 _ (List.mem_of_getElem? (i := 6) rfl)
theorem vt_607 : (.methodLink "FamilyKernel$Parser" 257 ⟨"FamilyKernel$Row", "put", "(II)V"⟩ : Cond) ∈ vT := inR_15 _ (List.mem_of_getElem? (i := 7) rfl)
theorem vt_608 : (.methodLink "FamilyKernel$Parser" 260 ⟨"FamilyKernel$Parser", "startBody", "()V"⟩ : Cond) ∈ vT := inR_15 _ (List.mem_of_getElem? (i := 8) rfl)
theorem vt_609 : (.instanceMethod ⟨"FamilyKernel$Parser", "startBody", "()V"⟩ : Cond) ∈ vT := inR_15 _ (List.mem_of_getElem? (i := 9) rfl)
theorem vt_610 : (.selects "FamilyKernel$Parser" ⟨"FamilyKernel$Parser", "startBody", "()V"⟩ ⟨"FamilyKernel$Parser", "startBody", "()V"⟩ : Cond) ∈ vT := inR_15 _ (List.mem_of_getElem? (i := 10) rfl)
theorem vt_611 : (.code ⟨"FamilyKernel$Parser", "startBody", "()V"⟩ prog_7_method_33_code 1 none : Cond) ∈ vT := inR_15 _ (List.mem_of_getElem? (i := 11) rfl)
theorem vt_612 : (.methodLink "FamilyKernel$Terms" 109 ⟨"FamilyKernel$Row", "cut", "(I)V"⟩ : Cond) ∈ vT := inR_15 _ (List.mem_of_getElem? (i := 12) rfl)
theorem vt_613 : (.methodLink "FamilyKernel$Terms" 112 ⟨"FamilyKernel$Row", "push", "(I)V"⟩ : Cond) ∈ vT := inR_15 _ (List.mem_of_getElem? (i := 13) rfl)
theorem vt_614 : (.methodLink "FamilyKernel$Terms" 115 ⟨"FamilyKernel$Row", "size", "()I"⟩ : Cond) ∈ vT := inR_15 _ (List.mem_of_getElem? (i := 14) rfl)
theorem vt_615 : (.methodLink "FamilyKernel$Terms" 118 ⟨"FamilyKernel$Row", "pop", "()I"⟩ : Cond) ∈ vT := inR_15 _ (List.mem_of_getElem? (i := 15) rfl)
theorem vt_616 : (.methodLink "FamilyKernel$Terms" 121 ⟨"FamilyKernel$Terms", "make", "(III)I"⟩ : Cond) ∈ vT := inR_15 _ (List.mem_of_getElem? (i := 16) rfl)
theorem vt_617 : (.methodLink "FamilyKernel$Terms" 124 ⟨"FamilyKernel$Terms", "isUntouched", "(IIII)Z"⟩ : Cond) ∈ vT := inR_15 _ (List.mem_of_getElem? (i := 17) rfl)
theorem vt_618 : (.instanceMethod ⟨"FamilyKernel$Terms", "isUntouched", "(IIII)Z"⟩ : Cond) ∈ vT := inR_15 _ (List.mem_of_getElem? (i := 18) rfl)
theorem vt_619 : (.selects "FamilyKernel$Terms" ⟨"FamilyKernel$Terms", "isUntouched", "(IIII)Z"⟩ ⟨"FamilyKernel$Terms", "isUntouched", "(IIII)Z"⟩ : Cond) ∈ vT := inR_15 _ (List.mem_of_getElem? (i := 19) rfl)
theorem vt_620 : (.code ⟨"FamilyKernel$Terms", "isUntouched", "(IIII)Z"⟩ prog_11_method_19_code 5 (some .boolean) : Cond) ∈ vT := inR_15 _ (List.mem_of_getElem? (i := 20) rfl)
theorem vt_621 : (.methodLink "FamilyKernel$Terms" 128 ⟨"FamilyKernel$Terms", "changedName", "(IIII)I"⟩ : Cond) ∈ vT := inR_15 _ (List.mem_of_getElem? (i := 21) rfl)
theorem vt_622 : (.instanceMethod ⟨"FamilyKernel$Terms", "changedName", "(IIII)I"⟩ : Cond) ∈ vT := inR_15 _ (List.mem_of_getElem? (i := 22) rfl)
theorem vt_623 : (.selects "FamilyKernel$Terms" ⟨"FamilyKernel$Terms", "changedName", "(IIII)I"⟩ ⟨"FamilyKernel$Terms", "changedName", "(IIII)I"⟩ : Cond) ∈ vT := inR_15 _ (List.mem_of_getElem? (i := 23) rfl)
theorem vt_624 : (.code ⟨"FamilyKernel$Terms", "changedName", "(IIII)I"⟩ prog_11_method_21_code 6 (some .int) : Cond) ∈ vT := inR_15 _ (List.mem_of_getElem? (i := 24) rfl)
theorem vt_625 : (.methodLink "FamilyKernel$Terms" 59 ⟨"FamilyKernel$Terms", "right", "(I)I"⟩ : Cond) ∈ vT := inR_15 _ (List.mem_of_getElem? (i := 25) rfl)
theorem vt_626 : (.instanceMethod ⟨"FamilyKernel$Terms", "right", "(I)I"⟩ : Cond) ∈ vT := inR_15 _ (List.mem_of_getElem? (i := 26) rfl)
theorem vt_627 : (.selects "FamilyKernel$Terms" ⟨"FamilyKernel$Terms", "right", "(I)I"⟩ ⟨"FamilyKernel$Terms", "right", "(I)I"⟩ : Cond) ∈ vT := inR_15 _ (List.mem_of_getElem? (i := 27) rfl)
theorem vt_628 : (.code ⟨"FamilyKernel$Terms", "right", "(I)I"⟩ prog_11_method_9_code 2 (some .int) : Cond) ∈ vT := inR_15 _ (List.mem_of_getElem? (i := 28) rfl)
theorem vt_629 : (.methodLink "FamilyKernel$Terms" 132 ⟨"FamilyKernel$Terms", "changedKind", "(II)I"⟩ : Cond) ∈ vT := inR_15 _ (List.mem_of_getElem? (i := 29) rfl)
theorem vt_630 : (.static ⟨"FamilyKernel$Terms", "changedKind", "(II)I"⟩ : Cond) ∈ vT := inR_15 _ (List.mem_of_getElem? (i := 30) rfl)
theorem vt_631 : (.code ⟨"FamilyKernel$Terms", "changedKind", "(II)I"⟩ prog_11_method_20_code 2 (some .int) : Cond) ∈ vT := inR_15 _ (List.mem_of_getElem? (i := 31) rfl)
theorem vt_632 : (.methodLink "FamilyKernel$Terms" 56 ⟨"FamilyKernel$Terms", "left", "(I)I"⟩ : Cond) ∈ vT := inR_15 _ (List.mem_of_getElem? (i := 32) rfl)
theorem vt_633 : (.instanceMethod ⟨"FamilyKernel$Terms", "left", "(I)I"⟩ : Cond) ∈ vT := inR_15 _ (List.mem_of_getElem? (i := 33) rfl)
theorem vt_634 : (.selects "FamilyKernel$Terms" ⟨"FamilyKernel$Terms", "left", "(I)I"⟩ ⟨"FamilyKernel$Terms", "left", "(I)I"⟩ : Cond) ∈ vT := inR_15 _ (List.mem_of_getElem? (i := 34) rfl)
theorem vt_635 : (.code ⟨"FamilyKernel$Terms", "left", "(I)I"⟩ prog_11_method_8_code 2 (some .int) : Cond) ∈ vT := inR_15 _ (List.mem_of_getElem? (i := 35) rfl)
theorem vt_636 : (.methodLink "FamilyKernel$Terms" 135 ⟨"FamilyKernel$Meter", "charge", "(I)V"⟩ : Cond) ∈ vT := inR_15 _ (List.mem_of_getElem? (i := 36) rfl)
theorem vt_637 : (.instanceMethod ⟨"FamilyKernel$Meter", "charge", "(I)V"⟩ : Cond) ∈ vT := inR_15 _ (List.mem_of_getElem? (i := 37) rfl)
theorem vt_638 : (.selects "FamilyKernel$Meter" ⟨"FamilyKernel$Meter", "charge", "(I)V"⟩ ⟨"FamilyKernel$Meter", "charge", "(I)V"⟩ : Cond) ∈ vT := inR_15 _ (List.mem_of_getElem? (i := 38) rfl)
theorem vt_639 : (.code ⟨"FamilyKernel$Meter", "charge", "(I)V"⟩ prog_6_method_7_code 2 none : Cond) ∈ vT := inR_15 _ (List.mem_of_getElem? (i := 39) rfl)
theorem vt_640 : (.constant "FamilyKernel$Meter" 24 60000 : Cond) ∈ vT := inR_16 _ (List.mem_of_getElem? (i := 0) rfl)
theorem vt_641 : (.methodLink "FamilyKernel$Meter" 25 ⟨"FamilyKernel$Meter", "fail", "(I)V"⟩ : Cond) ∈ vT := inR_16 _ (List.mem_of_getElem? (i := 1) rfl)
theorem vt_642 : (.methodLink "FamilyKernel$Parser" 266 ⟨"FamilyKernel$Parser", "overParameters", "(I)I"⟩ : Cond) ∈ vT := inR_16 _ (List.mem_of_getElem? (i := 2) rfl)
theorem vt_643 : (.instanceMethod ⟨"FamilyKernel$Parser", "overParameters", "(I)I"⟩ : Cond) ∈ vT := inR_16 _ (List.mem_of_getElem? (i := 3) rfl)
theorem vt_644 : (.selects "FamilyKernel$Parser" ⟨"FamilyKernel$Parser", "overParameters", "(I)I"⟩ ⟨"FamilyKernel$Parser", "overParameters", "(I)I"⟩ : Cond) ∈ vT := inR_16 _ (List.mem_of_getElem? (i := 4) rfl)
theorem vt_645 : (.code ⟨"FamilyKernel$Parser", "overParameters", "(I)I"⟩ prog_7_method_9_code 4 (some .int) : Cond) ∈ vT := inR_16 _ (List.mem_of_getElem? (i := 5) rfl)
theorem vt_646 : (.methodLink "FamilyKernel$Parser" 269 ⟨"FamilyKernel$Environment", "fix", "(III)V"⟩ : Cond) ∈ vT := inR_16 _ (List.mem_of_getElem? (i := 6) rfl)
theorem vt_647 : (.methodLink "FamilyKernel" 170 ⟨"FamilyKernel$Parser", "type", "()I"⟩ : Cond) ∈ vT := inR_16 _ (List.mem_of_getElem? (i := 7) rfl)
theorem vt_648 : (.instanceMethod ⟨"FamilyKernel$Parser", "type", "()I"⟩ : Cond) ∈ vT := inR_16 _ (List.mem_of_getElem? (i := 8) rfl)
theorem vt_649 : (.selects "FamilyKernel$Parser" ⟨"FamilyKernel$Parser", "type", "()I"⟩ ⟨"FamilyKernel$Parser", "type", "()I"⟩ : Cond) ∈ vT := inR_16 _ (List.mem_of_getElem? (i := 9) rfl)
theorem vt_650 : (.code ⟨"FamilyKernel$Parser", "type", "()I"⟩ prog_7_method_4_code 1 (some .int) : Cond) ∈ vT := inR_16 _ (List.mem_of_getElem? (i := 10) rfl)
theorem vt_651 : (.methodLink "FamilyKernel" 173 ⟨"FamilyKernel$Parser", "value", "()I"⟩ : Cond) ∈ vT := inR_16 _ (List.mem_of_getElem? (i := 11) rfl)
theorem vt_652 : (.instanceMethod ⟨"FamilyKernel$Parser", "value", "()I"⟩ : Cond) ∈ vT := inR_16 _ (List.mem_of_getElem? (i := 12) rfl)
theorem vt_653 : (.selects "FamilyKernel$Parser" ⟨"FamilyKernel$Parser", "value", "()I"⟩ ⟨"FamilyKernel$Parser", "value", "()I"⟩ : Cond) ∈ vT := inR_16 _ (List.mem_of_getElem? (i := 13) rfl)
theorem vt_654 : (.code ⟨"FamilyKernel$Parser", "value", "()I"⟩ prog_7_method_5_code 1 (some .int) : Cond) ∈ vT := inR_16 _ (List.mem_of_getElem? (i := 14) rfl)
theorem vt_655 : (.methodLink "FamilyKernel" 176 ⟨"FamilyKernel$Frames", "begin", "(III)V"⟩ : Cond) ∈ vT := inR_16 _ (List.mem_of_getElem? (i := 15) rfl)
theorem vt_656 : (.instanceMethod ⟨"FamilyKernel$Frames", "begin", "(III)V"⟩ : Cond) ∈ vT := inR_16 _ (List.mem_of_getElem? (i := 16) rfl)
theorem vt_657 : (.selects "FamilyKernel$Frames" ⟨"FamilyKernel$Frames", "begin", "(III)V"⟩ ⟨"FamilyKernel$Frames", "begin", "(III)V"⟩ : Cond) ∈ vT := inR_16 _ (List.mem_of_getElem? (i := 17) rfl)
theorem vt_658 : (.code ⟨"FamilyKernel$Frames", "begin", "(III)V"⟩ prog_4_method_2_code 4 none : Cond) ∈ vT := inR_16 _ (List.mem_of_getElem? (i := 18) rfl)
theorem vt_659 : (.constant "FamilyKernel" 179 16777216 : Cond) ∈ vT := inR_16 _ (List.mem_of_getElem? (i := 19) rfl)
theorem vt_660 : (.methodLink "FamilyKernel" 180 ⟨"FamilyKernel$Frames", "isEmpty", "()Z"⟩ : Cond) ∈ vT := inR_16 _ (List.mem_of_getElem? (i := 20) rfl)
theorem vt_661 : (.instanceMethod ⟨"FamilyKernel$Frames", "isEmpty", "()Z"⟩ : Cond) ∈ vT := inR_16 _ (List.mem_of_getElem? (i := 21) rfl)
theorem vt_662 : (.selects "FamilyKernel$Frames" ⟨"FamilyKernel$Frames", "isEmpty", "()Z"⟩ ⟨"FamilyKernel$Frames", "isEmpty", "()Z"⟩ : Cond) ∈ vT := inR_16 _ (List.mem_of_getElem? (i := 22) rfl)
theorem vt_663 : (.code ⟨"FamilyKernel$Frames", "isEmpty", "()Z"⟩ prog_4_method_3_code 1 (some .boolean) : Cond) ∈ vT := inR_16 _ (List.mem_of_getElem? (i := 23) rfl)
theorem vt_664 : (.methodLink "FamilyKernel" 184 ⟨"FamilyKernel$Frames", "top", "(I)I"⟩ : Cond) ∈ vT := inR_16 _ (List.mem_of_getElem? (i := 24) rfl)
theorem vt_665 : (.instanceMethod ⟨"FamilyKernel$Frames", "top", "(I)I"⟩ : Cond) ∈ vT := inR_16 _ (List.mem_of_getElem? (i := 25) rfl)
theorem vt_666 : (.selects "FamilyKernel$Frames" ⟨"FamilyKernel$Frames", "top", "(I)I"⟩ ⟨"FamilyKernel$Frames", "top", "(I)I"⟩ : Cond) ∈ vT := inR_16 _ (List.mem_of_getElem? (i := 26) rfl)
theorem vt_667 : (.code ⟨"FamilyKernel$Frames", "top", "(I)I"⟩ prog_4_method_6_code 2 (some .int) : Cond) ∈ vT := inR_16 _ (List.mem_of_getElem? (i := 27) rfl)
theorem vt_668 : (.methodLink "FamilyKernel" 188 ⟨"FamilyKernel$Reducer", "whnf", "()V"⟩ : Cond) ∈ vT := inR_16 _ (List.mem_of_getElem? (i := 28) rfl)
theorem vt_669 : (.instanceMethod ⟨"FamilyKernel$Reducer", "whnf", "()V"⟩ : Cond) ∈ vT := inR_16 _ (List.mem_of_getElem? (i := 29) rfl)
theorem vt_670 : (.selects "FamilyKernel$Reducer" ⟨"FamilyKernel$Reducer", "whnf", "()V"⟩ ⟨"FamilyKernel$Reducer", "whnf", "()V"⟩ : Cond) ∈ vT := inR_16 _ (List.mem_of_getElem? (i := 30) rfl)
theorem vt_671 : (.code ⟨"FamilyKernel$Reducer", "whnf", "()V"⟩ prog_9_method_2_code 6 none : Cond) ∈ vT := inR_16 _ (List.mem_of_getElem? (i := 31) rfl)
theorem vt_672 : (.methodLink "FamilyKernel" 191 ⟨"FamilyKernel$Reducer", "whnfMajor", "()V"⟩ : Cond) ∈ vT := inR_16 _ (List.mem_of_getElem? (i := 32) rfl)
theorem vt_673 : (.instanceMethod ⟨"FamilyKernel$Reducer", "whnfMajor", "()V"⟩ : Cond) ∈ vT := inR_16 _ (List.mem_of_getElem? (i := 33) rfl)
theorem vt_674 : (.selects "FamilyKernel$Reducer" ⟨"FamilyKernel$Reducer", "whnfMajor", "()V"⟩ ⟨"FamilyKernel$Reducer", "whnfMajor", "()V"⟩ : Cond) ∈ vT := inR_16 _ (List.mem_of_getElem? (i := 34) rfl)
theorem vt_675 : (.code ⟨"FamilyKernel$Reducer", "whnfMajor", "()V"⟩ prog_9_method_8_code 12 none : Cond) ∈ vT := inR_16 _ (List.mem_of_getElem? (i := 35) rfl)
theorem vt_676 : (.methodLink "FamilyKernel" 194 ⟨"FamilyKernel$Reducer", "conv", "()V"⟩ : Cond) ∈ vT := inR_16 _ (List.mem_of_getElem? (i := 36) rfl)
theorem vt_677 : (.instanceMethod ⟨"FamilyKernel$Reducer", "conv", "()V"⟩ : Cond) ∈ vT := inR_16 _ (List.mem_of_getElem? (i := 37) rfl)
theorem vt_678 : (.selects "FamilyKernel$Reducer" ⟨"FamilyKernel$Reducer", "conv", "()V"⟩ ⟨"FamilyKernel$Reducer", "conv", "()V"⟩ : Cond) ∈ vT := inR_16 _ (List.mem_of_getElem? (i := 38) rfl)
theorem vt_679 : (.code ⟨"FamilyKernel$Reducer", "conv", "()V"⟩ prog_9_method_9_code 1 none : Cond) ∈ vT := inR_16 _ (List.mem_of_getElem? (i := 39) rfl)
theorem vt_680 : (.methodLink "FamilyKernel" 197 ⟨"FamilyKernel$Reducer", "convLeft", "()V"⟩ : Cond) ∈ vT := inR_17 _ (List.mem_of_getElem? (i := 0) rfl)
theorem vt_681 : (.instanceMethod ⟨"FamilyKernel$Reducer", "convLeft", "()V"⟩ : Cond) ∈ vT := inR_17 _ (List.mem_of_getElem? (i := 1) rfl)
theorem vt_682 : (.selects "FamilyKernel$Reducer" ⟨"FamilyKernel$Reducer", "convLeft", "()V"⟩ ⟨"FamilyKernel$Reducer", "convLeft", "()V"⟩ : Cond) ∈ vT := inR_17 _ (List.mem_of_getElem? (i := 2) rfl)
theorem vt_683 : (.code ⟨"FamilyKernel$Reducer", "convLeft", "()V"⟩ prog_9_method_10_code 1 none : Cond) ∈ vT := inR_17 _ (List.mem_of_getElem? (i := 3) rfl)
theorem vt_684 : (.methodLink "FamilyKernel" 200 ⟨"FamilyKernel$Reducer", "convRight", "()V"⟩ : Cond) ∈ vT := inR_17 _ (List.mem_of_getElem? (i := 4) rfl)
theorem vt_685 : (.instanceMethod ⟨"FamilyKernel$Reducer", "convRight", "()V"⟩ : Cond) ∈ vT := inR_17 _ (List.mem_of_getElem? (i := 5) rfl)
theorem vt_686 : (.selects "FamilyKernel$Reducer" ⟨"FamilyKernel$Reducer", "convRight", "()V"⟩ ⟨"FamilyKernel$Reducer", "convRight", "()V"⟩ : Cond) ∈ vT := inR_17 _ (List.mem_of_getElem? (i := 6) rfl)
theorem vt_687 : (.code ⟨"FamilyKernel$Reducer", "convRight", "()V"⟩ prog_9_method_11_code 7 none : Cond) ∈ vT := inR_17 _ (List.mem_of_getElem? (i := 7) rfl)
theorem vt_688 : (.methodLink "FamilyKernel" 203 ⟨"FamilyKernel$Reducer", "convBodies", "()V"⟩ : Cond) ∈ vT := inR_17 _ (List.mem_of_getElem? (i := 8) rfl)
theorem vt_689 : (.instanceMethod ⟨"FamilyKernel$Reducer", "convBodies", "()V"⟩ : Cond) ∈ vT := inR_17 _ (List.mem_of_getElem? (i := 9) rfl)
theorem vt_690 : (.selects "FamilyKernel$Reducer" ⟨"FamilyKernel$Reducer", "convBodies", "()V"⟩ ⟨"FamilyKernel$Reducer", "convBodies", "()V"⟩ : Cond) ∈ vT := inR_17 _ (List.mem_of_getElem? (i := 10) rfl)
theorem vt_691 : (.code ⟨"FamilyKernel$Reducer", "convBodies", "()V"⟩ prog_9_method_14_code 6 none : Cond) ∈ vT := inR_17 _ (List.mem_of_getElem? (i := 11) rfl)
theorem vt_692 : (.methodLink "FamilyKernel" 206 ⟨"FamilyKernel$Reducer", "convLeave", "()V"⟩ : Cond) ∈ vT := inR_17 _ (List.mem_of_getElem? (i := 12) rfl)
theorem vt_693 : (.instanceMethod ⟨"FamilyKernel$Reducer", "convLeave", "()V"⟩ : Cond) ∈ vT := inR_17 _ (List.mem_of_getElem? (i := 13) rfl)
theorem vt_694 : (.selects "FamilyKernel$Reducer" ⟨"FamilyKernel$Reducer", "convLeave", "()V"⟩ ⟨"FamilyKernel$Reducer", "convLeave", "()V"⟩ : Cond) ∈ vT := inR_17 _ (List.mem_of_getElem? (i := 14) rfl)
theorem vt_695 : (.code ⟨"FamilyKernel$Reducer", "convLeave", "()V"⟩ prog_9_method_15_code 1 none : Cond) ∈ vT := inR_17 _ (List.mem_of_getElem? (i := 15) rfl)
theorem vt_696 : (.methodLink "FamilyKernel" 209 ⟨"FamilyKernel$Reducer", "convArguments", "()V"⟩ : Cond) ∈ vT := inR_17 _ (List.mem_of_getElem? (i := 16) rfl)
theorem vt_697 : (.instanceMethod ⟨"FamilyKernel$Reducer", "convArguments", "()V"⟩ : Cond) ∈ vT := inR_17 _ (List.mem_of_getElem? (i := 17) rfl)
theorem vt_698 : (.selects "FamilyKernel$Reducer" ⟨"FamilyKernel$Reducer", "convArguments", "()V"⟩ ⟨"FamilyKernel$Reducer", "convArguments", "()V"⟩ : Cond) ∈ vT := inR_17 _ (List.mem_of_getElem? (i := 18) rfl)
theorem vt_699 : (.code ⟨"FamilyKernel$Reducer", "convArguments", "()V"⟩ prog_9_method_16_code 2 none : Cond) ∈ vT := inR_17 _ (List.mem_of_getElem? (i := 19) rfl)
theorem vt_700 : (.methodLink "FamilyKernel" 212 ⟨"FamilyKernel$Reducer", "normal", "()V"⟩ : Cond) ∈ vT := inR_17 _ (List.mem_of_getElem? (i := 20) rfl)
theorem vt_701 : (.instanceMethod ⟨"FamilyKernel$Reducer", "normal", "()V"⟩ : Cond) ∈ vT := inR_17 _ (List.mem_of_getElem? (i := 21) rfl)
theorem vt_702 : (.selects "FamilyKernel$Reducer" ⟨"FamilyKernel$Reducer", "normal", "()V"⟩ ⟨"FamilyKernel$Reducer", "normal", "()V"⟩ : Cond) ∈ vT := inR_17 _ (List.mem_of_getElem? (i := 22) rfl)
theorem vt_703 : (.code ⟨"FamilyKernel$Reducer", "normal", "()V"⟩ prog_9_method_17_code 1 none : Cond) ∈ vT := inR_17 _ (List.mem_of_getElem? (i := 23) rfl)
theorem vt_704 : (.methodLink "FamilyKernel" 215 ⟨"FamilyKernel$Reducer", "normalSplit", "()V"⟩ : Cond) ∈ vT := inR_17 _ (List.mem_of_getElem? (i := 24) rfl)
theorem vt_705 : (.instanceMethod ⟨"FamilyKernel$Reducer", "normalSplit", "()V"⟩ : Cond) ∈ vT := inR_17 _ (List.mem_of_getElem? (i := 25) rfl)
theorem vt_706 : (.selects "FamilyKernel$Reducer" ⟨"FamilyKernel$Reducer", "normalSplit", "()V"⟩ ⟨"FamilyKernel$Reducer", "normalSplit", "()V"⟩ : Cond) ∈ vT := inR_17 _ (List.mem_of_getElem? (i := 26) rfl)
theorem vt_707 : (.code ⟨"FamilyKernel$Reducer", "normalSplit", "()V"⟩ prog_9_method_18_code 3 none : Cond) ∈ vT := inR_17 _ (List.mem_of_getElem? (i := 27) rfl)
theorem vt_708 : (.methodLink "FamilyKernel" 218 ⟨"FamilyKernel$Reducer", "normalBody", "()V"⟩ : Cond) ∈ vT := inR_17 _ (List.mem_of_getElem? (i := 28) rfl)
theorem vt_709 : (.instanceMethod ⟨"FamilyKernel$Reducer", "normalBody", "()V"⟩ : Cond) ∈ vT := inR_17 _ (List.mem_of_getElem? (i := 29) rfl)
theorem vt_710 : (.selects "FamilyKernel$Reducer" ⟨"FamilyKernel$Reducer", "normalBody", "()V"⟩ ⟨"FamilyKernel$Reducer", "normalBody", "()V"⟩ : Cond) ∈ vT := inR_17 _ (List.mem_of_getElem? (i := 30) rfl)
theorem vt_711 : (.code ⟨"FamilyKernel$Reducer", "normalBody", "()V"⟩ prog_9_method_20_code 2 none : Cond) ∈ vT := inR_17 _ (List.mem_of_getElem? (i := 31) rfl)
theorem vt_712 : (.methodLink "FamilyKernel" 221 ⟨"FamilyKernel$Reducer", "normalClose", "()V"⟩ : Cond) ∈ vT := inR_17 _ (List.mem_of_getElem? (i := 32) rfl)
theorem vt_713 : (.instanceMethod ⟨"FamilyKernel$Reducer", "normalClose", "()V"⟩ : Cond) ∈ vT := inR_17 _ (List.mem_of_getElem? (i := 33) rfl)
theorem vt_714 : (.selects "FamilyKernel$Reducer" ⟨"FamilyKernel$Reducer", "normalClose", "()V"⟩ ⟨"FamilyKernel$Reducer", "normalClose", "()V"⟩ : Cond) ∈ vT := inR_17 _ (List.mem_of_getElem? (i := 34) rfl)
theorem vt_715 : (.code ⟨"FamilyKernel$Reducer", "normalClose", "()V"⟩ prog_9_method_21_code 3 none : Cond) ∈ vT := inR_17 _ (List.mem_of_getElem? (i := 35) rfl)
theorem vt_716 : (.methodLink "FamilyKernel" 224 ⟨"FamilyKernel$Reducer", "normalArgument", "()V"⟩ : Cond) ∈ vT := inR_17 _ (List.mem_of_getElem? (i := 36) rfl)
theorem vt_717 : (.instanceMethod ⟨"FamilyKernel$Reducer", "normalArgument", "()V"⟩ : Cond) ∈ vT := inR_17 _ (List.mem_of_getElem? (i := 37) rfl)
theorem vt_718 : (.selects "FamilyKernel$Reducer" ⟨"FamilyKernel$Reducer", "normalArgument", "()V"⟩ ⟨"FamilyKernel$Reducer", "normalArgument", "()V"⟩ : Cond) ∈ vT := inR_17 _ (List.mem_of_getElem? (i := 38) rfl)
theorem vt_719 : (.code ⟨"FamilyKernel$Reducer", "normalArgument", "()V"⟩ prog_9_method_22_code 2 none : Cond) ∈ vT := inR_17 _ (List.mem_of_getElem? (i := 39) rfl)
theorem vt_720 : (.methodLink "FamilyKernel" 227 ⟨"FamilyKernel$Reducer", "normalApply", "()V"⟩ : Cond) ∈ vT := inR_18 _ (List.mem_of_getElem? (i := 0) rfl)
theorem vt_721 : (.instanceMethod ⟨"FamilyKernel$Reducer", "normalApply", "()V"⟩ : Cond) ∈ vT := inR_18 _ (List.mem_of_getElem? (i := 1) rfl)
theorem vt_722 : (.selects "FamilyKernel$Reducer" ⟨"FamilyKernel$Reducer", "normalApply", "()V"⟩ ⟨"FamilyKernel$Reducer", "normalApply", "()V"⟩ : Cond) ∈ vT := inR_18 _ (List.mem_of_getElem? (i := 2) rfl)
theorem vt_723 : (.code ⟨"FamilyKernel$Reducer", "normalApply", "()V"⟩ prog_9_method_23_code 2 none : Cond) ∈ vT := inR_18 _ (List.mem_of_getElem? (i := 3) rfl)
theorem vt_724 : (.methodLink "FamilyKernel" 230 ⟨"FamilyKernel$Typer", "infer", "()V"⟩ : Cond) ∈ vT := inR_18 _ (List.mem_of_getElem? (i := 4) rfl)
theorem vt_725 : (.instanceMethod ⟨"FamilyKernel$Typer", "infer", "()V"⟩ : Cond) ∈ vT := inR_18 _ (List.mem_of_getElem? (i := 5) rfl)
theorem vt_726 : (.selects "FamilyKernel$Typer" ⟨"FamilyKernel$Typer", "infer", "()V"⟩ ⟨"FamilyKernel$Typer", "infer", "()V"⟩ : Cond) ∈ vT := inR_18 _ (List.mem_of_getElem? (i := 6) rfl)
theorem vt_727 : (.code ⟨"FamilyKernel$Typer", "infer", "()V"⟩ prog_12_method_2_code 2 none : Cond) ∈ vT := inR_18 _ (List.mem_of_getElem? (i := 7) rfl)
theorem vt_728 : (.methodLink "FamilyKernel" 233 ⟨"FamilyKernel$Typer", "piBody", "()V"⟩ : Cond) ∈ vT := inR_18 _ (List.mem_of_getElem? (i := 8) rfl)
theorem vt_729 : (.instanceMethod ⟨"FamilyKernel$Typer", "piBody", "()V"⟩ : Cond) ∈ vT := inR_18 _ (List.mem_of_getElem? (i := 9) rfl)
theorem vt_730 : (.selects "FamilyKernel$Typer" ⟨"FamilyKernel$Typer", "piBody", "()V"⟩ ⟨"FamilyKernel$Typer", "piBody", "()V"⟩ : Cond) ∈ vT := inR_18 _ (List.mem_of_getElem? (i := 10) rfl)
theorem vt_731 : (.code ⟨"FamilyKernel$Typer", "piBody", "()V"⟩ prog_12_method_12_code 1 none : Cond) ∈ vT := inR_18 _ (List.mem_of_getElem? (i := 11) rfl)
theorem vt_732 : (.methodLink "FamilyKernel" 236 ⟨"FamilyKernel$Typer", "piEnd", "()V"⟩ : Cond) ∈ vT := inR_18 _ (List.mem_of_getElem? (i := 12) rfl)
theorem vt_733 : (.instanceMethod ⟨"FamilyKernel$Typer", "piEnd", "()V"⟩ : Cond) ∈ vT := inR_18 _ (List.mem_of_getElem? (i := 13) rfl)
theorem vt_734 : (.selects "FamilyKernel$Typer" ⟨"FamilyKernel$Typer", "piEnd", "()V"⟩ ⟨"FamilyKernel$Typer", "piEnd", "()V"⟩ : Cond) ∈ vT := inR_18 _ (List.mem_of_getElem? (i := 14) rfl)
theorem vt_735 : (.code ⟨"FamilyKernel$Typer", "piEnd", "()V"⟩ prog_12_method_13_code 2 none : Cond) ∈ vT := inR_18 _ (List.mem_of_getElem? (i := 15) rfl)
theorem vt_736 : (.methodLink "FamilyKernel" 239 ⟨"FamilyKernel$Typer", "lamBody", "()V"⟩ : Cond) ∈ vT := inR_18 _ (List.mem_of_getElem? (i := 16) rfl)
theorem vt_737 : (.instanceMethod ⟨"FamilyKernel$Typer", "lamBody", "()V"⟩ : Cond) ∈ vT := inR_18 _ (List.mem_of_getElem? (i := 17) rfl)
theorem vt_738 : (.selects "FamilyKernel$Typer" ⟨"FamilyKernel$Typer", "lamBody", "()V"⟩ ⟨"FamilyKernel$Typer", "lamBody", "()V"⟩ : Cond) ∈ vT := inR_18 _ (List.mem_of_getElem? (i := 18) rfl)
theorem vt_739 : (.code ⟨"FamilyKernel$Typer", "lamBody", "()V"⟩ prog_12_method_14_code 1 none : Cond) ∈ vT := inR_18 _ (List.mem_of_getElem? (i := 19) rfl)
theorem vt_740 : (.methodLink "FamilyKernel" 242 ⟨"FamilyKernel$Typer", "lamEnd", "()V"⟩ : Cond) ∈ vT := inR_18 _ (List.mem_of_getElem? (i := 20) rfl)
theorem vt_741 : (.instanceMethod ⟨"FamilyKernel$Typer", "lamEnd", "()V"⟩ : Cond) ∈ vT := inR_18 _ (List.mem_of_getElem? (i := 21) rfl)
theorem vt_742 : (.selects "FamilyKernel$Typer" ⟨"FamilyKernel$Typer", "lamEnd", "()V"⟩ ⟨"FamilyKernel$Typer", "lamEnd", "()V"⟩ : Cond) ∈ vT := inR_18 _ (List.mem_of_getElem? (i := 22) rfl)
theorem vt_743 : (.code ⟨"FamilyKernel$Typer", "lamEnd", "()V"⟩ prog_12_method_15_code 2 none : Cond) ∈ vT := inR_18 _ (List.mem_of_getElem? (i := 23) rfl)
theorem vt_744 : (.methodLink "FamilyKernel" 245 ⟨"FamilyKernel$Typer", "letValue", "()V"⟩ : Cond) ∈ vT := inR_18 _ (List.mem_of_getElem? (i := 24) rfl)
theorem vt_745 : (.instanceMethod ⟨"FamilyKernel$Typer", "letValue", "()V"⟩ : Cond) ∈ vT := inR_18 _ (List.mem_of_getElem? (i := 25) rfl)
theorem vt_746 : (.selects "FamilyKernel$Typer" ⟨"FamilyKernel$Typer", "letValue", "()V"⟩ ⟨"FamilyKernel$Typer", "letValue", "()V"⟩ : Cond) ∈ vT := inR_18 _ (List.mem_of_getElem? (i := 26) rfl)
theorem vt_747 : (.code ⟨"FamilyKernel$Typer", "letValue", "()V"⟩ prog_12_method_16_code 2 none : Cond) ∈ vT := inR_18 _ (List.mem_of_getElem? (i := 27) rfl)
theorem vt_748 : (.methodLink "FamilyKernel" 248 ⟨"FamilyKernel$Typer", "letBody", "()V"⟩ : Cond) ∈ vT := inR_18 _ (List.mem_of_getElem? (i := 28) rfl)
theorem vt_749 : (.instanceMethod ⟨"FamilyKernel$Typer", "letBody", "()V"⟩ : Cond) ∈ vT := inR_18 _ (List.mem_of_getElem? (i := 29) rfl)
theorem vt_750 : (.selects "FamilyKernel$Typer" ⟨"FamilyKernel$Typer", "letBody", "()V"⟩ ⟨"FamilyKernel$Typer", "letBody", "()V"⟩ : Cond) ∈ vT := inR_18 _ (List.mem_of_getElem? (i := 30) rfl)
theorem vt_751 : (.code ⟨"FamilyKernel$Typer", "letBody", "()V"⟩ prog_12_method_17_code 2 none : Cond) ∈ vT := inR_18 _ (List.mem_of_getElem? (i := 31) rfl)
theorem vt_752 : (.methodLink "FamilyKernel" 251 ⟨"FamilyKernel$Typer", "appType", "()V"⟩ : Cond) ∈ vT := inR_18 _ (List.mem_of_getElem? (i := 32) rfl)
theorem vt_753 : (.instanceMethod ⟨"FamilyKernel$Typer", "appType", "()V"⟩ : Cond) ∈ vT := inR_18 _ (List.mem_of_getElem? (i := 33) rfl)
theorem vt_754 : (.selects "FamilyKernel$Typer" ⟨"FamilyKernel$Typer", "appType", "()V"⟩ ⟨"FamilyKernel$Typer", "appType", "()V"⟩ : Cond) ∈ vT := inR_18 _ (List.mem_of_getElem? (i := 34) rfl)
theorem vt_755 : (.code ⟨"FamilyKernel$Typer", "appType", "()V"⟩ prog_12_method_18_code 1 none : Cond) ∈ vT := inR_18 _ (List.mem_of_getElem? (i := 35) rfl)
theorem vt_756 : (.methodLink "FamilyKernel" 254 ⟨"FamilyKernel$Typer", "appArgument", "()V"⟩ : Cond) ∈ vT := inR_18 _ (List.mem_of_getElem? (i := 36) rfl)
theorem vt_757 : (.instanceMethod ⟨"FamilyKernel$Typer", "appArgument", "()V"⟩ : Cond) ∈ vT := inR_18 _ (List.mem_of_getElem? (i := 37) rfl)
theorem vt_758 : (.selects "FamilyKernel$Typer" ⟨"FamilyKernel$Typer", "appArgument", "()V"⟩ ⟨"FamilyKernel$Typer", "appArgument", "()V"⟩ : Cond) ∈ vT := inR_18 _ (List.mem_of_getElem? (i := 38) rfl)
theorem vt_759 : (.code ⟨"FamilyKernel$Typer", "appArgument", "()V"⟩ prog_12_method_20_code 2 none : Cond) ∈ vT := inR_18 _ (List.mem_of_getElem? (i := 39) rfl)
theorem vt_760 : (.methodLink "FamilyKernel" 257 ⟨"FamilyKernel$Typer", "appOpen", "()V"⟩ : Cond) ∈ vT := inR_19 _ (List.mem_of_getElem? (i := 0) rfl)
theorem vt_761 : (.instanceMethod ⟨"FamilyKernel$Typer", "appOpen", "()V"⟩ : Cond) ∈ vT := inR_19 _ (List.mem_of_getElem? (i := 1) rfl)
theorem vt_762 : (.selects "FamilyKernel$Typer" ⟨"FamilyKernel$Typer", "appOpen", "()V"⟩ ⟨"FamilyKernel$Typer", "appOpen", "()V"⟩ : Cond) ∈ vT := inR_19 _ (List.mem_of_getElem? (i := 2) rfl)
theorem vt_763 : (.code ⟨"FamilyKernel$Typer", "appOpen", "()V"⟩ prog_12_method_22_code 4 none : Cond) ∈ vT := inR_19 _ (List.mem_of_getElem? (i := 3) rfl)
theorem vt_764 : (.methodLink "FamilyKernel" 260 ⟨"FamilyKernel$Typer", "sortType", "()V"⟩ : Cond) ∈ vT := inR_19 _ (List.mem_of_getElem? (i := 4) rfl)
theorem vt_765 : (.instanceMethod ⟨"FamilyKernel$Typer", "sortType", "()V"⟩ : Cond) ∈ vT := inR_19 _ (List.mem_of_getElem? (i := 5) rfl)
theorem vt_766 : (.selects "FamilyKernel$Typer" ⟨"FamilyKernel$Typer", "sortType", "()V"⟩ ⟨"FamilyKernel$Typer", "sortType", "()V"⟩ : Cond) ∈ vT := inR_19 _ (List.mem_of_getElem? (i := 6) rfl)
theorem vt_767 : (.code ⟨"FamilyKernel$Typer", "sortType", "()V"⟩ prog_12_method_8_code 1 none : Cond) ∈ vT := inR_19 _ (List.mem_of_getElem? (i := 7) rfl)
theorem vt_768 : (.methodLink "FamilyKernel" 263 ⟨"FamilyKernel$Typer", "sortEnd", "()V"⟩ : Cond) ∈ vT := inR_19 _ (List.mem_of_getElem? (i := 8) rfl)
theorem vt_769 : (.instanceMethod ⟨"FamilyKernel$Typer", "sortEnd", "()V"⟩ : Cond) ∈ vT := inR_19 _ (List.mem_of_getElem? (i := 9) rfl)
theorem vt_770 : (.selects "FamilyKernel$Typer" ⟨"FamilyKernel$Typer", "sortEnd", "()V"⟩ ⟨"FamilyKernel$Typer", "sortEnd", "()V"⟩ : Cond) ∈ vT := inR_19 _ (List.mem_of_getElem? (i := 10) rfl)
theorem vt_771 : (.code ⟨"FamilyKernel$Typer", "sortEnd", "()V"⟩ prog_12_method_9_code 1 none : Cond) ∈ vT := inR_19 _ (List.mem_of_getElem? (i := 11) rfl)
theorem vt_772 : (.methodLink "FamilyKernel" 266 ⟨"FamilyKernel$Typer", "checkType", "()V"⟩ : Cond) ∈ vT := inR_19 _ (List.mem_of_getElem? (i := 12) rfl)
theorem vt_773 : (.instanceMethod ⟨"FamilyKernel$Typer", "checkType", "()V"⟩ : Cond) ∈ vT := inR_19 _ (List.mem_of_getElem? (i := 13) rfl)
theorem vt_774 : (.selects "FamilyKernel$Typer" ⟨"FamilyKernel$Typer", "checkType", "()V"⟩ ⟨"FamilyKernel$Typer", "checkType", "()V"⟩ : Cond) ∈ vT := inR_19 _ (List.mem_of_getElem? (i := 14) rfl)
theorem vt_775 : (.code ⟨"FamilyKernel$Typer", "checkType", "()V"⟩ prog_12_method_10_code 2 none : Cond) ∈ vT := inR_19 _ (List.mem_of_getElem? (i := 15) rfl)
theorem vt_776 : (.methodLink "FamilyKernel" 269 ⟨"FamilyKernel$Typer", "declare", "()V"⟩ : Cond) ∈ vT := inR_19 _ (List.mem_of_getElem? (i := 16) rfl)
theorem vt_777 : (.instanceMethod ⟨"FamilyKernel$Typer", "declare", "()V"⟩ : Cond) ∈ vT := inR_19 _ (List.mem_of_getElem? (i := 17) rfl)
theorem vt_778 : (.selects "FamilyKernel$Typer" ⟨"FamilyKernel$Typer", "declare", "()V"⟩ ⟨"FamilyKernel$Typer", "declare", "()V"⟩ : Cond) ∈ vT := inR_19 _ (List.mem_of_getElem? (i := 18) rfl)
theorem vt_779 : (.code ⟨"FamilyKernel$Typer", "declare", "()V"⟩ prog_12_method_23_code 1 none : Cond) ∈ vT := inR_19 _ (List.mem_of_getElem? (i := 19) rfl)
theorem vt_780 : (.methodLink "FamilyKernel" 272 ⟨"FamilyKernel$Typer", "declareValue", "()V"⟩ : Cond) ∈ vT := inR_19 _ (List.mem_of_getElem? (i := 20) rfl)
theorem vt_781 : (.instanceMethod ⟨"FamilyKernel$Typer", "declareValue", "()V"⟩ : Cond) ∈ vT := inR_19 _ (List.mem_of_getElem? (i := 21) rfl)
theorem vt_782 : (.selects "FamilyKernel$Typer" ⟨"FamilyKernel$Typer", "declareValue", "()V"⟩ ⟨"FamilyKernel$Typer", "declareValue", "()V"⟩ : Cond) ∈ vT := inR_19 _ (List.mem_of_getElem? (i := 22) rfl)
theorem vt_783 : (.code ⟨"FamilyKernel$Typer", "declareValue", "()V"⟩ prog_12_method_24_code 1 none : Cond) ∈ vT := inR_19 _ (List.mem_of_getElem? (i := 23) rfl)
theorem vt_784 : (.methodLink "FamilyKernel" 275 ⟨"FamilyKernel$Typer", "eval", "()V"⟩ : Cond) ∈ vT := inR_19 _ (List.mem_of_getElem? (i := 24) rfl)
theorem vt_785 : (.instanceMethod ⟨"FamilyKernel$Typer", "eval", "()V"⟩ : Cond) ∈ vT := inR_19 _ (List.mem_of_getElem? (i := 25) rfl)
theorem vt_786 : (.selects "FamilyKernel$Typer" ⟨"FamilyKernel$Typer", "eval", "()V"⟩ ⟨"FamilyKernel$Typer", "eval", "()V"⟩ : Cond) ∈ vT := inR_19 _ (List.mem_of_getElem? (i := 26) rfl)
theorem vt_787 : (.code ⟨"FamilyKernel$Typer", "eval", "()V"⟩ prog_12_method_25_code 1 none : Cond) ∈ vT := inR_19 _ (List.mem_of_getElem? (i := 27) rfl)
theorem vt_788 : (.methodLink "FamilyKernel" 278 ⟨"FamilyKernel$Typer", "evalTyped", "()V"⟩ : Cond) ∈ vT := inR_19 _ (List.mem_of_getElem? (i := 28) rfl)
theorem vt_789 : (.instanceMethod ⟨"FamilyKernel$Typer", "evalTyped", "()V"⟩ : Cond) ∈ vT := inR_19 _ (List.mem_of_getElem? (i := 29) rfl)
theorem vt_790 : (.selects "FamilyKernel$Typer" ⟨"FamilyKernel$Typer", "evalTyped", "()V"⟩ ⟨"FamilyKernel$Typer", "evalTyped", "()V"⟩ : Cond) ∈ vT := inR_19 _ (List.mem_of_getElem? (i := 30) rfl)
theorem vt_791 : (.code ⟨"FamilyKernel$Typer", "evalTyped", "()V"⟩ prog_12_method_26_code 1 none : Cond) ∈ vT := inR_19 _ (List.mem_of_getElem? (i := 31) rfl)
theorem vt_792 : (.methodLink "FamilyKernel" 281 ⟨"FamilyKernel$Families", "family", "()V"⟩ : Cond) ∈ vT := inR_19 _ (List.mem_of_getElem? (i := 32) rfl)
theorem vt_793 : (.instanceMethod ⟨"FamilyKernel$Families", "family", "()V"⟩ : Cond) ∈ vT := inR_19 _ (List.mem_of_getElem? (i := 33) rfl)
theorem vt_794 : (.selects "FamilyKernel$Families" ⟨"FamilyKernel$Families", "family", "()V"⟩ ⟨"FamilyKernel$Families", "family", "()V"⟩ : Cond) ∈ vT := inR_19 _ (List.mem_of_getElem? (i := 34) rfl)
theorem vt_795 : (.code ⟨"FamilyKernel$Families", "family", "()V"⟩ prog_3_method_2_code 2 none : Cond) ∈ vT := inR_19 _ (List.mem_of_getElem? (i := 35) rfl)
theorem vt_796 : (.methodLink "FamilyKernel" 284 ⟨"FamilyKernel$Families", "member", "()V"⟩ : Cond) ∈ vT := inR_19 _ (List.mem_of_getElem? (i := 36) rfl)
theorem vt_797 : (.instanceMethod ⟨"FamilyKernel$Families", "member", "()V"⟩ : Cond) ∈ vT := inR_19 _ (List.mem_of_getElem? (i := 37) rfl)
theorem vt_798 : (.selects "FamilyKernel$Families" ⟨"FamilyKernel$Families", "member", "()V"⟩ ⟨"FamilyKernel$Families", "member", "()V"⟩ : Cond) ∈ vT := inR_19 _ (List.mem_of_getElem? (i := 38) rfl)
theorem vt_799 : (.code ⟨"FamilyKernel$Families", "member", "()V"⟩ prog_3_method_6_code 2 none : Cond) ∈ vT := inR_19 _ (List.mem_of_getElem? (i := 39) rfl)
theorem vt_800 : (.methodLink "FamilyKernel" 287 ⟨"FamilyKernel$Families", "argument", "()V"⟩ : Cond) ∈ vT := inR_20 _ (List.mem_of_getElem? (i := 0) rfl)
theorem vt_801 : (.instanceMethod ⟨"FamilyKernel$Families", "argument", "()V"⟩ : Cond) ∈ vT := inR_20 _ (List.mem_of_getElem? (i := 1) rfl)
theorem vt_802 : (.selects "FamilyKernel$Families" ⟨"FamilyKernel$Families", "argument", "()V"⟩ ⟨"FamilyKernel$Families", "argument", "()V"⟩ : Cond) ∈ vT := inR_20 _ (List.mem_of_getElem? (i := 2) rfl)
theorem vt_803 : (.code ⟨"FamilyKernel$Families", "argument", "()V"⟩ prog_3_method_7_code 1 none : Cond) ∈ vT := inR_20 _ (List.mem_of_getElem? (i := 3) rfl)
theorem vt_804 : (.methodLink "FamilyKernel" 290 ⟨"FamilyKernel$Families", "argumentTested", "()V"⟩ : Cond) ∈ vT := inR_20 _ (List.mem_of_getElem? (i := 4) rfl)
theorem vt_805 : (.instanceMethod ⟨"FamilyKernel$Families", "argumentTested", "()V"⟩ : Cond) ∈ vT := inR_20 _ (List.mem_of_getElem? (i := 5) rfl)
theorem vt_806 : (.selects "FamilyKernel$Families" ⟨"FamilyKernel$Families", "argumentTested", "()V"⟩ ⟨"FamilyKernel$Families", "argumentTested", "()V"⟩ : Cond) ∈ vT := inR_20 _ (List.mem_of_getElem? (i := 6) rfl)
theorem vt_807 : (.code ⟨"FamilyKernel$Families", "argumentTested", "()V"⟩ prog_3_method_8_code 4 none : Cond) ∈ vT := inR_20 _ (List.mem_of_getElem? (i := 7) rfl)
theorem vt_808 : (.methodLink "FamilyKernel" 293 ⟨"FamilyKernel$Families", "memberTyped", "()V"⟩ : Cond) ∈ vT := inR_20 _ (List.mem_of_getElem? (i := 8) rfl)
theorem vt_809 : (.instanceMethod ⟨"FamilyKernel$Families", "memberTyped", "()V"⟩ : Cond) ∈ vT := inR_20 _ (List.mem_of_getElem? (i := 9) rfl)
theorem vt_810 : (.selects "FamilyKernel$Families" ⟨"FamilyKernel$Families", "memberTyped", "()V"⟩ ⟨"FamilyKernel$Families", "memberTyped", "()V"⟩ : Cond) ∈ vT := inR_20 _ (List.mem_of_getElem? (i := 10) rfl)
theorem vt_811 : (.code ⟨"FamilyKernel$Families", "memberTyped", "()V"⟩ prog_3_method_9_code 1 none : Cond) ∈ vT := inR_20 _ (List.mem_of_getElem? (i := 11) rfl)
theorem vt_812 : (.methodLink "FamilyKernel" 296 ⟨"FamilyKernel$Frames", "pop", "()V"⟩ : Cond) ∈ vT := inR_20 _ (List.mem_of_getElem? (i := 12) rfl)
theorem vt_813 : (.instanceMethod ⟨"FamilyKernel$Frames", "pop", "()V"⟩ : Cond) ∈ vT := inR_20 _ (List.mem_of_getElem? (i := 13) rfl)
theorem vt_814 : (.selects "FamilyKernel$Frames" ⟨"FamilyKernel$Frames", "pop", "()V"⟩ ⟨"FamilyKernel$Frames", "pop", "()V"⟩ : Cond) ∈ vT := inR_20 _ (List.mem_of_getElem? (i := 14) rfl)
theorem vt_815 : (.code ⟨"FamilyKernel$Frames", "pop", "()V"⟩ prog_4_method_5_code 1 none : Cond) ∈ vT := inR_20 _ (List.mem_of_getElem? (i := 15) rfl)
theorem vt_816 : (.methodLink "FamilyKernel" 299 ⟨"FamilyKernel$Meter", "fail", "(I)V"⟩ : Cond) ∈ vT := inR_20 _ (List.mem_of_getElem? (i := 16) rfl)
theorem vt_817 : (.methodLink "FamilyKernel$Frames" 24 ⟨"FamilyKernel$Row", "cut", "(I)V"⟩ : Cond) ∈ vT := inR_20 _ (List.mem_of_getElem? (i := 17) rfl)
theorem vt_818 : (.methodLink "FamilyKernel$Frames" 28 ⟨"FamilyKernel$Frames", "push", "(IIII)V"⟩ : Cond) ∈ vT := inR_20 _ (List.mem_of_getElem? (i := 18) rfl)
theorem vt_819 : (.instanceMethod ⟨"FamilyKernel$Frames", "push", "(IIII)V"⟩ : Cond) ∈ vT := inR_20 _ (List.mem_of_getElem? (i := 19) rfl)
theorem vt_820 : (.selects "FamilyKernel$Frames" ⟨"FamilyKernel$Frames", "push", "(IIII)V"⟩ ⟨"FamilyKernel$Frames", "push", "(IIII)V"⟩ : Cond) ∈ vT := inR_20 _ (List.mem_of_getElem? (i := 20) rfl)
theorem vt_821 : (.code ⟨"FamilyKernel$Frames", "push", "(IIII)V"⟩ prog_4_method_4_code 5 none : Cond) ∈ vT := inR_20 _ (List.mem_of_getElem? (i := 21) rfl)
theorem vt_822 : (.methodLink "FamilyKernel$Frames" 36 ⟨"FamilyKernel$Row", "push", "(I)V"⟩ : Cond) ∈ vT := inR_20 _ (List.mem_of_getElem? (i := 22) rfl)
theorem vt_823 : (.methodLink "FamilyKernel$Frames" 32 ⟨"FamilyKernel$Row", "size", "()I"⟩ : Cond) ∈ vT := inR_20 _ (List.mem_of_getElem? (i := 23) rfl)
theorem vt_824 : (.methodLink "FamilyKernel$Frames" 38 ⟨"FamilyKernel$Row", "at", "(I)I"⟩ : Cond) ∈ vT := inR_20 _ (List.mem_of_getElem? (i := 24) rfl)
theorem vt_825 : (.methodLink "FamilyKernel$Reducer" 39 ⟨"FamilyKernel$Frames", "top", "(I)I"⟩ : Cond) ∈ vT := inR_20 _ (List.mem_of_getElem? (i := 25) rfl)
theorem vt_826 : (.methodLink "FamilyKernel$Reducer" 43 ⟨"FamilyKernel$Terms", "head", "(I)I"⟩ : Cond) ∈ vT := inR_20 _ (List.mem_of_getElem? (i := 26) rfl)
theorem vt_827 : (.instanceMethod ⟨"FamilyKernel$Terms", "head", "(I)I"⟩ : Cond) ∈ vT := inR_20 _ (List.mem_of_getElem? (i := 27) rfl)
theorem vt_828 : (.selects "FamilyKernel$Terms" ⟨"FamilyKernel$Terms", "head", "(I)I"⟩ ⟨"FamilyKernel$Terms", "head", "(I)I"⟩ : Cond) ∈ vT := inR_20 _ (List.mem_of_getElem? (i := 28) rfl)
theorem vt_829 : (.code ⟨"FamilyKernel$Terms", "head", "(I)I"⟩ prog_11_method_10_code 4 (some .int) : Cond) ∈ vT := inR_20 _ (List.mem_of_getElem? (i := 29) rfl)
theorem vt_830 : (.methodLink "FamilyKernel$Reducer" 48 ⟨"FamilyKernel$Terms", "behind", "(I)I"⟩ : Cond) ∈ vT := inR_20 _ (List.mem_of_getElem? (i := 30) rfl)
theorem vt_831 : (.instanceMethod ⟨"FamilyKernel$Terms", "behind", "(I)I"⟩ : Cond) ∈ vT := inR_20 _ (List.mem_of_getElem? (i := 31) rfl)
theorem vt_832 : (.selects "FamilyKernel$Terms" ⟨"FamilyKernel$Terms", "behind", "(I)I"⟩ ⟨"FamilyKernel$Terms", "behind", "(I)I"⟩ : Cond) ∈ vT := inR_20 _ (List.mem_of_getElem? (i := 32) rfl)
theorem vt_833 : (.code ⟨"FamilyKernel$Terms", "behind", "(I)I"⟩ prog_11_method_11_code 4 (some .int) : Cond) ∈ vT := inR_20 _ (List.mem_of_getElem? (i := 33) rfl)
theorem vt_834 : (.methodLink "FamilyKernel$Reducer" 51 ⟨"FamilyKernel$Terms", "kind", "(I)I"⟩ : Cond) ∈ vT := inR_20 _ (List.mem_of_getElem? (i := 34) rfl)
theorem vt_835 : (.methodLink "FamilyKernel$Reducer" 54 ⟨"FamilyKernel$Terms", "fromLast", "(II)I"⟩ : Cond) ∈ vT := inR_20 _ (List.mem_of_getElem? (i := 35) rfl)
theorem vt_836 : (.instanceMethod ⟨"FamilyKernel$Terms", "fromLast", "(II)I"⟩ : Cond) ∈ vT := inR_20 _ (List.mem_of_getElem? (i := 36) rfl)
theorem vt_837 : (.selects "FamilyKernel$Terms" ⟨"FamilyKernel$Terms", "fromLast", "(II)I"⟩ ⟨"FamilyKernel$Terms", "fromLast", "(II)I"⟩ : Cond) ∈ vT := inR_20 _ (List.mem_of_getElem? (i := 37) rfl)
theorem vt_838 : (.code ⟨"FamilyKernel$Terms", "fromLast", "(II)I"⟩ prog_11_method_12_code 5 (some .int) : Cond) ∈ vT := inR_20 _ (List.mem_of_getElem? (i := 38) rfl)
theorem vt_839 : (.methodLink "FamilyKernel$Reducer" 58 ⟨"FamilyKernel$Terms", "right", "(I)I"⟩ : Cond) ∈ vT := inR_20 _ (List.mem_of_getElem? (i := 39) rfl)
theorem vt_840 : (.methodLink "FamilyKernel$Reducer" 61 ⟨"FamilyKernel$Terms", "rewrite", "(III)I"⟩ : Cond) ∈ vT := inR_21 _ (List.mem_of_getElem? (i := 0) rfl)
theorem vt_841 : (.methodLink "FamilyKernel$Reducer" 65 ⟨"FamilyKernel$Reducer", "step", "(II)V"⟩ : Cond) ∈ vT := inR_21 _ (List.mem_of_getElem? (i := 1) rfl)
theorem vt_842 : (.instanceMethod ⟨"FamilyKernel$Reducer", "step", "(II)V"⟩ : Cond) ∈ vT := inR_21 _ (List.mem_of_getElem? (i := 2) rfl)
theorem vt_843 : (.selects "FamilyKernel$Reducer" ⟨"FamilyKernel$Reducer", "step", "(II)V"⟩ ⟨"FamilyKernel$Reducer", "step", "(II)V"⟩ : Cond) ∈ vT := inR_21 _ (List.mem_of_getElem? (i := 3) rfl)
theorem vt_844 : (.code ⟨"FamilyKernel$Reducer", "step", "(II)V"⟩ prog_9_method_5_code 3 none : Cond) ∈ vT := inR_21 _ (List.mem_of_getElem? (i := 4) rfl)
theorem vt_845 : (.methodLink "FamilyKernel$Reducer" 68 ⟨"FamilyKernel$Terms", "left", "(I)I"⟩ : Cond) ∈ vT := inR_21 _ (List.mem_of_getElem? (i := 5) rfl)
theorem vt_846 : (.methodLink "FamilyKernel$Reducer" 71 ⟨"FamilyKernel$Environment", "fact", "(II)I"⟩ : Cond) ∈ vT := inR_21 _ (List.mem_of_getElem? (i := 6) rfl)
theorem vt_847 : (.methodLink "FamilyKernel$Reducer" 76 ⟨"FamilyKernel$Reducer", "majorPlace", "(I)I"⟩ : Cond) ∈ vT := inR_21 _ (List.mem_of_getElem? (i := 7) rfl)
theorem vt_848 : (.instanceMethod ⟨"FamilyKernel$Reducer", "majorPlace", "(I)I"⟩ : Cond) ∈ vT := inR_21 _ (List.mem_of_getElem? (i := 8) rfl)
theorem vt_849 : (.selects "FamilyKernel$Reducer" ⟨"FamilyKernel$Reducer", "majorPlace", "(I)I"⟩ ⟨"FamilyKernel$Reducer", "majorPlace", "(I)I"⟩ : Cond) ∈ vT := inR_21 _ (List.mem_of_getElem? (i := 9) rfl)
theorem vt_850 : (.code ⟨"FamilyKernel$Reducer", "majorPlace", "(I)I"⟩ prog_9_method_3_code 2 (some .int) : Cond) ∈ vT := inR_21 _ (List.mem_of_getElem? (i := 10) rfl)
theorem vt_851 : (.methodLink "FamilyKernel$Reducer" 79 ⟨"FamilyKernel$Reducer", "askMajor", "(II)V"⟩ : Cond) ∈ vT := inR_21 _ (List.mem_of_getElem? (i := 11) rfl)
theorem vt_852 : (.instanceMethod ⟨"FamilyKernel$Reducer", "askMajor", "(II)V"⟩ : Cond) ∈ vT := inR_21 _ (List.mem_of_getElem? (i := 12) rfl)
theorem vt_853 : (.selects "FamilyKernel$Reducer" ⟨"FamilyKernel$Reducer", "askMajor", "(II)V"⟩ ⟨"FamilyKernel$Reducer", "askMajor", "(II)V"⟩ : Cond) ∈ vT := inR_21 _ (List.mem_of_getElem? (i := 13) rfl)
theorem vt_854 : (.code ⟨"FamilyKernel$Reducer", "askMajor", "(II)V"⟩ prog_9_method_4_code 4 none : Cond) ∈ vT := inR_21 _ (List.mem_of_getElem? (i := 14) rfl)
theorem vt_855 : (.methodLink "FamilyKernel$Reducer" 82 ⟨"FamilyKernel$Frames", "give", "(I)V"⟩ : Cond) ∈ vT := inR_21 _ (List.mem_of_getElem? (i := 15) rfl)
theorem vt_856 : (.instanceMethod ⟨"FamilyKernel$Frames", "give", "(I)V"⟩ : Cond) ∈ vT := inR_21 _ (List.mem_of_getElem? (i := 16) rfl)
theorem vt_857 : (.selects "FamilyKernel$Frames" ⟨"FamilyKernel$Frames", "give", "(I)V"⟩ ⟨"FamilyKernel$Frames", "give", "(I)V"⟩ : Cond) ∈ vT := inR_21 _ (List.mem_of_getElem? (i := 17) rfl)
theorem vt_858 : (.code ⟨"FamilyKernel$Frames", "give", "(I)V"⟩ prog_4_method_8_code 2 none : Cond) ∈ vT := inR_21 _ (List.mem_of_getElem? (i := 18) rfl)
theorem vt_859 : (.methodLink "FamilyKernel$Reducer" 98 ⟨"FamilyKernel$Row", "cut", "(I)V"⟩ : Cond) ∈ vT := inR_21 _ (List.mem_of_getElem? (i := 19) rfl)
theorem vt_860 : (.methodLink "FamilyKernel$Reducer" 101 ⟨"FamilyKernel$Reducer", "giveLast", "(II)I"⟩ : Cond) ∈ vT := inR_21 _ (List.mem_of_getElem? (i := 20) rfl)
theorem vt_861 : (.instanceMethod ⟨"FamilyKernel$Reducer", "giveLast", "(II)I"⟩ : Cond) ∈ vT := inR_21 _ (List.mem_of_getElem? (i := 21) rfl)
theorem vt_862 : (.selects "FamilyKernel$Reducer" ⟨"FamilyKernel$Reducer", "giveLast", "(II)I"⟩ ⟨"FamilyKernel$Reducer", "giveLast", "(II)I"⟩ : Cond) ∈ vT := inR_21 _ (List.mem_of_getElem? (i := 22) rfl)
theorem vt_863 : (.code ⟨"FamilyKernel$Reducer", "giveLast", "(II)I"⟩ prog_9_method_6_code 5 (some .int) : Cond) ∈ vT := inR_21 _ (List.mem_of_getElem? (i := 23) rfl)
theorem vt_864 : (.methodLink "FamilyKernel$Reducer" 104 ⟨"FamilyKernel$Reducer", "applyGiven", "(I)V"⟩ : Cond) ∈ vT := inR_21 _ (List.mem_of_getElem? (i := 24) rfl)
theorem vt_865 : (.instanceMethod ⟨"FamilyKernel$Reducer", "applyGiven", "(I)V"⟩ : Cond) ∈ vT := inR_21 _ (List.mem_of_getElem? (i := 25) rfl)
theorem vt_866 : (.selects "FamilyKernel$Reducer" ⟨"FamilyKernel$Reducer", "applyGiven", "(I)V"⟩ ⟨"FamilyKernel$Reducer", "applyGiven", "(I)V"⟩ : Cond) ∈ vT := inR_21 _ (List.mem_of_getElem? (i := 26) rfl)
theorem vt_867 : (.code ⟨"FamilyKernel$Reducer", "applyGiven", "(I)V"⟩ prog_9_method_7_code 3 none : Cond) ∈ vT := inR_21 _ (List.mem_of_getElem? (i := 27) rfl)
theorem vt_868 : (.methodLink "FamilyKernel$Reducer" 107 ⟨"FamilyKernel$Row", "push", "(I)V"⟩ : Cond) ∈ vT := inR_21 _ (List.mem_of_getElem? (i := 28) rfl)
theorem vt_869 : (.methodLink "FamilyKernel$Reducer" 109 ⟨"FamilyKernel$Row", "size", "()I"⟩ : Cond) ∈ vT := inR_21 _ (List.mem_of_getElem? (i := 29) rfl)
theorem vt_870 : (.methodLink "FamilyKernel$Reducer" 113 ⟨"FamilyKernel$Row", "pop", "()I"⟩ : Cond) ∈ vT := inR_21 _ (List.mem_of_getElem? (i := 30) rfl)
theorem vt_871 : (.methodLink "FamilyKernel$Reducer" 116 ⟨"FamilyKernel$Terms", "make", "(III)I"⟩ : Cond) ∈ vT := inR_21 _ (List.mem_of_getElem? (i := 31) rfl)
theorem vt_872 : (.methodLink "FamilyKernel$Reducer" 119 ⟨"FamilyKernel$Terms", "size", "(I)I"⟩ : Cond) ∈ vT := inR_21 _ (List.mem_of_getElem? (i := 32) rfl)
theorem vt_873 : (.methodLink "FamilyKernel$Reducer" 121 ⟨"FamilyKernel$Meter", "charge", "(I)V"⟩ : Cond) ∈ vT := inR_21 _ (List.mem_of_getElem? (i := 33) rfl)
theorem vt_874 : (.methodLink "FamilyKernel$Reducer" 91 ⟨"FamilyKernel$Frames", "set", "(II)V"⟩ : Cond) ∈ vT := inR_21 _ (List.mem_of_getElem? (i := 34) rfl)
theorem vt_875 : (.instanceMethod ⟨"FamilyKernel$Frames", "set", "(II)V"⟩ : Cond) ∈ vT := inR_21 _ (List.mem_of_getElem? (i := 35) rfl)
theorem vt_876 : (.selects "FamilyKernel$Frames" ⟨"FamilyKernel$Frames", "set", "(II)V"⟩ ⟨"FamilyKernel$Frames", "set", "(II)V"⟩ : Cond) ∈ vT := inR_21 _ (List.mem_of_getElem? (i := 36) rfl)
theorem vt_877 : (.code ⟨"FamilyKernel$Frames", "set", "(II)V"⟩ prog_4_method_7_code 3 none : Cond) ∈ vT := inR_21 _ (List.mem_of_getElem? (i := 37) rfl)
theorem vt_878 : (.methodLink "FamilyKernel$Frames" 42 ⟨"FamilyKernel$Row", "put", "(II)V"⟩ : Cond) ∈ vT := inR_21 _ (List.mem_of_getElem? (i := 38) rfl)
theorem vt_879 : (.methodLink "FamilyKernel$Reducer" 86 ⟨"FamilyKernel$Meter", "fail", "(I)V"⟩ : Cond) ∈ vT := inR_21 _ (List.mem_of_getElem? (i := 39) rfl)
theorem vt_880 : (.methodLink "FamilyKernel$Reducer" 94 ⟨"FamilyKernel$Frames", "push", "(IIII)V"⟩ : Cond) ∈ vT := inR_22 _ (List.mem_of_getElem? (i := 0) rfl)
theorem vt_881 : (.fieldLink "FamilyKernel$Frames" 45 "FamilyKernel$Frames" "result" "I" : Cond) ∈ vT := inR_22 _ (List.mem_of_getElem? (i := 1) rfl)
theorem vt_882 : (.methodLink "FamilyKernel$Frames" 49 ⟨"FamilyKernel$Frames", "pop", "()V"⟩ : Cond) ∈ vT := inR_22 _ (List.mem_of_getElem? (i := 2) rfl)
theorem vt_883 : (.methodLink "FamilyKernel$Reducer" 124 ⟨"FamilyKernel$Frames", "result", "()I"⟩ : Cond) ∈ vT := inR_22 _ (List.mem_of_getElem? (i := 3) rfl)
theorem vt_884 : (.instanceMethod ⟨"FamilyKernel$Frames", "result", "()I"⟩ : Cond) ∈ vT := inR_22 _ (List.mem_of_getElem? (i := 4) rfl)
theorem vt_885 : (.selects "FamilyKernel$Frames" ⟨"FamilyKernel$Frames", "result", "()I"⟩ ⟨"FamilyKernel$Frames", "result", "()I"⟩ : Cond) ∈ vT := inR_22 _ (List.mem_of_getElem? (i := 5) rfl)
theorem vt_886 : (.code ⟨"FamilyKernel$Frames", "result", "()I"⟩ prog_4_method_9_code 1 (some .int) : Cond) ∈ vT := inR_22 _ (List.mem_of_getElem? (i := 6) rfl)
theorem vt_887 : (.methodLink "FamilyKernel$Reducer" 127 ⟨"FamilyKernel$Frames", "pop", "()V"⟩ : Cond) ∈ vT := inR_22 _ (List.mem_of_getElem? (i := 7) rfl)
theorem vt_888 : (.methodLink "FamilyKernel$Reducer" 129 ⟨"FamilyKernel$Reducer", "convWithin", "(II)V"⟩ : Cond) ∈ vT := inR_22 _ (List.mem_of_getElem? (i := 8) rfl)
theorem vt_889 : (.instanceMethod ⟨"FamilyKernel$Reducer", "convWithin", "(II)V"⟩ : Cond) ∈ vT := inR_22 _ (List.mem_of_getElem? (i := 9) rfl)
theorem vt_890 : (.selects "FamilyKernel$Reducer" ⟨"FamilyKernel$Reducer", "convWithin", "(II)V"⟩ ⟨"FamilyKernel$Reducer", "convWithin", "(II)V"⟩ : Cond) ∈ vT := inR_22 _ (List.mem_of_getElem? (i := 10) rfl)
theorem vt_891 : (.code ⟨"FamilyKernel$Reducer", "convWithin", "(II)V"⟩ prog_9_method_12_code 3 none : Cond) ∈ vT := inR_22 _ (List.mem_of_getElem? (i := 11) rfl)
theorem vt_892 : (.methodLink "FamilyKernel$Reducer" 132 ⟨"FamilyKernel$Frames", "newVariable", "(I)I"⟩ : Cond) ∈ vT := inR_22 _ (List.mem_of_getElem? (i := 12) rfl)
theorem vt_893 : (.instanceMethod ⟨"FamilyKernel$Frames", "newVariable", "(I)I"⟩ : Cond) ∈ vT := inR_22 _ (List.mem_of_getElem? (i := 13) rfl)
theorem vt_894 : (.selects "FamilyKernel$Frames" ⟨"FamilyKernel$Frames", "newVariable", "(I)I"⟩ ⟨"FamilyKernel$Frames", "newVariable", "(I)I"⟩ : Cond) ∈ vT := inR_22 _ (List.mem_of_getElem? (i := 14) rfl)
theorem vt_895 : (.code ⟨"FamilyKernel$Frames", "newVariable", "(I)I"⟩ prog_4_method_10_code 2 (some .int) : Cond) ∈ vT := inR_22 _ (List.mem_of_getElem? (i := 15) rfl)
theorem vt_896 : (.methodLink "FamilyKernel$Reducer" 135 ⟨"FamilyKernel$Reducer", "convHeads", "(II)V"⟩ : Cond) ∈ vT := inR_22 _ (List.mem_of_getElem? (i := 16) rfl)
theorem vt_897 : (.instanceMethod ⟨"FamilyKernel$Reducer", "convHeads", "(II)V"⟩ : Cond) ∈ vT := inR_22 _ (List.mem_of_getElem? (i := 17) rfl)
theorem vt_898 : (.selects "FamilyKernel$Reducer" ⟨"FamilyKernel$Reducer", "convHeads", "(II)V"⟩ ⟨"FamilyKernel$Reducer", "convHeads", "(II)V"⟩ : Cond) ∈ vT := inR_22 _ (List.mem_of_getElem? (i := 18) rfl)
theorem vt_899 : (.code ⟨"FamilyKernel$Reducer", "convHeads", "(II)V"⟩ prog_9_method_13_code 4 none : Cond) ∈ vT := inR_22 _ (List.mem_of_getElem? (i := 19) rfl)
theorem vt_900 : (.methodLink "FamilyKernel$Reducer" 138 ⟨"FamilyKernel$Frames", "dropVariable", "()I"⟩ : Cond) ∈ vT := inR_22 _ (List.mem_of_getElem? (i := 20) rfl)
theorem vt_901 : (.instanceMethod ⟨"FamilyKernel$Frames", "dropVariable", "()I"⟩ : Cond) ∈ vT := inR_22 _ (List.mem_of_getElem? (i := 21) rfl)
theorem vt_902 : (.selects "FamilyKernel$Frames" ⟨"FamilyKernel$Frames", "dropVariable", "()I"⟩ ⟨"FamilyKernel$Frames", "dropVariable", "()I"⟩ : Cond) ∈ vT := inR_22 _ (List.mem_of_getElem? (i := 22) rfl)
theorem vt_903 : (.code ⟨"FamilyKernel$Frames", "dropVariable", "()I"⟩ prog_4_method_11_code 1 (some .int) : Cond) ∈ vT := inR_22 _ (List.mem_of_getElem? (i := 23) rfl)
theorem vt_904 : (.methodLink "FamilyKernel$Frames" 52 ⟨"FamilyKernel$Row", "pop", "()I"⟩ : Cond) ∈ vT := inR_22 _ (List.mem_of_getElem? (i := 24) rfl)
theorem vt_905 : (.methodLink "FamilyKernel$Reducer" 141 ⟨"FamilyKernel$Reducer", "normalWithin", "(I)V"⟩ : Cond) ∈ vT := inR_22 _ (List.mem_of_getElem? (i := 25) rfl)
theorem vt_906 : (.instanceMethod ⟨"FamilyKernel$Reducer", "normalWithin", "(I)V"⟩ : Cond) ∈ vT := inR_22 _ (List.mem_of_getElem? (i := 26) rfl)
theorem vt_907 : (.selects "FamilyKernel$Reducer" ⟨"FamilyKernel$Reducer", "normalWithin", "(I)V"⟩ ⟨"FamilyKernel$Reducer", "normalWithin", "(I)V"⟩ : Cond) ∈ vT := inR_22 _ (List.mem_of_getElem? (i := 27) rfl)
theorem vt_908 : (.code ⟨"FamilyKernel$Reducer", "normalWithin", "(I)V"⟩ prog_9_method_19_code 2 none : Cond) ∈ vT := inR_22 _ (List.mem_of_getElem? (i := 28) rfl)
theorem vt_909 : (.methodLink "FamilyKernel$Typer" 29 ⟨"FamilyKernel$Frames", "top", "(I)I"⟩ : Cond) ∈ vT := inR_22 _ (List.mem_of_getElem? (i := 29) rfl)
theorem vt_910 : (.methodLink "FamilyKernel$Typer" 33 ⟨"FamilyKernel$Meter", "fail", "(I)V"⟩ : Cond) ∈ vT := inR_22 _ (List.mem_of_getElem? (i := 30) rfl)
theorem vt_911 : (.methodLink "FamilyKernel$Typer" 39 ⟨"FamilyKernel$Terms", "kind", "(I)I"⟩ : Cond) ∈ vT := inR_22 _ (List.mem_of_getElem? (i := 31) rfl)
theorem vt_912 : (.methodLink "FamilyKernel$Typer" 44 ⟨"FamilyKernel$Terms", "left", "(I)I"⟩ : Cond) ∈ vT := inR_22 _ (List.mem_of_getElem? (i := 32) rfl)
theorem vt_913 : (.methodLink "FamilyKernel$Typer" 47 ⟨"FamilyKernel$Frames", "typeOf", "(I)I"⟩ : Cond) ∈ vT := inR_22 _ (List.mem_of_getElem? (i := 33) rfl)
theorem vt_914 : (.instanceMethod ⟨"FamilyKernel$Frames", "typeOf", "(I)I"⟩ : Cond) ∈ vT := inR_22 _ (List.mem_of_getElem? (i := 34) rfl)
theorem vt_915 : (.selects "FamilyKernel$Frames" ⟨"FamilyKernel$Frames", "typeOf", "(I)I"⟩ ⟨"FamilyKernel$Frames", "typeOf", "(I)I"⟩ : Cond) ∈ vT := inR_22 _ (List.mem_of_getElem? (i := 35) rfl)
theorem vt_916 : (.code ⟨"FamilyKernel$Frames", "typeOf", "(I)I"⟩ prog_4_method_13_code 2 (some .int) : Cond) ∈ vT := inR_22 _ (List.mem_of_getElem? (i := 36) rfl)
theorem vt_917 : (.methodLink "FamilyKernel$Typer" 50 ⟨"FamilyKernel$Frames", "give", "(I)V"⟩ : Cond) ∈ vT := inR_22 _ (List.mem_of_getElem? (i := 37) rfl)
theorem vt_918 : (.methodLink "FamilyKernel$Typer" 53 ⟨"FamilyKernel$Typer", "inferSort", "(I)V"⟩ : Cond) ∈ vT := inR_22 _ (List.mem_of_getElem? (i := 38) rfl)
theorem vt_919 : (.instanceMethod ⟨"FamilyKernel$Typer", "inferSort", "(I)V"⟩ : Cond) ∈ vT := inR_22 _ (List.mem_of_getElem? (i := 39) rfl)
theorem vt_920 : (.selects "FamilyKernel$Typer" ⟨"FamilyKernel$Typer", "inferSort", "(I)V"⟩ ⟨"FamilyKernel$Typer", "inferSort", "(I)V"⟩ : Cond) ∈ vT := inR_23 _ (List.mem_of_getElem? (i := 0) rfl)
theorem vt_921 : (.code ⟨"FamilyKernel$Typer", "inferSort", "(I)V"⟩ prog_12_method_3_code 2 none : Cond) ∈ vT := inR_23 _ (List.mem_of_getElem? (i := 1) rfl)
theorem vt_922 : (.methodLink "FamilyKernel$Typer" 56 ⟨"FamilyKernel$Environment", "fact", "(II)I"⟩ : Cond) ∈ vT := inR_23 _ (List.mem_of_getElem? (i := 2) rfl)
theorem vt_923 : (.methodLink "FamilyKernel$Typer" 62 ⟨"FamilyKernel$Terms", "right", "(I)I"⟩ : Cond) ∈ vT := inR_23 _ (List.mem_of_getElem? (i := 3) rfl)
theorem vt_924 : (.methodLink "FamilyKernel$Typer" 65 ⟨"FamilyKernel$Typer", "inferRecursor", "(II)V"⟩ : Cond) ∈ vT := inR_23 _ (List.mem_of_getElem? (i := 4) rfl)
theorem vt_925 : (.instanceMethod ⟨"FamilyKernel$Typer", "inferRecursor", "(II)V"⟩ : Cond) ∈ vT := inR_23 _ (List.mem_of_getElem? (i := 5) rfl)
theorem vt_926 : (.selects "FamilyKernel$Typer" ⟨"FamilyKernel$Typer", "inferRecursor", "(II)V"⟩ ⟨"FamilyKernel$Typer", "inferRecursor", "(II)V"⟩ : Cond) ∈ vT := inR_23 _ (List.mem_of_getElem? (i := 6) rfl)
theorem vt_927 : (.code ⟨"FamilyKernel$Typer", "inferRecursor", "(II)V"⟩ prog_12_method_4_code 4 none : Cond) ∈ vT := inR_23 _ (List.mem_of_getElem? (i := 7) rfl)
theorem vt_928 : (.methodLink "FamilyKernel$Typer" 69 ⟨"FamilyKernel$Typer", "sortWithin", "(II)V"⟩ : Cond) ∈ vT := inR_23 _ (List.mem_of_getElem? (i := 8) rfl)
theorem vt_929 : (.instanceMethod ⟨"FamilyKernel$Typer", "sortWithin", "(II)V"⟩ : Cond) ∈ vT := inR_23 _ (List.mem_of_getElem? (i := 9) rfl)
theorem vt_930 : (.selects "FamilyKernel$Typer" ⟨"FamilyKernel$Typer", "sortWithin", "(II)V"⟩ ⟨"FamilyKernel$Typer", "sortWithin", "(II)V"⟩ : Cond) ∈ vT := inR_23 _ (List.mem_of_getElem? (i := 10) rfl)
theorem vt_931 : (.code ⟨"FamilyKernel$Typer", "sortWithin", "(II)V"⟩ prog_12_method_6_code 4 none : Cond) ∈ vT := inR_23 _ (List.mem_of_getElem? (i := 11) rfl)
theorem vt_932 : (.methodLink "FamilyKernel$Typer" 72 ⟨"FamilyKernel$Frames", "set", "(II)V"⟩ : Cond) ∈ vT := inR_23 _ (List.mem_of_getElem? (i := 12) rfl)
theorem vt_933 : (.methodLink "FamilyKernel$Typer" 75 ⟨"FamilyKernel$Terms", "behind", "(I)I"⟩ : Cond) ∈ vT := inR_23 _ (List.mem_of_getElem? (i := 13) rfl)
theorem vt_934 : (.methodLink "FamilyKernel$Typer" 78 ⟨"FamilyKernel$Terms", "head", "(I)I"⟩ : Cond) ∈ vT := inR_23 _ (List.mem_of_getElem? (i := 14) rfl)
theorem vt_935 : (.methodLink "FamilyKernel$Typer" 81 ⟨"FamilyKernel$Typer", "inferWithin", "(I)V"⟩ : Cond) ∈ vT := inR_23 _ (List.mem_of_getElem? (i := 15) rfl)
theorem vt_936 : (.instanceMethod ⟨"FamilyKernel$Typer", "inferWithin", "(I)V"⟩ : Cond) ∈ vT := inR_23 _ (List.mem_of_getElem? (i := 16) rfl)
theorem vt_937 : (.selects "FamilyKernel$Typer" ⟨"FamilyKernel$Typer", "inferWithin", "(I)V"⟩ ⟨"FamilyKernel$Typer", "inferWithin", "(I)V"⟩ : Cond) ∈ vT := inR_23 _ (List.mem_of_getElem? (i := 17) rfl)
theorem vt_938 : (.code ⟨"FamilyKernel$Typer", "inferWithin", "(I)V"⟩ prog_12_method_5_code 2 none : Cond) ∈ vT := inR_23 _ (List.mem_of_getElem? (i := 18) rfl)
theorem vt_939 : (.methodLink "FamilyKernel$Typer" 84 ⟨"FamilyKernel$Terms", "make", "(III)I"⟩ : Cond) ∈ vT := inR_23 _ (List.mem_of_getElem? (i := 19) rfl)
theorem vt_940 : (.methodLink "FamilyKernel$Typer" 88 ⟨"FamilyKernel$Environment", "allows", "(II)Z"⟩ : Cond) ∈ vT := inR_23 _ (List.mem_of_getElem? (i := 20) rfl)
theorem vt_941 : (.instanceMethod ⟨"FamilyKernel$Environment", "allows", "(II)Z"⟩ : Cond) ∈ vT := inR_23 _ (List.mem_of_getElem? (i := 21) rfl)
theorem vt_942 : (.selects "FamilyKernel$Environment" ⟨"FamilyKernel$Environment", "allows", "(II)Z"⟩ ⟨"FamilyKernel$Environment", "allows", "(II)Z"⟩ : Cond) ∈ vT := inR_23 _ (List.mem_of_getElem? (i := 22) rfl)
theorem vt_943 : (.code ⟨"FamilyKernel$Environment", "allows", "(II)Z"⟩ prog_2_method_13_code 3 (some .boolean) : Cond) ∈ vT := inR_23 _ (List.mem_of_getElem? (i := 23) rfl)
theorem vt_944 : (.methodLink "FamilyKernel$Typer" 92 ⟨"FamilyKernel$Terms", "size", "(I)I"⟩ : Cond) ∈ vT := inR_23 _ (List.mem_of_getElem? (i := 24) rfl)
theorem vt_945 : (.methodLink "FamilyKernel$Typer" 95 ⟨"FamilyKernel$Meter", "charge", "(I)V"⟩ : Cond) ∈ vT := inR_23 _ (List.mem_of_getElem? (i := 25) rfl)
theorem vt_946 : (.methodLink "FamilyKernel$Typer" 98 ⟨"FamilyKernel$Terms", "rewrite", "(III)I"⟩ : Cond) ∈ vT := inR_23 _ (List.mem_of_getElem? (i := 26) rfl)
theorem vt_947 : (.methodLink "FamilyKernel$Typer" 101 ⟨"FamilyKernel$Frames", "push", "(IIII)V"⟩ : Cond) ∈ vT := inR_23 _ (List.mem_of_getElem? (i := 27) rfl)
theorem vt_948 : (.methodLink "FamilyKernel$Typer" 105 ⟨"FamilyKernel$Frames", "result", "()I"⟩ : Cond) ∈ vT := inR_23 _ (List.mem_of_getElem? (i := 28) rfl)
theorem vt_949 : (.methodLink "FamilyKernel$Typer" 112 ⟨"FamilyKernel$Typer", "openBody", "(I)I"⟩ : Cond) ∈ vT := inR_23 _ (List.mem_of_getElem? (i := 29) rfl)
theorem vt_950 : (.instanceMethod ⟨"FamilyKernel$Typer", "openBody", "(I)I"⟩ : Cond) ∈ vT := inR_23 _ (List.mem_of_getElem? (i := 30) rfl)
theorem vt_951 : (.selects "FamilyKernel$Typer" ⟨"FamilyKernel$Typer", "openBody", "(I)I"⟩ ⟨"FamilyKernel$Typer", "openBody", "(I)I"⟩ : Cond) ∈ vT := inR_23 _ (List.mem_of_getElem? (i := 31) rfl)
theorem vt_952 : (.code ⟨"FamilyKernel$Typer", "openBody", "(I)I"⟩ prog_12_method_11_code 3 (some .int) : Cond) ∈ vT := inR_23 _ (List.mem_of_getElem? (i := 32) rfl)
theorem vt_953 : (.methodLink "FamilyKernel$Typer" 109 ⟨"FamilyKernel$Frames", "newVariable", "(I)I"⟩ : Cond) ∈ vT := inR_23 _ (List.mem_of_getElem? (i := 33) rfl)
theorem vt_954 : (.methodLink "FamilyKernel$Typer" 115 ⟨"FamilyKernel$Frames", "dropVariable", "()I"⟩ : Cond) ∈ vT := inR_23 _ (List.mem_of_getElem? (i := 34) rfl)
theorem vt_955 : (.methodLink "FamilyKernel$Typer" 118 ⟨"java/lang/Math", "max", "(II)I"⟩ : Cond) ∈ vT := inR_23 _ (List.mem_of_getElem? (i := 35) rfl)
theorem vt_956 : (.methodLink "FamilyKernel$Typer" 123 ⟨"FamilyKernel$Typer", "checkWithin", "(III)V"⟩ : Cond) ∈ vT := inR_23 _ (List.mem_of_getElem? (i := 36) rfl)
theorem vt_957 : (.instanceMethod ⟨"FamilyKernel$Typer", "checkWithin", "(III)V"⟩ : Cond) ∈ vT := inR_23 _ (List.mem_of_getElem? (i := 37) rfl)
theorem vt_958 : (.selects "FamilyKernel$Typer" ⟨"FamilyKernel$Typer", "checkWithin", "(III)V"⟩ ⟨"FamilyKernel$Typer", "checkWithin", "(III)V"⟩ : Cond) ∈ vT := inR_23 _ (List.mem_of_getElem? (i := 38) rfl)
theorem vt_959 : (.code ⟨"FamilyKernel$Typer", "checkWithin", "(III)V"⟩ prog_12_method_7_code 5 none : Cond) ∈ vT := inR_23 _ (List.mem_of_getElem? (i := 39) rfl)
theorem vt_960 : (.methodLink "FamilyKernel$Typer" 127 ⟨"FamilyKernel$Typer", "askFunction", "(I)V"⟩ : Cond) ∈ vT := inR_24 _ (List.mem_of_getElem? (i := 0) rfl)
theorem vt_961 : (.instanceMethod ⟨"FamilyKernel$Typer", "askFunction", "(I)V"⟩ : Cond) ∈ vT := inR_24 _ (List.mem_of_getElem? (i := 1) rfl)
theorem vt_962 : (.selects "FamilyKernel$Typer" ⟨"FamilyKernel$Typer", "askFunction", "(I)V"⟩ ⟨"FamilyKernel$Typer", "askFunction", "(I)V"⟩ : Cond) ∈ vT := inR_24 _ (List.mem_of_getElem? (i := 2) rfl)
theorem vt_963 : (.code ⟨"FamilyKernel$Typer", "askFunction", "(I)V"⟩ prog_12_method_19_code 2 none : Cond) ∈ vT := inR_24 _ (List.mem_of_getElem? (i := 3) rfl)
theorem vt_964 : (.methodLink "FamilyKernel$Typer" 130 ⟨"FamilyKernel$Typer", "nextArgument", "()I"⟩ : Cond) ∈ vT := inR_24 _ (List.mem_of_getElem? (i := 4) rfl)
theorem vt_965 : (.instanceMethod ⟨"FamilyKernel$Typer", "nextArgument", "()I"⟩ : Cond) ∈ vT := inR_24 _ (List.mem_of_getElem? (i := 5) rfl)
theorem vt_966 : (.selects "FamilyKernel$Typer" ⟨"FamilyKernel$Typer", "nextArgument", "()I"⟩ ⟨"FamilyKernel$Typer", "nextArgument", "()I"⟩ : Cond) ∈ vT := inR_24 _ (List.mem_of_getElem? (i := 6) rfl)
theorem vt_967 : (.code ⟨"FamilyKernel$Typer", "nextArgument", "()I"⟩ prog_12_method_21_code 1 (some .int) : Cond) ∈ vT := inR_24 _ (List.mem_of_getElem? (i := 7) rfl)
theorem vt_968 : (.methodLink "FamilyKernel$Typer" 133 ⟨"FamilyKernel$Terms", "fromLast", "(II)I"⟩ : Cond) ∈ vT := inR_24 _ (List.mem_of_getElem? (i := 8) rfl)
theorem vt_969 : (.methodLink "FamilyKernel$Typer" 136 ⟨"FamilyKernel$Frames", "pop", "()V"⟩ : Cond) ∈ vT := inR_24 _ (List.mem_of_getElem? (i := 9) rfl)
theorem vt_970 : (.methodLink "FamilyKernel$Families" 53 ⟨"FamilyKernel$Parser", "declared", "()I"⟩ : Cond) ∈ vT := inR_24 _ (List.mem_of_getElem? (i := 10) rfl)
theorem vt_971 : (.instanceMethod ⟨"FamilyKernel$Parser", "declared", "()I"⟩ : Cond) ∈ vT := inR_24 _ (List.mem_of_getElem? (i := 11) rfl)
theorem vt_972 : (.selects "FamilyKernel$Parser" ⟨"FamilyKernel$Parser", "declared", "()I"⟩ ⟨"FamilyKernel$Parser", "declared", "()I"⟩ : Cond) ∈ vT := inR_24 _ (List.mem_of_getElem? (i := 12) rfl)
theorem vt_973 : (.code ⟨"FamilyKernel$Parser", "declared", "()I"⟩ prog_7_method_3_code 1 (some .int) : Cond) ∈ vT := inR_24 _ (List.mem_of_getElem? (i := 13) rfl)
theorem vt_974 : (.fieldLink "FamilyKernel$Families" 59 "FamilyKernel$Families" "family" "I" : Cond) ∈ vT := inR_24 _ (List.mem_of_getElem? (i := 14) rfl)
theorem vt_975 : (.methodLink "FamilyKernel$Families" 63 ⟨"FamilyKernel$Parser", "parameters", "()I"⟩ : Cond) ∈ vT := inR_24 _ (List.mem_of_getElem? (i := 15) rfl)
theorem vt_976 : (.instanceMethod ⟨"FamilyKernel$Parser", "parameters", "()I"⟩ : Cond) ∈ vT := inR_24 _ (List.mem_of_getElem? (i := 16) rfl)
theorem vt_977 : (.selects "FamilyKernel$Parser" ⟨"FamilyKernel$Parser", "parameters", "()I"⟩ ⟨"FamilyKernel$Parser", "parameters", "()I"⟩ : Cond) ∈ vT := inR_24 _ (List.mem_of_getElem? (i := 17) rfl)
theorem vt_978 : (.code ⟨"FamilyKernel$Parser", "parameters", "()I"⟩ prog_7_method_7_code 1 (some .int) : Cond) ∈ vT := inR_24 _ (List.mem_of_getElem? (i := 18) rfl)
theorem vt_979 : (.fieldLink "FamilyKernel$Families" 66 "FamilyKernel$Families" "parameters" "I" : Cond) ∈ vT := inR_24 _ (List.mem_of_getElem? (i := 19) rfl)
theorem vt_980 : (.methodLink "FamilyKernel$Families" 68 ⟨"FamilyKernel$Environment", "length", "()I"⟩ : Cond) ∈ vT := inR_24 _ (List.mem_of_getElem? (i := 20) rfl)
theorem vt_981 : (.fieldLink "FamilyKernel$Families" 73 "FamilyKernel$Families" "members" "I" : Cond) ∈ vT := inR_24 _ (List.mem_of_getElem? (i := 21) rfl)
theorem vt_982 : (.fieldLink "FamilyKernel$Families" 76 "FamilyKernel$Families" "indices" "I" : Cond) ∈ vT := inR_24 _ (List.mem_of_getElem? (i := 22) rfl)
theorem vt_983 : (.fieldLink "FamilyKernel$Families" 79 "FamilyKernel$Families" "at" "I" : Cond) ∈ vT := inR_24 _ (List.mem_of_getElem? (i := 23) rfl)
theorem vt_984 : (.methodLink "FamilyKernel$Families" 82 ⟨"FamilyKernel$Parser", "type", "()I"⟩ : Cond) ∈ vT := inR_24 _ (List.mem_of_getElem? (i := 24) rfl)
theorem vt_985 : (.methodLink "FamilyKernel$Families" 85 ⟨"FamilyKernel$Terms", "kind", "(I)I"⟩ : Cond) ∈ vT := inR_24 _ (List.mem_of_getElem? (i := 25) rfl)
theorem vt_986 : (.methodLink "FamilyKernel$Families" 91 ⟨"FamilyKernel$Terms", "right", "(I)I"⟩ : Cond) ∈ vT := inR_24 _ (List.mem_of_getElem? (i := 26) rfl)
theorem vt_987 : (.methodLink "FamilyKernel$Families" 94 ⟨"FamilyKernel$Meter", "fail", "(I)V"⟩ : Cond) ∈ vT := inR_24 _ (List.mem_of_getElem? (i := 27) rfl)
theorem vt_988 : (.methodLink "FamilyKernel$Families" 100 ⟨"FamilyKernel$Terms", "left", "(I)I"⟩ : Cond) ∈ vT := inR_24 _ (List.mem_of_getElem? (i := 28) rfl)
theorem vt_989 : (.fieldLink "FamilyKernel$Families" 103 "FamilyKernel$Families" "sort" "I" : Cond) ∈ vT := inR_24 _ (List.mem_of_getElem? (i := 29) rfl)
theorem vt_990 : (.methodLink "FamilyKernel$Families" 106 ⟨"FamilyKernel$Environment", "fix", "(III)V"⟩ : Cond) ∈ vT := inR_24 _ (List.mem_of_getElem? (i := 30) rfl)
theorem vt_991 : (.methodLink "FamilyKernel$Families" 110 ⟨"FamilyKernel$Environment", "fact", "(II)I"⟩ : Cond) ∈ vT := inR_24 _ (List.mem_of_getElem? (i := 31) rfl)
theorem vt_992 : (.methodLink "FamilyKernel$Families" 114 ⟨"FamilyKernel$Families", "sortOf", "(II)V"⟩ : Cond) ∈ vT := inR_24 _ (List.mem_of_getElem? (i := 32) rfl)
theorem vt_993 : (.instanceMethod ⟨"FamilyKernel$Families", "sortOf", "(II)V"⟩ : Cond) ∈ vT := inR_24 _ (List.mem_of_getElem? (i := 33) rfl)
theorem vt_994 : (.selects "FamilyKernel$Families" ⟨"FamilyKernel$Families", "sortOf", "(II)V"⟩ ⟨"FamilyKernel$Families", "sortOf", "(II)V"⟩ : Cond) ∈ vT := inR_24 _ (List.mem_of_getElem? (i := 34) rfl)
theorem vt_995 : (.code ⟨"FamilyKernel$Families", "sortOf", "(II)V"⟩ prog_3_method_3_code 3 none : Cond) ∈ vT := inR_24 _ (List.mem_of_getElem? (i := 35) rfl)
theorem vt_996 : (.methodLink "FamilyKernel$Families" 119 ⟨"FamilyKernel$Frames", "set", "(II)V"⟩ : Cond) ∈ vT := inR_24 _ (List.mem_of_getElem? (i := 36) rfl)
theorem vt_997 : (.methodLink "FamilyKernel$Families" 122 ⟨"FamilyKernel$Frames", "push", "(IIII)V"⟩ : Cond) ∈ vT := inR_24 _ (List.mem_of_getElem? (i := 37) rfl)
theorem vt_998 : (.methodLink "FamilyKernel$Families" 126 ⟨"FamilyKernel$Frames", "pop", "()V"⟩ : Cond) ∈ vT := inR_24 _ (List.mem_of_getElem? (i := 38) rfl)
theorem vt_999 : (.methodLink "FamilyKernel$Families" 129 ⟨"FamilyKernel$Frames", "dropVariables", "()V"⟩ : Cond) ∈ vT := inR_24 _ (List.mem_of_getElem? (i := 39) rfl)
theorem vt_1000 : (.instanceMethod ⟨"FamilyKernel$Frames", "dropVariables", "()V"⟩ : Cond) ∈ vT := inR_25 _ (List.mem_of_getElem? (i := 0) rfl)
theorem vt_1001 : (.selects "FamilyKernel$Frames" ⟨"FamilyKernel$Frames", "dropVariables", "()V"⟩ ⟨"FamilyKernel$Frames", "dropVariables", "()V"⟩ : Cond) ∈ vT := inR_25 _ (List.mem_of_getElem? (i := 1) rfl)
theorem vt_1002 : (.code ⟨"FamilyKernel$Frames", "dropVariables", "()V"⟩ prog_4_method_12_code 1 none : Cond) ∈ vT := inR_25 _ (List.mem_of_getElem? (i := 2) rfl)
theorem vt_1003 : (.methodLink "FamilyKernel$Families" 132 ⟨"FamilyKernel$Parser", "parameterType", "(I)I"⟩ : Cond) ∈ vT := inR_25 _ (List.mem_of_getElem? (i := 3) rfl)
theorem vt_1004 : (.instanceMethod ⟨"FamilyKernel$Parser", "parameterType", "(I)I"⟩ : Cond) ∈ vT := inR_25 _ (List.mem_of_getElem? (i := 4) rfl)
theorem vt_1005 : (.selects "FamilyKernel$Parser" ⟨"FamilyKernel$Parser", "parameterType", "(I)I"⟩ ⟨"FamilyKernel$Parser", "parameterType", "(I)I"⟩ : Cond) ∈ vT := inR_25 _ (List.mem_of_getElem? (i := 5) rfl)
theorem vt_1006 : (.code ⟨"FamilyKernel$Parser", "parameterType", "(I)I"⟩ prog_7_method_8_code 2 (some .int) : Cond) ∈ vT := inR_25 _ (List.mem_of_getElem? (i := 6) rfl)
theorem vt_1007 : (.methodLink "FamilyKernel$Families" 135 ⟨"FamilyKernel$Terms", "rewrite", "(III)I"⟩ : Cond) ∈ vT := inR_25 _ (List.mem_of_getElem? (i := 7) rfl)
theorem vt_1008 : (.methodLink "FamilyKernel$Families" 139 ⟨"FamilyKernel$Frames", "newVariable", "(I)I"⟩ : Cond) ∈ vT := inR_25 _ (List.mem_of_getElem? (i := 8) rfl)
theorem vt_1009 : (.methodLink "FamilyKernel$Families" 142 ⟨"FamilyKernel$Row", "cut", "(I)V"⟩ : Cond) ∈ vT := inR_25 _ (List.mem_of_getElem? (i := 9) rfl)
theorem vt_1010 : (.methodLink "FamilyKernel$Families" 145 ⟨"FamilyKernel$Families", "memberTerm", "(I)I"⟩ : Cond) ∈ vT := inR_25 _ (List.mem_of_getElem? (i := 10) rfl)
theorem vt_1011 : (.instanceMethod ⟨"FamilyKernel$Families", "memberTerm", "(I)I"⟩ : Cond) ∈ vT := inR_25 _ (List.mem_of_getElem? (i := 11) rfl)
theorem vt_1012 : (.selects "FamilyKernel$Families" ⟨"FamilyKernel$Families", "memberTerm", "(I)I"⟩ ⟨"FamilyKernel$Families", "memberTerm", "(I)I"⟩ : Cond) ∈ vT := inR_25 _ (List.mem_of_getElem? (i := 12) rfl)
theorem vt_1013 : (.code ⟨"FamilyKernel$Families", "memberTerm", "(I)I"⟩ prog_3_method_5_code 2 (some .int) : Cond) ∈ vT := inR_25 _ (List.mem_of_getElem? (i := 13) rfl)
theorem vt_1014 : (.fieldLink "FamilyKernel$Families" 148 "FamilyKernel$Families" "rest" "I" : Cond) ∈ vT := inR_25 _ (List.mem_of_getElem? (i := 14) rfl)
theorem vt_1015 : (.methodLink "FamilyKernel$Families" 151 ⟨"FamilyKernel$Families", "endsInFamily", "(I)Z"⟩ : Cond) ∈ vT := inR_25 _ (List.mem_of_getElem? (i := 15) rfl)
theorem vt_1016 : (.instanceMethod ⟨"FamilyKernel$Families", "endsInFamily", "(I)Z"⟩ : Cond) ∈ vT := inR_25 _ (List.mem_of_getElem? (i := 16) rfl)
theorem vt_1017 : (.selects "FamilyKernel$Families" ⟨"FamilyKernel$Families", "endsInFamily", "(I)Z"⟩ ⟨"FamilyKernel$Families", "endsInFamily", "(I)Z"⟩ : Cond) ∈ vT := inR_25 _ (List.mem_of_getElem? (i := 17) rfl)
theorem vt_1018 : (.code ⟨"FamilyKernel$Families", "endsInFamily", "(I)Z"⟩ prog_3_method_11_code 7 (some .boolean) : Cond) ∈ vT := inR_25 _ (List.mem_of_getElem? (i := 18) rfl)
theorem vt_1019 : (.methodLink "FamilyKernel$Families" 155 ⟨"FamilyKernel$Families", "constantAt", "()I"⟩ : Cond) ∈ vT := inR_25 _ (List.mem_of_getElem? (i := 19) rfl)
theorem vt_1020 : (.instanceMethod ⟨"FamilyKernel$Families", "constantAt", "()I"⟩ : Cond) ∈ vT := inR_25 _ (List.mem_of_getElem? (i := 20) rfl)
theorem vt_1021 : (.selects "FamilyKernel$Families" ⟨"FamilyKernel$Families", "constantAt", "()I"⟩ ⟨"FamilyKernel$Families", "constantAt", "()I"⟩ : Cond) ∈ vT := inR_25 _ (List.mem_of_getElem? (i := 21) rfl)
theorem vt_1022 : (.code ⟨"FamilyKernel$Families", "constantAt", "()I"⟩ prog_3_method_4_code 1 (some .int) : Cond) ∈ vT := inR_25 _ (List.mem_of_getElem? (i := 22) rfl)
theorem vt_1023 : (.methodLink "FamilyKernel$Families" 158 ⟨"FamilyKernel$Row", "size", "()I"⟩ : Cond) ∈ vT := inR_25 _ (List.mem_of_getElem? (i := 23) rfl)
theorem vt_1024 : (.methodLink "FamilyKernel$Families" 161 ⟨"FamilyKernel$Families", "isDetermined", "()Z"⟩ : Cond) ∈ vT := inR_25 _ (List.mem_of_getElem? (i := 24) rfl)
theorem vt_1025 : (.instanceMethod ⟨"FamilyKernel$Families", "isDetermined", "()Z"⟩ : Cond) ∈ vT := inR_25 _ (List.mem_of_getElem? (i := 25) rfl)
theorem vt_1026 : (.selects "FamilyKernel$Families" ⟨"FamilyKernel$Families", "isDetermined", "()Z"⟩ ⟨"FamilyKernel$Families", "isDetermined", "()Z"⟩ : Cond) ∈ vT := inR_25 _ (List.mem_of_getElem? (i := 26) rfl)
theorem vt_1027 : (.code ⟨"FamilyKernel$Families", "isDetermined", "()Z"⟩ prog_3_method_12_code 2 (some .boolean) : Cond) ∈ vT := inR_25 _ (List.mem_of_getElem? (i := 27) rfl)
theorem vt_1028 : (.methodLink "FamilyKernel$Families" 165 ⟨"FamilyKernel$Parser", "overParameters", "(I)I"⟩ : Cond) ∈ vT := inR_25 _ (List.mem_of_getElem? (i := 28) rfl)
theorem vt_1029 : (.methodLink "FamilyKernel$Families" 183 ⟨"FamilyKernel$Terms", "head", "(I)I"⟩ : Cond) ∈ vT := inR_25 _ (List.mem_of_getElem? (i := 29) rfl)
theorem vt_1030 : (.methodLink "FamilyKernel$Families" 186 ⟨"FamilyKernel$Terms", "behind", "(I)I"⟩ : Cond) ∈ vT := inR_25 _ (List.mem_of_getElem? (i := 30) rfl)
theorem vt_1031 : (.methodLink "FamilyKernel$Families" 189 ⟨"FamilyKernel$Terms", "fromLast", "(II)I"⟩ : Cond) ∈ vT := inR_25 _ (List.mem_of_getElem? (i := 31) rfl)
theorem vt_1032 : (.methodLink "FamilyKernel$Families" 171 ⟨"FamilyKernel$Terms", "has", "(III)Z"⟩ : Cond) ∈ vT := inR_25 _ (List.mem_of_getElem? (i := 32) rfl)
theorem vt_1033 : (.instanceMethod ⟨"FamilyKernel$Terms", "has", "(III)Z"⟩ : Cond) ∈ vT := inR_25 _ (List.mem_of_getElem? (i := 33) rfl)
theorem vt_1034 : (.selects "FamilyKernel$Terms" ⟨"FamilyKernel$Terms", "has", "(III)Z"⟩ ⟨"FamilyKernel$Terms", "has", "(III)Z"⟩ : Cond) ∈ vT := inR_25 _ (List.mem_of_getElem? (i := 34) rfl)
theorem vt_1035 : (.code ⟨"FamilyKernel$Terms", "has", "(III)Z"⟩ prog_11_method_22_code 8 (some .boolean) : Cond) ∈ vT := inR_25 _ (List.mem_of_getElem? (i := 35) rfl)
theorem vt_1036 : (.methodLink "FamilyKernel$Families" 192 ⟨"FamilyKernel$Row", "at", "(I)I"⟩ : Cond) ∈ vT := inR_25 _ (List.mem_of_getElem? (i := 36) rfl)
theorem vt_1037 : (.methodLink "FamilyKernel$Families" 180 ⟨"FamilyKernel$Terms", "make", "(III)I"⟩ : Cond) ∈ vT := inR_25 _ (List.mem_of_getElem? (i := 37) rfl)
theorem vt_1038 : (.methodLink "FamilyKernel$Families" 194 ⟨"FamilyKernel$Families", "isIndex", "(I)Z"⟩ : Cond) ∈ vT := inR_25 _ (List.mem_of_getElem? (i := 38) rfl)
theorem vt_1039 : (.instanceMethod ⟨"FamilyKernel$Families", "isIndex", "(I)Z"⟩ : Cond) ∈ vT := inR_25 _ (List.mem_of_getElem? (i := 39) rfl)
theorem vt_1040 : (.selects "FamilyKernel$Families" ⟨"FamilyKernel$Families", "isIndex", "(I)Z"⟩ ⟨"FamilyKernel$Families", "isIndex", "(I)Z"⟩ : Cond) ∈ vT := inR_26 _ (List.mem_of_getElem? (i := 0) rfl)
theorem vt_1041 : (.code ⟨"FamilyKernel$Families", "isIndex", "(I)Z"⟩ prog_3_method_13_code 3 (some .boolean) : Cond) ∈ vT := inR_26 _ (List.mem_of_getElem? (i := 1) rfl)
theorem vt_1042 : (.methodLink "FamilyKernel$Families" 168 ⟨"FamilyKernel$Frames", "result", "()I"⟩ : Cond) ∈ vT := inR_26 _ (List.mem_of_getElem? (i := 2) rfl)
theorem vt_1043 : (.methodLink "FamilyKernel$Families" 175 ⟨"FamilyKernel$Families", "isRecursive", "(I)Z"⟩ : Cond) ∈ vT := inR_26 _ (List.mem_of_getElem? (i := 3) rfl)
theorem vt_1044 : (.instanceMethod ⟨"FamilyKernel$Families", "isRecursive", "(I)Z"⟩ : Cond) ∈ vT := inR_26 _ (List.mem_of_getElem? (i := 4) rfl)
theorem vt_1045 : (.selects "FamilyKernel$Families" ⟨"FamilyKernel$Families", "isRecursive", "(I)Z"⟩ ⟨"FamilyKernel$Families", "isRecursive", "(I)Z"⟩ : Cond) ∈ vT := inR_26 _ (List.mem_of_getElem? (i := 5) rfl)
theorem vt_1046 : (.code ⟨"FamilyKernel$Families", "isRecursive", "(I)Z"⟩ prog_3_method_10_code 4 (some .boolean) : Cond) ∈ vT := inR_26 _ (List.mem_of_getElem? (i := 6) rfl)
theorem vt_1047 : (.methodLink "FamilyKernel$Families" 178 ⟨"FamilyKernel$Row", "push", "(I)V"⟩ : Cond) ∈ vT := inR_26 _ (List.mem_of_getElem? (i := 7) rfl)
theorem vt_1048 : (.methodLink "FamilyKernel$Families" 197 ⟨"FamilyKernel$Families", "payOpenings", "()V"⟩ : Cond) ∈ vT := inR_26 _ (List.mem_of_getElem? (i := 8) rfl)
theorem vt_1049 : (.instanceMethod ⟨"FamilyKernel$Families", "payOpenings", "()V"⟩ : Cond) ∈ vT := inR_26 _ (List.mem_of_getElem? (i := 9) rfl)
theorem vt_1050 : (.selects "FamilyKernel$Families" ⟨"FamilyKernel$Families", "payOpenings", "()V"⟩ ⟨"FamilyKernel$Families", "payOpenings", "()V"⟩ : Cond) ∈ vT := inR_26 _ (List.mem_of_getElem? (i := 10) rfl)
theorem vt_1051 : (.code ⟨"FamilyKernel$Families", "payOpenings", "()V"⟩ prog_3_method_15_code 4 none : Cond) ∈ vT := inR_26 _ (List.mem_of_getElem? (i := 11) rfl)
theorem vt_1052 : (.methodLink "FamilyKernel$Families" 200 ⟨"FamilyKernel$Parser", "nodes", "()I"⟩ : Cond) ∈ vT := inR_26 _ (List.mem_of_getElem? (i := 12) rfl)
theorem vt_1053 : (.instanceMethod ⟨"FamilyKernel$Parser", "nodes", "()I"⟩ : Cond) ∈ vT := inR_26 _ (List.mem_of_getElem? (i := 13) rfl)
theorem vt_1054 : (.selects "FamilyKernel$Parser" ⟨"FamilyKernel$Parser", "nodes", "()I"⟩ ⟨"FamilyKernel$Parser", "nodes", "()I"⟩ : Cond) ∈ vT := inR_26 _ (List.mem_of_getElem? (i := 14) rfl)
theorem vt_1055 : (.code ⟨"FamilyKernel$Parser", "nodes", "()I"⟩ prog_7_method_6_code 1 (some .int) : Cond) ∈ vT := inR_26 _ (List.mem_of_getElem? (i := 15) rfl)
theorem vt_1056 : (.methodLink "FamilyKernel$Families" 203 ⟨"FamilyKernel$Terms", "release", "(I)V"⟩ : Cond) ∈ vT := inR_26 _ (List.mem_of_getElem? (i := 16) rfl)
theorem vt_1057 : (.methodLink "FamilyKernel$Families" 206 ⟨"FamilyKernel$Families", "buildMotive", "()V"⟩ : Cond) ∈ vT := inR_26 _ (List.mem_of_getElem? (i := 17) rfl)
theorem vt_1058 : (.instanceMethod ⟨"FamilyKernel$Families", "buildMotive", "()V"⟩ : Cond) ∈ vT := inR_26 _ (List.mem_of_getElem? (i := 18) rfl)
theorem vt_1059 : (.selects "FamilyKernel$Families" ⟨"FamilyKernel$Families", "buildMotive", "()V"⟩ ⟨"FamilyKernel$Families", "buildMotive", "()V"⟩ : Cond) ∈ vT := inR_26 _ (List.mem_of_getElem? (i := 19) rfl)
theorem vt_1060 : (.code ⟨"FamilyKernel$Families", "buildMotive", "()V"⟩ prog_3_method_21_code 4 none : Cond) ∈ vT := inR_26 _ (List.mem_of_getElem? (i := 20) rfl)
theorem vt_1061 : (.methodLink "FamilyKernel$Families" 209 ⟨"FamilyKernel$Families", "minor", "(I)I"⟩ : Cond) ∈ vT := inR_26 _ (List.mem_of_getElem? (i := 21) rfl)
theorem vt_1062 : (.instanceMethod ⟨"FamilyKernel$Families", "minor", "(I)I"⟩ : Cond) ∈ vT := inR_26 _ (List.mem_of_getElem? (i := 22) rfl)
theorem vt_1063 : (.selects "FamilyKernel$Families" ⟨"FamilyKernel$Families", "minor", "(I)I"⟩ ⟨"FamilyKernel$Families", "minor", "(I)I"⟩ : Cond) ∈ vT := inR_26 _ (List.mem_of_getElem? (i := 23) rfl)
theorem vt_1064 : (.code ⟨"FamilyKernel$Families", "minor", "(I)I"⟩ prog_3_method_22_code 8 (some .int) : Cond) ∈ vT := inR_26 _ (List.mem_of_getElem? (i := 24) rfl)
theorem vt_1065 : (.methodLink "FamilyKernel$Families" 212 ⟨"FamilyKernel$Environment", "sizes", "()I"⟩ : Cond) ∈ vT := inR_26 _ (List.mem_of_getElem? (i := 25) rfl)
theorem vt_1066 : (.instanceMethod ⟨"FamilyKernel$Environment", "sizes", "()I"⟩ : Cond) ∈ vT := inR_26 _ (List.mem_of_getElem? (i := 26) rfl)
theorem vt_1067 : (.selects "FamilyKernel$Environment" ⟨"FamilyKernel$Environment", "sizes", "()I"⟩ ⟨"FamilyKernel$Environment", "sizes", "()I"⟩ : Cond) ∈ vT := inR_26 _ (List.mem_of_getElem? (i := 27) rfl)
theorem vt_1068 : (.code ⟨"FamilyKernel$Environment", "sizes", "()I"⟩ prog_2_method_3_code 1 (some .int) : Cond) ∈ vT := inR_26 _ (List.mem_of_getElem? (i := 28) rfl)
theorem vt_1069 : (.methodLink "FamilyKernel$Families" 215 ⟨"FamilyKernel$Terms", "size", "(I)I"⟩ : Cond) ∈ vT := inR_26 _ (List.mem_of_getElem? (i := 29) rfl)
theorem vt_1070 : (.methodLink "FamilyKernel$Families" 217 ⟨"FamilyKernel$Families", "recursorType", "()I"⟩ : Cond) ∈ vT := inR_26 _ (List.mem_of_getElem? (i := 30) rfl)
theorem vt_1071 : (.instanceMethod ⟨"FamilyKernel$Families", "recursorType", "()I"⟩ : Cond) ∈ vT := inR_26 _ (List.mem_of_getElem? (i := 31) rfl)
theorem vt_1072 : (.selects "FamilyKernel$Families" ⟨"FamilyKernel$Families", "recursorType", "()I"⟩ ⟨"FamilyKernel$Families", "recursorType", "()I"⟩ : Cond) ∈ vT := inR_26 _ (List.mem_of_getElem? (i := 32) rfl)
theorem vt_1073 : (.code ⟨"FamilyKernel$Families", "recursorType", "()I"⟩ prog_3_method_24_code 7 (some .int) : Cond) ∈ vT := inR_26 _ (List.mem_of_getElem? (i := 33) rfl)
theorem vt_1074 : (.methodLink "FamilyKernel$Families" 220 ⟨"FamilyKernel$Families", "rule", "(I)I"⟩ : Cond) ∈ vT := inR_26 _ (List.mem_of_getElem? (i := 34) rfl)
theorem vt_1075 : (.instanceMethod ⟨"FamilyKernel$Families", "rule", "(I)I"⟩ : Cond) ∈ vT := inR_26 _ (List.mem_of_getElem? (i := 35) rfl)
theorem vt_1076 : (.selects "FamilyKernel$Families" ⟨"FamilyKernel$Families", "rule", "(I)I"⟩ ⟨"FamilyKernel$Families", "rule", "(I)I"⟩ : Cond) ∈ vT := inR_26 _ (List.mem_of_getElem? (i := 36) rfl)
theorem vt_1077 : (.code ⟨"FamilyKernel$Families", "rule", "(I)I"⟩ prog_3_method_25_code 8 (some .int) : Cond) ∈ vT := inR_26 _ (List.mem_of_getElem? (i := 37) rfl)
theorem vt_1078 : (.methodLink "FamilyKernel$Families" 223 ⟨"FamilyKernel$Environment", "addSizes", "(I)V"⟩ : Cond) ∈ vT := inR_26 _ (List.mem_of_getElem? (i := 38) rfl)
theorem vt_1079 : (.instanceMethod ⟨"FamilyKernel$Environment", "addSizes", "(I)V"⟩ : Cond) ∈ vT := inR_26 _ (List.mem_of_getElem? (i := 39) rfl)
theorem vt_1080 : (.selects "FamilyKernel$Environment" ⟨"FamilyKernel$Environment", "addSizes", "(I)V"⟩ ⟨"FamilyKernel$Environment", "addSizes", "(I)V"⟩ : Cond) ∈ vT := inR_27 _ (List.mem_of_getElem? (i := 0) rfl)
theorem vt_1081 : (.code ⟨"FamilyKernel$Environment", "addSizes", "(I)V"⟩ prog_2_method_4_code 2 none : Cond) ∈ vT := inR_27 _ (List.mem_of_getElem? (i := 1) rfl)
theorem vt_1082 : (.methodLink "FamilyKernel$Families" 226 ⟨"FamilyKernel$Meter", "charge", "(I)V"⟩ : Cond) ∈ vT := inR_27 _ (List.mem_of_getElem? (i := 2) rfl)
theorem vt_1083 : (.methodLink "FamilyKernel$Families" 229 ⟨"FamilyKernel$Families", "split", "(ILFamilyKernel$Row;)I"⟩ : Cond) ∈ vT := inR_27 _ (List.mem_of_getElem? (i := 3) rfl)
theorem vt_1084 : (.instanceMethod ⟨"FamilyKernel$Families", "split", "(ILFamilyKernel$Row;)I"⟩ : Cond) ∈ vT := inR_27 _ (List.mem_of_getElem? (i := 4) rfl)
theorem vt_1085 : (.selects "FamilyKernel$Families" ⟨"FamilyKernel$Families", "split", "(ILFamilyKernel$Row;)I"⟩ ⟨"FamilyKernel$Families", "split", "(ILFamilyKernel$Row;)I"⟩ : Cond) ∈ vT := inR_27 _ (List.mem_of_getElem? (i := 5) rfl)
theorem vt_1086 : (.code ⟨"FamilyKernel$Families", "split", "(ILFamilyKernel$Row;)I"⟩ prog_3_method_20_code 5 (some .int) : Cond) ∈ vT := inR_27 _ (List.mem_of_getElem? (i := 6) rfl)
theorem vt_1087 : (.methodLink "FamilyKernel$Families" 233 ⟨"FamilyKernel$Families", "applied", "(IIII)I"⟩ : Cond) ∈ vT := inR_27 _ (List.mem_of_getElem? (i := 7) rfl)
theorem vt_1088 : (.instanceMethod ⟨"FamilyKernel$Families", "applied", "(IIII)I"⟩ : Cond) ∈ vT := inR_27 _ (List.mem_of_getElem? (i := 8) rfl)
theorem vt_1089 : (.selects "FamilyKernel$Families" ⟨"FamilyKernel$Families", "applied", "(IIII)I"⟩ ⟨"FamilyKernel$Families", "applied", "(IIII)I"⟩ : Cond) ∈ vT := inR_27 _ (List.mem_of_getElem? (i := 9) rfl)
theorem vt_1090 : (.code ⟨"FamilyKernel$Families", "applied", "(IIII)I"⟩ prog_3_method_17_code 8 (some .int) : Cond) ∈ vT := inR_27 _ (List.mem_of_getElem? (i := 10) rfl)
theorem vt_1091 : (.methodLink "FamilyKernel$Families" 237 ⟨"FamilyKernel$Families", "bound", "(ILFamilyKernel$Row;I)I"⟩ : Cond) ∈ vT := inR_27 _ (List.mem_of_getElem? (i := 11) rfl)
theorem vt_1092 : (.instanceMethod ⟨"FamilyKernel$Families", "bound", "(ILFamilyKernel$Row;I)I"⟩ : Cond) ∈ vT := inR_27 _ (List.mem_of_getElem? (i := 12) rfl)
theorem vt_1093 : (.selects "FamilyKernel$Families" ⟨"FamilyKernel$Families", "bound", "(ILFamilyKernel$Row;I)I"⟩ ⟨"FamilyKernel$Families", "bound", "(ILFamilyKernel$Row;I)I"⟩ : Cond) ∈ vT := inR_27 _ (List.mem_of_getElem? (i := 13) rfl)
theorem vt_1094 : (.code ⟨"FamilyKernel$Families", "bound", "(ILFamilyKernel$Row;I)I"⟩ prog_3_method_19_code 6 (some .int) : Cond) ∈ vT := inR_27 _ (List.mem_of_getElem? (i := 14) rfl)
theorem vt_1095 : (.fieldLink "FamilyKernel$Families" 241 "FamilyKernel$Families" "motive" "I" : Cond) ∈ vT := inR_27 _ (List.mem_of_getElem? (i := 15) rfl)
theorem vt_1096 : (.methodLink "FamilyKernel$Families" 244 ⟨"FamilyKernel$Families", "hypothesis", "(IIII)I"⟩ : Cond) ∈ vT := inR_27 _ (List.mem_of_getElem? (i := 16) rfl)
theorem vt_1097 : (.instanceMethod ⟨"FamilyKernel$Families", "hypothesis", "(IIII)I"⟩ : Cond) ∈ vT := inR_27 _ (List.mem_of_getElem? (i := 17) rfl)
theorem vt_1098 : (.selects "FamilyKernel$Families" ⟨"FamilyKernel$Families", "hypothesis", "(IIII)I"⟩ ⟨"FamilyKernel$Families", "hypothesis", "(IIII)I"⟩ : Cond) ∈ vT := inR_27 _ (List.mem_of_getElem? (i := 18) rfl)
theorem vt_1099 : (.code ⟨"FamilyKernel$Families", "hypothesis", "(IIII)I"⟩ prog_3_method_23_code 10 (some .int) : Cond) ∈ vT := inR_27 _ (List.mem_of_getElem? (i := 19) rfl)
theorem vt_1100 : (.methodLink "FamilyKernel$Families" 247 ⟨"FamilyKernel$Families", "variable", "(II)I"⟩ : Cond) ∈ vT := inR_27 _ (List.mem_of_getElem? (i := 20) rfl)
theorem vt_1101 : (.instanceMethod ⟨"FamilyKernel$Families", "variable", "(II)I"⟩ : Cond) ∈ vT := inR_27 _ (List.mem_of_getElem? (i := 21) rfl)
theorem vt_1102 : (.selects "FamilyKernel$Families" ⟨"FamilyKernel$Families", "variable", "(II)I"⟩ ⟨"FamilyKernel$Families", "variable", "(II)I"⟩ : Cond) ∈ vT := inR_27 _ (List.mem_of_getElem? (i := 22) rfl)
theorem vt_1103 : (.code ⟨"FamilyKernel$Families", "variable", "(II)I"⟩ prog_3_method_16_code 3 (some .int) : Cond) ∈ vT := inR_27 _ (List.mem_of_getElem? (i := 23) rfl)
theorem vt_1104 : (.methodLink "FamilyKernel$Families" 250 ⟨"FamilyKernel$Families", "withIndices", "(III)I"⟩ : Cond) ∈ vT := inR_27 _ (List.mem_of_getElem? (i := 24) rfl)
theorem vt_1105 : (.instanceMethod ⟨"FamilyKernel$Families", "withIndices", "(III)I"⟩ : Cond) ∈ vT := inR_27 _ (List.mem_of_getElem? (i := 25) rfl)
theorem vt_1106 : (.selects "FamilyKernel$Families" ⟨"FamilyKernel$Families", "withIndices", "(III)I"⟩ ⟨"FamilyKernel$Families", "withIndices", "(III)I"⟩ : Cond) ∈ vT := inR_27 _ (List.mem_of_getElem? (i := 26) rfl)
theorem vt_1107 : (.code ⟨"FamilyKernel$Families", "withIndices", "(III)I"⟩ prog_3_method_18_code 7 (some .int) : Cond) ∈ vT := inR_27 _ (List.mem_of_getElem? (i := 27) rfl)
theorem vt_1108 : (.fieldLink "FamilyKernel$Environment" 28 "FamilyKernel$Environment" "sizes" "I" : Cond) ∈ vT := inR_27 _ (List.mem_of_getElem? (i := 28) rfl)
theorem vt_1109 : (.methodLink "FamilyKernel" 302 ⟨"FamilyKernel$Frames", "result", "()I"⟩ : Cond) ∈ vT := inR_27 _ (List.mem_of_getElem? (i := 29) rfl)
theorem vt_1110 : (.methodLink "FamilyKernel" 305 ⟨"FamilyKernel$Printer", "print", "(II)V"⟩ : Cond) ∈ vT := inR_27 _ (List.mem_of_getElem? (i := 30) rfl)
theorem vt_1111 : (.instanceMethod ⟨"FamilyKernel$Printer", "print", "(II)V"⟩ : Cond) ∈ vT := inR_27 _ (List.mem_of_getElem? (i := 31) rfl)
theorem vt_1112 : (.selects "FamilyKernel$Printer" ⟨"FamilyKernel$Printer", "print", "(II)V"⟩ ⟨"FamilyKernel$Printer", "print", "(II)V"⟩ : Cond) ∈ vT := inR_27 _ (List.mem_of_getElem? (i := 32) rfl)
theorem vt_1113 : (.code ⟨"FamilyKernel$Printer", "print", "(II)V"⟩ prog_8_method_3_code 7 none : Cond) ∈ vT := inR_27 _ (List.mem_of_getElem? (i := 33) rfl)
theorem vt_1114 : (.methodLink "FamilyKernel" 308 ⟨"FamilyKernel$Parser", "declared", "()I"⟩ : Cond) ∈ vT := inR_27 _ (List.mem_of_getElem? (i := 34) rfl)
theorem vt_1115 : (.methodLink "FamilyKernel" 310 ⟨"FamilyKernel", "keepConstant", "()V"⟩ : Cond) ∈ vT := inR_27 _ (List.mem_of_getElem? (i := 35) rfl)
theorem vt_1116 : (.instanceMethod ⟨"FamilyKernel", "keepConstant", "()V"⟩ : Cond) ∈ vT := inR_27 _ (List.mem_of_getElem? (i := 36) rfl)
theorem vt_1117 : (.selects "FamilyKernel" ⟨"FamilyKernel", "keepConstant", "()V"⟩ ⟨"FamilyKernel", "keepConstant", "()V"⟩ : Cond) ∈ vT := inR_27 _ (List.mem_of_getElem? (i := 37) rfl)
theorem vt_1118 : (.code ⟨"FamilyKernel", "keepConstant", "()V"⟩ prog_1_method_8_code 4 none : Cond) ∈ vT := inR_27 _ (List.mem_of_getElem? (i := 38) rfl)
theorem vt_1119 : (.methodLink "FamilyKernel$Printer" 32 ⟨"FamilyKernel$Row", "cut", "(I)V"⟩ : Cond) ∈ vT := inR_27 _ (List.mem_of_getElem? (i := 39) rfl)
theorem vt_1120 : (.methodLink "FamilyKernel$Printer" 39 ⟨"FamilyKernel$Printer", "later", "(III)V"⟩ : Cond) ∈ vT := inR_28 _ (List.mem_of_getElem? (i := 0) rfl)
theorem vt_1121 : (.instanceMethod ⟨"FamilyKernel$Printer", "later", "(III)V"⟩ : Cond) ∈ vT := inR_28 _ (List.mem_of_getElem? (i := 1) rfl)
theorem vt_1122 : (.selects "FamilyKernel$Printer" ⟨"FamilyKernel$Printer", "later", "(III)V"⟩ ⟨"FamilyKernel$Printer", "later", "(III)V"⟩ : Cond) ∈ vT := inR_28 _ (List.mem_of_getElem? (i := 2) rfl)
theorem vt_1123 : (.code ⟨"FamilyKernel$Printer", "later", "(III)V"⟩ prog_8_method_4_code 4 none : Cond) ∈ vT := inR_28 _ (List.mem_of_getElem? (i := 3) rfl)
theorem vt_1124 : (.methodLink "FamilyKernel$Printer" 43 ⟨"FamilyKernel$Row", "size", "()I"⟩ : Cond) ∈ vT := inR_28 _ (List.mem_of_getElem? (i := 4) rfl)
theorem vt_1125 : (.methodLink "FamilyKernel$Printer" 47 ⟨"FamilyKernel$Row", "pop", "()I"⟩ : Cond) ∈ vT := inR_28 _ (List.mem_of_getElem? (i := 5) rfl)
theorem vt_1126 : (.methodLink "FamilyKernel$Printer" 50 ⟨"FamilyKernel$Printer", "piece", "(I)V"⟩ : Cond) ∈ vT := inR_28 _ (List.mem_of_getElem? (i := 6) rfl)
theorem vt_1127 : (.instanceMethod ⟨"FamilyKernel$Printer", "piece", "(I)V"⟩ : Cond) ∈ vT := inR_28 _ (List.mem_of_getElem? (i := 7) rfl)
theorem vt_1128 : (.selects "FamilyKernel$Printer" ⟨"FamilyKernel$Printer", "piece", "(I)V"⟩ ⟨"FamilyKernel$Printer", "piece", "(I)V"⟩ : Cond) ∈ vT := inR_28 _ (List.mem_of_getElem? (i := 8) rfl)
theorem vt_1129 : (.code ⟨"FamilyKernel$Printer", "piece", "(I)V"⟩ prog_8_method_10_code 2 none : Cond) ∈ vT := inR_28 _ (List.mem_of_getElem? (i := 9) rfl)
theorem vt_1130 : (.methodLink "FamilyKernel$Printer" 53 ⟨"FamilyKernel$Terms", "kind", "(I)I"⟩ : Cond) ∈ vT := inR_28 _ (List.mem_of_getElem? (i := 10) rfl)
theorem vt_1131 : (.methodLink "FamilyKernel$Printer" 59 ⟨"FamilyKernel$Printer", "needsBrackets", "(II)Z"⟩ : Cond) ∈ vT := inR_28 _ (List.mem_of_getElem? (i := 11) rfl)
theorem vt_1132 : (.static ⟨"FamilyKernel$Printer", "needsBrackets", "(II)Z"⟩ : Cond) ∈ vT := inR_28 _ (List.mem_of_getElem? (i := 12) rfl)
theorem vt_1133 : (.code ⟨"FamilyKernel$Printer", "needsBrackets", "(II)Z"⟩ prog_8_method_5_code 2 (some .boolean) : Cond) ∈ vT := inR_28 _ (List.mem_of_getElem? (i := 13) rfl)
theorem vt_1134 : (.methodLink "FamilyKernel$Printer" 63 ⟨"FamilyKernel$Row", "push", "(I)V"⟩ : Cond) ∈ vT := inR_28 _ (List.mem_of_getElem? (i := 14) rfl)
theorem vt_1135 : (.methodLink "FamilyKernel$Printer" 66 ⟨"FamilyKernel$Printer", "write", "(III)V"⟩ : Cond) ∈ vT := inR_28 _ (List.mem_of_getElem? (i := 15) rfl)
theorem vt_1136 : (.instanceMethod ⟨"FamilyKernel$Printer", "write", "(III)V"⟩ : Cond) ∈ vT := inR_28 _ (List.mem_of_getElem? (i := 16) rfl)
theorem vt_1137 : (.selects "FamilyKernel$Printer" ⟨"FamilyKernel$Printer", "write", "(III)V"⟩ ⟨"FamilyKernel$Printer", "write", "(III)V"⟩ : Cond) ∈ vT := inR_28 _ (List.mem_of_getElem? (i := 17) rfl)
theorem vt_1138 : (.code ⟨"FamilyKernel$Printer", "write", "(III)V"⟩ prog_8_method_11_code 5 none : Cond) ∈ vT := inR_28 _ (List.mem_of_getElem? (i := 18) rfl)
theorem vt_1139 : (.methodLink "FamilyKernel$Printer" 89 ⟨"FamilyKernel$Printer", "text", "(Ljava/lang/String;)V"⟩ : Cond) ∈ vT := inR_28 _ (List.mem_of_getElem? (i := 19) rfl)
theorem vt_1140 : (.instanceMethod ⟨"FamilyKernel$Printer", "text", "(Ljava/lang/String;)V"⟩ : Cond) ∈ vT := inR_28 _ (List.mem_of_getElem? (i := 20) rfl)
theorem vt_1141 : (.selects "FamilyKernel$Printer" ⟨"FamilyKernel$Printer", "text", "(Ljava/lang/String;)V"⟩ ⟨"FamilyKernel$Printer", "text", "(Ljava/lang/String;)V"⟩ : Cond) ∈ vT := inR_28 _ (List.mem_of_getElem? (i := 21) rfl)
theorem vt_1142 : (.code ⟨"FamilyKernel$Printer", "text", "(Ljava/lang/String;)V"⟩ prog_8_method_6_code 3 none : Cond) ∈ vT := inR_28 _ (List.mem_of_getElem? (i := 22) rfl)
theorem vt_1143 : (.methodLink "FamilyKernel$Printer" 69 ⟨"java/lang/String", "length", "()I"⟩ : Cond) ∈ vT := inR_28 _ (List.mem_of_getElem? (i := 23) rfl)
theorem vt_1144 : (.methodLink "FamilyKernel$Printer" 74 ⟨"java/lang/String", "charAt", "(I)C"⟩ : Cond) ∈ vT := inR_28 _ (List.mem_of_getElem? (i := 24) rfl)
theorem vt_1145 : (.methodLink "FamilyKernel$Printer" 112 ⟨"FamilyKernel$Terms", "left", "(I)I"⟩ : Cond) ∈ vT := inR_28 _ (List.mem_of_getElem? (i := 25) rfl)
theorem vt_1146 : (.methodLink "FamilyKernel$Printer" 95 ⟨"FamilyKernel$Printer", "number", "(I)V"⟩ : Cond) ∈ vT := inR_28 _ (List.mem_of_getElem? (i := 26) rfl)
theorem vt_1147 : (.instanceMethod ⟨"FamilyKernel$Printer", "number", "(I)V"⟩ : Cond) ∈ vT := inR_28 _ (List.mem_of_getElem? (i := 27) rfl)
theorem vt_1148 : (.selects "FamilyKernel$Printer" ⟨"FamilyKernel$Printer", "number", "(I)V"⟩ ⟨"FamilyKernel$Printer", "number", "(I)V"⟩ : Cond) ∈ vT := inR_28 _ (List.mem_of_getElem? (i := 28) rfl)
theorem vt_1149 : (.code ⟨"FamilyKernel$Printer", "number", "(I)V"⟩ prog_8_method_7_code 3 none : Cond) ∈ vT := inR_28 _ (List.mem_of_getElem? (i := 29) rfl)
theorem vt_1150 : (.methodLink "FamilyKernel$Printer" 115 ⟨"FamilyKernel$Printer", "sort", "(I)V"⟩ : Cond) ∈ vT := inR_28 _ (List.mem_of_getElem? (i := 30) rfl)
theorem vt_1151 : (.instanceMethod ⟨"FamilyKernel$Printer", "sort", "(I)V"⟩ : Cond) ∈ vT := inR_28 _ (List.mem_of_getElem? (i := 31) rfl)
theorem vt_1152 : (.selects "FamilyKernel$Printer" ⟨"FamilyKernel$Printer", "sort", "(I)V"⟩ ⟨"FamilyKernel$Printer", "sort", "(I)V"⟩ : Cond) ∈ vT := inR_28 _ (List.mem_of_getElem? (i := 32) rfl)
theorem vt_1153 : (.code ⟨"FamilyKernel$Printer", "sort", "(I)V"⟩ prog_8_method_9_code 2 none : Cond) ∈ vT := inR_28 _ (List.mem_of_getElem? (i := 33) rfl)
theorem vt_1154 : (.methodLink "FamilyKernel$Printer" 36 ⟨"FamilyKernel$Printer", "name", "(I)V"⟩ : Cond) ∈ vT := inR_28 _ (List.mem_of_getElem? (i := 34) rfl)
theorem vt_1155 : (.instanceMethod ⟨"FamilyKernel$Printer", "name", "(I)V"⟩ : Cond) ∈ vT := inR_28 _ (List.mem_of_getElem? (i := 35) rfl)
theorem vt_1156 : (.selects "FamilyKernel$Printer" ⟨"FamilyKernel$Printer", "name", "(I)V"⟩ ⟨"FamilyKernel$Printer", "name", "(I)V"⟩ : Cond) ∈ vT := inR_28 _ (List.mem_of_getElem? (i := 36) rfl)
theorem vt_1157 : (.code ⟨"FamilyKernel$Printer", "name", "(I)V"⟩ prog_8_method_8_code 3 none : Cond) ∈ vT := inR_28 _ (List.mem_of_getElem? (i := 37) rfl)
theorem vt_1158 : (.methodLink "FamilyKernel$Printer" 120 ⟨"FamilyKernel$Terms", "right", "(I)I"⟩ : Cond) ∈ vT := inR_28 _ (List.mem_of_getElem? (i := 38) rfl)
theorem vt_1159 : (.methodLink "FamilyKernel$Printer" 123 ⟨"FamilyKernel$Printer", "writeLet", "(II)V"⟩ : Cond) ∈ vT := inR_28 _ (List.mem_of_getElem? (i := 39) rfl)
theorem vt_1160 : (.instanceMethod ⟨"FamilyKernel$Printer", "writeLet", "(II)V"⟩ : Cond) ∈ vT := inR_29 _ (List.mem_of_getElem? (i := 0) rfl)
theorem vt_1161 : (.selects "FamilyKernel$Printer" ⟨"FamilyKernel$Printer", "writeLet", "(II)V"⟩ ⟨"FamilyKernel$Printer", "writeLet", "(II)V"⟩ : Cond) ∈ vT := inR_29 _ (List.mem_of_getElem? (i := 1) rfl)
theorem vt_1162 : (.code ⟨"FamilyKernel$Printer", "writeLet", "(II)V"⟩ prog_8_method_13_code 4 none : Cond) ∈ vT := inR_29 _ (List.mem_of_getElem? (i := 2) rfl)
theorem vt_1163 : (.methodLink "FamilyKernel$Printer" 126 ⟨"FamilyKernel$Printer", "writeBinder", "(II)V"⟩ : Cond) ∈ vT := inR_29 _ (List.mem_of_getElem? (i := 3) rfl)
theorem vt_1164 : (.instanceMethod ⟨"FamilyKernel$Printer", "writeBinder", "(II)V"⟩ : Cond) ∈ vT := inR_29 _ (List.mem_of_getElem? (i := 4) rfl)
theorem vt_1165 : (.selects "FamilyKernel$Printer" ⟨"FamilyKernel$Printer", "writeBinder", "(II)V"⟩ ⟨"FamilyKernel$Printer", "writeBinder", "(II)V"⟩ : Cond) ∈ vT := inR_29 _ (List.mem_of_getElem? (i := 5) rfl)
theorem vt_1166 : (.code ⟨"FamilyKernel$Printer", "writeBinder", "(II)V"⟩ prog_8_method_12_code 5 none : Cond) ∈ vT := inR_29 _ (List.mem_of_getElem? (i := 6) rfl)
theorem vt_1167 : (.methodLink "FamilyKernel$Printer" 78 ⟨"FamilyKernel$Environment", "nameLength", "(I)I"⟩ : Cond) ∈ vT := inR_29 _ (List.mem_of_getElem? (i := 7) rfl)
theorem vt_1168 : (.instanceMethod ⟨"FamilyKernel$Environment", "nameLength", "(I)I"⟩ : Cond) ∈ vT := inR_29 _ (List.mem_of_getElem? (i := 8) rfl)
theorem vt_1169 : (.selects "FamilyKernel$Environment" ⟨"FamilyKernel$Environment", "nameLength", "(I)I"⟩ ⟨"FamilyKernel$Environment", "nameLength", "(I)I"⟩ : Cond) ∈ vT := inR_29 _ (List.mem_of_getElem? (i := 9) rfl)
theorem vt_1170 : (.code ⟨"FamilyKernel$Environment", "nameLength", "(I)I"⟩ prog_2_method_11_code 2 (some .int) : Cond) ∈ vT := inR_29 _ (List.mem_of_getElem? (i := 10) rfl)
theorem vt_1171 : (.methodLink "FamilyKernel$Printer" 83 ⟨"FamilyKernel$Environment", "nameByte", "(II)I"⟩ : Cond) ∈ vT := inR_29 _ (List.mem_of_getElem? (i := 11) rfl)
theorem vt_1172 : (.instanceMethod ⟨"FamilyKernel$Environment", "nameByte", "(II)I"⟩ : Cond) ∈ vT := inR_29 _ (List.mem_of_getElem? (i := 12) rfl)
theorem vt_1173 : (.selects "FamilyKernel$Environment" ⟨"FamilyKernel$Environment", "nameByte", "(II)I"⟩ ⟨"FamilyKernel$Environment", "nameByte", "(II)I"⟩ : Cond) ∈ vT := inR_29 _ (List.mem_of_getElem? (i := 13) rfl)
theorem vt_1174 : (.code ⟨"FamilyKernel$Environment", "nameByte", "(II)I"⟩ prog_2_method_12_code 3 (some .int) : Cond) ∈ vT := inR_29 _ (List.mem_of_getElem? (i := 14) rfl)
theorem vt_1175 : (.methodLink "FamilyKernel$Environment" 74 ⟨"FamilyKernel$Lexer", "lengthOf", "(I)I"⟩ : Cond) ∈ vT := inR_29 _ (List.mem_of_getElem? (i := 15) rfl)
theorem vt_1176 : (.methodLink "FamilyKernel$Environment" 66 ⟨"FamilyKernel$Lexer", "startOf", "(I)I"⟩ : Cond) ∈ vT := inR_29 _ (List.mem_of_getElem? (i := 16) rfl)
theorem vt_1177 : (.methodLink "FamilyKernel$Printer" 129 ⟨"FamilyKernel$Terms", "has", "(III)Z"⟩ : Cond) ∈ vT := inR_29 _ (List.mem_of_getElem? (i := 17) rfl)
theorem vt_1178 : (.methodLink "FamilyKernel" 313 ⟨"FamilyKernel$Terms", "size", "(I)I"⟩ : Cond) ∈ vT := inR_29 _ (List.mem_of_getElem? (i := 18) rfl)
theorem vt_1179 : (.methodLink "FamilyKernel" 315 ⟨"FamilyKernel$Environment", "sizes", "()I"⟩ : Cond) ∈ vT := inR_29 _ (List.mem_of_getElem? (i := 19) rfl)
theorem vt_1180 : (.methodLink "FamilyKernel" 318 ⟨"FamilyKernel$Environment", "fix", "(III)V"⟩ : Cond) ∈ vT := inR_29 _ (List.mem_of_getElem? (i := 20) rfl)
theorem vt_1181 : (.methodLink "FamilyKernel" 321 ⟨"FamilyKernel$Environment", "addSizes", "(I)V"⟩ : Cond) ∈ vT := inR_29 _ (List.mem_of_getElem? (i := 21) rfl)
theorem vt_1182 : (.methodLink "FamilyKernel" 324 ⟨"FamilyKernel$Parser", "nodes", "()I"⟩ : Cond) ∈ vT := inR_29 _ (List.mem_of_getElem? (i := 22) rfl)
theorem vt_1183 : (.methodLink "FamilyKernel$Environment" 69 ⟨"FamilyKernel$Row", "cut", "(I)V"⟩ : Cond) ∈ vT := inR_29 _ (List.mem_of_getElem? (i := 23) rfl)
theorem vt_1184 : (.methodLink "FamilyKernel" 327 ⟨"FamilyKernel$Meter", "code", "()I"⟩ : Cond) ∈ vT := inR_29 _ (List.mem_of_getElem? (i := 24) rfl)
theorem vt_1185 : (.instanceMethod ⟨"FamilyKernel$Meter", "code", "()I"⟩ : Cond) ∈ vT := inR_29 _ (List.mem_of_getElem? (i := 25) rfl)
theorem vt_1186 : (.selects "FamilyKernel$Meter" ⟨"FamilyKernel$Meter", "code", "()I"⟩ ⟨"FamilyKernel$Meter", "code", "()I"⟩ : Cond) ∈ vT := inR_29 _ (List.mem_of_getElem? (i := 26) rfl)
theorem vt_1187 : (.code ⟨"FamilyKernel$Meter", "code", "()I"⟩ prog_6_method_5_code 1 (some .int) : Cond) ∈ vT := inR_29 _ (List.mem_of_getElem? (i := 27) rfl)
theorem vt_1188 : (.methodLink "FamilyKernel" 330 ⟨"FamilyKernel$Meter", "place", "()I"⟩ : Cond) ∈ vT := inR_29 _ (List.mem_of_getElem? (i := 28) rfl)
theorem vt_1189 : (.instanceMethod ⟨"FamilyKernel$Meter", "place", "()I"⟩ : Cond) ∈ vT := inR_29 _ (List.mem_of_getElem? (i := 29) rfl)
theorem vt_1190 : (.selects "FamilyKernel$Meter" ⟨"FamilyKernel$Meter", "place", "()I"⟩ ⟨"FamilyKernel$Meter", "place", "()I"⟩ : Cond) ∈ vT := inR_29 _ (List.mem_of_getElem? (i := 30) rfl)
theorem vt_1191 : (.code ⟨"FamilyKernel$Meter", "place", "()I"⟩ prog_6_method_6_code 1 (some .int) : Cond) ∈ vT := inR_29 _ (List.mem_of_getElem? (i := 31) rfl)
theorem vt_1192 : (.code ⟨"FamilyKernel", "fault", "(I)I"⟩ prog_1_method_9_code 2 (some .int) : Cond) ∈ vT := inR_29 _ (List.mem_of_getElem? (i := 32) rfl)
theorem vt_1193 : (.methodLink "FamilyKernel" 333 ⟨"FamilyKernel$Environment", "clear", "()V"⟩ : Cond) ∈ vT := inR_29 _ (List.mem_of_getElem? (i := 33) rfl)
theorem vt_1194 : (.instanceMethod ⟨"FamilyKernel$Environment", "clear", "()V"⟩ : Cond) ∈ vT := inR_29 _ (List.mem_of_getElem? (i := 34) rfl)
theorem vt_1195 : (.selects "FamilyKernel$Environment" ⟨"FamilyKernel$Environment", "clear", "()V"⟩ ⟨"FamilyKernel$Environment", "clear", "()V"⟩ : Cond) ∈ vT := inR_29 _ (List.mem_of_getElem? (i := 35) rfl)
theorem vt_1196 : (.code ⟨"FamilyKernel$Environment", "clear", "()V"⟩ prog_2_method_5_code 1 none : Cond) ∈ vT := inR_29 _ (List.mem_of_getElem? (i := 36) rfl)
theorem vt_1197 : (.code ⟨"FamilyKernel", "reset", "()I"⟩ prog_1_method_10_code 2 (some .int) : Cond) ∈ vT := inR_29 _ (List.mem_of_getElem? (i := 37) rfl)
theorem vt_1198 : (.methodLink "FamilyKernel$Environment" 32 ⟨"FamilyKernel$Environment", "cut", "(I)V"⟩ : Cond) ∈ vT := inR_29 _ (List.mem_of_getElem? (i := 38) rfl)
theorem vt_1199 : (.methodLink "FamilyKernel" 104 ⟨"FamilyKernel$Row", "size", "()I"⟩ : Cond) ∈ vT := inR_29 _ (List.mem_of_getElem? (i := 39) rfl)
theorem vt_1200 : (.code ⟨"FamilyKernel", "count", "(I)I"⟩ prog_1_method_15_code 2 (some .int) : Cond) ∈ vT := inR_30 _ (List.mem_of_getElem? (i := 0) rfl)
theorem vt_1201 : (.methodLink "FamilyKernelLaw" 7 ⟨"FamilyKernel", "feed", "(IIIII)I"⟩ : Cond) ∈ vT := inR_30 _ (List.mem_of_getElem? (i := 1) rfl)
theorem vt_1202 : (.instanceMethod ⟨"FamilyKernel", "feed", "(IIIII)I"⟩ : Cond) ∈ vT := inR_30 _ (List.mem_of_getElem? (i := 2) rfl)
theorem vt_1203 : (.selects "FamilyKernel" ⟨"FamilyKernel", "feed", "(IIIII)I"⟩ ⟨"FamilyKernel", "feed", "(IIIII)I"⟩ : Cond) ∈ vT := inR_30 _ (List.mem_of_getElem? (i := 3) rfl)
theorem vt_1204 : (.code ⟨"FamilyKernel", "feed", "(IIIII)I"⟩ prog_1_method_2_code 6 (some .int) : Cond) ∈ vT := inR_30 _ (List.mem_of_getElem? (i := 4) rfl)
theorem vt_1205 : (.codeWith ⟨"FamilyKernelLaw", "feed", "(LFamilyKernel;IIIII[J)I"⟩ method_3_code 8 (some .int) [(0, 16, 19, 13)] : Cond) ∈ vT := inR_30 _ (List.mem_of_getElem? (i := 5) rfl)
theorem vt_1206 : (.classLink "FamilyKernel" 108 "java/lang/IllegalStateException" : Cond) ∈ vT := inR_30 _ (List.mem_of_getElem? (i := 6) rfl)
theorem vt_1207 : (.methodLink "FamilyKernel" 110 ⟨"java/lang/IllegalStateException", "<init>", "()V"⟩ : Cond) ∈ vT := inR_30 _ (List.mem_of_getElem? (i := 7) rfl)
theorem vt_1208 : (.methodLink "FamilyKernel" 111 ⟨"FamilyKernel", "takeBytes", "(I)V"⟩ : Cond) ∈ vT := inR_30 _ (List.mem_of_getElem? (i := 8) rfl)
theorem vt_1209 : (.instanceMethod ⟨"FamilyKernel", "takeBytes", "(I)V"⟩ : Cond) ∈ vT := inR_30 _ (List.mem_of_getElem? (i := 9) rfl)
theorem vt_1210 : (.selects "FamilyKernel" ⟨"FamilyKernel", "takeBytes", "(I)V"⟩ ⟨"FamilyKernel", "takeBytes", "(I)V"⟩ : Cond) ∈ vT := inR_30 _ (List.mem_of_getElem? (i := 10) rfl)
theorem vt_1211 : (.code ⟨"FamilyKernel", "takeBytes", "(I)V"⟩ prog_1_method_3_code 3 none : Cond) ∈ vT := inR_30 _ (List.mem_of_getElem? (i := 11) rfl)
theorem vt_1212 : (.methodLink "FamilyKernel" 115 ⟨"FamilyKernel$Row", "push", "(I)V"⟩ : Cond) ∈ vT := inR_30 _ (List.mem_of_getElem? (i := 12) rfl)
theorem vt_1213 : (.methodLink "FamilyKernelLaw" 15 ⟨"FamilyKernel", "end", "(I)I"⟩ : Cond) ∈ vT := inR_30 _ (List.mem_of_getElem? (i := 13) rfl)
theorem vt_1214 : (.instanceMethod ⟨"FamilyKernel", "end", "(I)I"⟩ : Cond) ∈ vT := inR_30 _ (List.mem_of_getElem? (i := 14) rfl)
theorem vt_1215 : (.selects "FamilyKernel" ⟨"FamilyKernel", "end", "(I)I"⟩ ⟨"FamilyKernel", "end", "(I)I"⟩ : Cond) ∈ vT := inR_30 _ (List.mem_of_getElem? (i := 15) rfl)
theorem vt_1216 : (.code ⟨"FamilyKernel", "end", "(I)I"⟩ prog_1_method_4_code 2 (some .int) : Cond) ∈ vT := inR_30 _ (List.mem_of_getElem? (i := 16) rfl)
theorem vt_1217 : (.codeWith ⟨"FamilyKernelLaw", "end", "(LFamilyKernel;I[J)I"⟩ method_4_code 4 (some .int) [(0, 9, 12, 19)] : Cond) ∈ vT := inR_30 _ (List.mem_of_getElem? (i := 17) rfl)
theorem vt_1218 : (.classLink "FamilyKernel" 118 "java/lang/IllegalArgumentException" : Cond) ∈ vT := inR_30 _ (List.mem_of_getElem? (i := 18) rfl)
theorem vt_1219 : (.initialized "java/lang/IllegalArgumentException" : Cond) ∈ vT := inR_30 _ (List.mem_of_getElem? (i := 19) rfl)
theorem vt_1220 : (.instantiable "java/lang/IllegalArgumentException" 6 : Cond) ∈ vT := inR_30 _ (List.mem_of_getElem? (i := 20) rfl)
theorem vt_1221 : (.methodLink "FamilyKernel" 120 ⟨"java/lang/IllegalArgumentException", "<init>", "()V"⟩ : Cond) ∈ vT := inR_30 _ (List.mem_of_getElem? (i := 21) rfl)
theorem vt_1222 : (.instanceMethod ⟨"java/lang/IllegalArgumentException", "<init>", "()V"⟩ : Cond) ∈ vT := inR_30 _ (List.mem_of_getElem? (i := 22) rfl)
theorem vt_1223 : (.code ⟨"java/lang/IllegalArgumentException", "<init>", "()V"⟩ prog_18_method_1_code 1 none : Cond) ∈ vT := inR_30 _ (List.mem_of_getElem? (i := 23) rfl)
theorem vt_1224 : (.methodLink "FamilyKernelLaw" 21 ⟨"FamilyKernel", "constant", "(II)I"⟩ : Cond) ∈ vT := inR_30 _ (List.mem_of_getElem? (i := 24) rfl)
theorem vt_1225 : (.instanceMethod ⟨"FamilyKernel", "constant", "(II)I"⟩ : Cond) ∈ vT := inR_30 _ (List.mem_of_getElem? (i := 25) rfl)
theorem vt_1226 : (.selects "FamilyKernel" ⟨"FamilyKernel", "constant", "(II)I"⟩ ⟨"FamilyKernel", "constant", "(II)I"⟩ : Cond) ∈ vT := inR_30 _ (List.mem_of_getElem? (i := 26) rfl)
theorem vt_1227 : (.code ⟨"FamilyKernel", "constant", "(II)I"⟩ prog_1_method_11_code 4 (some .int) : Cond) ∈ vT := inR_30 _ (List.mem_of_getElem? (i := 27) rfl)
theorem vt_1228 : (.codeWith ⟨"FamilyKernelLaw", "constant", "(LFamilyKernel;II[J)I"⟩ method_5_code 5 (some .int) [(0, 10, 13, 25), (0, 10, 17, 19)] : Cond) ∈ vT := inR_30 _ (List.mem_of_getElem? (i := 28) rfl)
theorem vt_1229 : (.classLink "FamilyKernel" 336 "java/util/NoSuchElementException" : Cond) ∈ vT := inR_30 _ (List.mem_of_getElem? (i := 29) rfl)
theorem vt_1230 : (.initialized "java/util/NoSuchElementException" : Cond) ∈ vT := inR_30 _ (List.mem_of_getElem? (i := 30) rfl)
theorem vt_1231 : (.instantiable "java/util/NoSuchElementException" 6 : Cond) ∈ vT := inR_30 _ (List.mem_of_getElem? (i := 31) rfl)
theorem vt_1232 : (.methodLink "FamilyKernel" 338 ⟨"java/util/NoSuchElementException", "<init>", "()V"⟩ : Cond) ∈ vT := inR_30 _ (List.mem_of_getElem? (i := 32) rfl)
theorem vt_1233 : (.instanceMethod ⟨"java/util/NoSuchElementException", "<init>", "()V"⟩ : Cond) ∈ vT := inR_30 _ (List.mem_of_getElem? (i := 33) rfl)
theorem vt_1234 : (.code ⟨"java/util/NoSuchElementException", "<init>", "()V"⟩ prog_29_method_1_code 1 none : Cond) ∈ vT := inR_30 _ (List.mem_of_getElem? (i := 34) rfl)
theorem vt_1235 : (.methodLink "FamilyKernel" 339 ⟨"FamilyKernel$Environment", "fact", "(II)I"⟩ : Cond) ∈ vT := inR_30 _ (List.mem_of_getElem? (i := 35) rfl)
theorem vt_1236 : (.methodLink "FamilyKernelLaw" 27 ⟨"FamilyKernel", "show", "(II)I"⟩ : Cond) ∈ vT := inR_30 _ (List.mem_of_getElem? (i := 36) rfl)
theorem vt_1237 : (.instanceMethod ⟨"FamilyKernel", "show", "(II)I"⟩ : Cond) ∈ vT := inR_30 _ (List.mem_of_getElem? (i := 37) rfl)
theorem vt_1238 : (.selects "FamilyKernel" ⟨"FamilyKernel", "show", "(II)I"⟩ ⟨"FamilyKernel", "show", "(II)I"⟩ : Cond) ∈ vT := inR_30 _ (List.mem_of_getElem? (i := 38) rfl)
theorem vt_1239 : (.code ⟨"FamilyKernel", "show", "(II)I"⟩ prog_1_method_12_code 3 (some .int) : Cond) ∈ vT := inR_30 _ (List.mem_of_getElem? (i := 39) rfl)
theorem vt_1240 : (.codeWith ⟨"FamilyKernelLaw", "show", "(LFamilyKernel;II[J)I"⟩ method_6_code 5 (some .int) [(0, 10, 13, 25), (0, 10, 17, 19)] : Cond) ∈ vT := inR_31 _ (List.mem_of_getElem? (i := 0) rfl)
theorem vt_1241 : (.methodLink "FamilyKernel" 343 ⟨"FamilyKernel$Printer", "printName", "(I)V"⟩ : Cond) ∈ vT := inR_31 _ (List.mem_of_getElem? (i := 1) rfl)
theorem vt_1242 : (.instanceMethod ⟨"FamilyKernel$Printer", "printName", "(I)V"⟩ : Cond) ∈ vT := inR_31 _ (List.mem_of_getElem? (i := 2) rfl)
theorem vt_1243 : (.selects "FamilyKernel$Printer" ⟨"FamilyKernel$Printer", "printName", "(I)V"⟩ ⟨"FamilyKernel$Printer", "printName", "(I)V"⟩ : Cond) ∈ vT := inR_31 _ (List.mem_of_getElem? (i := 3) rfl)
theorem vt_1244 : (.code ⟨"FamilyKernel$Printer", "printName", "(I)V"⟩ prog_8_method_2_code 2 none : Cond) ∈ vT := inR_31 _ (List.mem_of_getElem? (i := 4) rfl)
theorem vt_1245 : (.methodLink "FamilyKernelLaw" 30 ⟨"FamilyKernel", "showRec", "(II)I"⟩ : Cond) ∈ vT := inR_31 _ (List.mem_of_getElem? (i := 5) rfl)
theorem vt_1246 : (.instanceMethod ⟨"FamilyKernel", "showRec", "(II)I"⟩ : Cond) ∈ vT := inR_31 _ (List.mem_of_getElem? (i := 6) rfl)
theorem vt_1247 : (.selects "FamilyKernel" ⟨"FamilyKernel", "showRec", "(II)I"⟩ ⟨"FamilyKernel", "showRec", "(II)I"⟩ : Cond) ∈ vT := inR_31 _ (List.mem_of_getElem? (i := 7) rfl)
theorem vt_1248 : (.code ⟨"FamilyKernel", "showRec", "(II)I"⟩ prog_1_method_13_code 4 (some .int) : Cond) ∈ vT := inR_31 _ (List.mem_of_getElem? (i := 8) rfl)
theorem vt_1249 : (.codeWith ⟨"FamilyKernelLaw", "showRec", "(LFamilyKernel;II[J)I"⟩ method_7_code 5 (some .int) [(0, 10, 13, 25)] : Cond) ∈ vT := inR_31 _ (List.mem_of_getElem? (i := 9) rfl)
theorem vt_1250 : (.methodLink "FamilyKernel" 346 ⟨"FamilyKernel$Environment", "allows", "(II)Z"⟩ : Cond) ∈ vT := inR_31 _ (List.mem_of_getElem? (i := 10) rfl)
theorem vt_1251 : (.methodLink "FamilyKernelLaw" 33 ⟨"FamilyKernel", "out", "(I)I"⟩ : Cond) ∈ vT := inR_31 _ (List.mem_of_getElem? (i := 11) rfl)
theorem vt_1252 : (.instanceMethod ⟨"FamilyKernel", "out", "(I)I"⟩ : Cond) ∈ vT := inR_31 _ (List.mem_of_getElem? (i := 12) rfl)
theorem vt_1253 : (.selects "FamilyKernel" ⟨"FamilyKernel", "out", "(I)I"⟩ ⟨"FamilyKernel", "out", "(I)I"⟩ : Cond) ∈ vT := inR_31 _ (List.mem_of_getElem? (i := 13) rfl)
theorem vt_1254 : (.code ⟨"FamilyKernel", "out", "(I)I"⟩ prog_1_method_14_code 2 (some .int) : Cond) ∈ vT := inR_31 _ (List.mem_of_getElem? (i := 14) rfl)
theorem vt_1255 : (.codeWith ⟨"FamilyKernelLaw", "out", "(LFamilyKernel;I[J)I"⟩ method_8_code 4 (some .int) [(0, 9, 12, 36)] : Cond) ∈ vT := inR_31 _ (List.mem_of_getElem? (i := 15) rfl)
theorem vt_1256 : (.classLink "FamilyKernel" 350 "java/lang/IndexOutOfBoundsException" : Cond) ∈ vT := inR_31 _ (List.mem_of_getElem? (i := 16) rfl)
theorem vt_1257 : (.initialized "java/lang/IndexOutOfBoundsException" : Cond) ∈ vT := inR_31 _ (List.mem_of_getElem? (i := 17) rfl)
theorem vt_1258 : (.instantiable "java/lang/IndexOutOfBoundsException" 6 : Cond) ∈ vT := inR_31 _ (List.mem_of_getElem? (i := 18) rfl)
theorem vt_1259 : (.methodLink "FamilyKernel" 352 ⟨"java/lang/IndexOutOfBoundsException", "<init>", "()V"⟩ : Cond) ∈ vT := inR_31 _ (List.mem_of_getElem? (i := 19) rfl)
theorem vt_1260 : (.instanceMethod ⟨"java/lang/IndexOutOfBoundsException", "<init>", "()V"⟩ : Cond) ∈ vT := inR_31 _ (List.mem_of_getElem? (i := 20) rfl)
theorem vt_1261 : (.code ⟨"java/lang/IndexOutOfBoundsException", "<init>", "()V"⟩ prog_20_method_1_code 1 none : Cond) ∈ vT := inR_31 _ (List.mem_of_getElem? (i := 21) rfl)
theorem vt_1262 : (.methodLink "FamilyKernel" 353 ⟨"FamilyKernel$Row", "at", "(I)I"⟩ : Cond) ∈ vT := inR_31 _ (List.mem_of_getElem? (i := 22) rfl)
theorem vt_1263 : (.methodLink "FamilyKernelModel" 7 ⟨"java/lang/Object", "<init>", "()V"⟩ : Cond) ∈ vT := inR_31 _ (List.mem_of_getElem? (i := 23) rfl)
theorem vt_1264 : (.constant "FamilyKernelModel" 12 65536 : Cond) ∈ vT := inR_31 _ (List.mem_of_getElem? (i := 24) rfl)
theorem vt_1265 : (.arrayClass .byte : Cond) ∈ vT := inR_31 _ (List.mem_of_getElem? (i := 25) rfl)
theorem vt_1266 : (.fieldLink "FamilyKernelModel" 13 "FamilyKernelModel" "tape" "[B" : Cond) ∈ vT := inR_31 _ (List.mem_of_getElem? (i := 26) rfl)
theorem vt_1267 : (.fieldLink "FamilyKernelModel" 19 "FamilyKernelModel" "out" "[B" : Cond) ∈ vT := inR_31 _ (List.mem_of_getElem? (i := 27) rfl)
theorem vt_1268 : (.fieldLink "FamilyKernelModel" 22 "FamilyKernelModel" "size" "I" : Cond) ∈ vT := inR_31 _ (List.mem_of_getElem? (i := 28) rfl)
theorem vt_1269 : (.fieldLink "FamilyKernelModel" 26 "FamilyKernelModel" "outSize" "I" : Cond) ∈ vT := inR_31 _ (List.mem_of_getElem? (i := 29) rfl)
theorem vt_1270 : (.fieldLink "FamilyKernelModel" 29 "FamilyKernelModel" "thrown" "I" : Cond) ∈ vT := inR_31 _ (List.mem_of_getElem? (i := 30) rfl)
theorem vt_1271 : (.fieldLink "FamilyKernelModel" 32 "FamilyKernelModel" "faultKind" "I" : Cond) ∈ vT := inR_31 _ (List.mem_of_getElem? (i := 31) rfl)
theorem vt_1272 : (.fieldLink "FamilyKernelModel" 35 "FamilyKernelModel" "faultPlace" "I" : Cond) ∈ vT := inR_31 _ (List.mem_of_getElem? (i := 32) rfl)
theorem vt_1273 : (.fieldLink "FamilyKernelModel" 38 "FamilyKernelModel" "pos" "I" : Cond) ∈ vT := inR_31 _ (List.mem_of_getElem? (i := 33) rfl)
theorem vt_1274 : (.fieldLink "FamilyKernelModel" 41 "FamilyKernelModel" "token" "I" : Cond) ∈ vT := inR_31 _ (List.mem_of_getElem? (i := 34) rfl)
theorem vt_1275 : (.fieldLink "FamilyKernelModel" 44 "FamilyKernelModel" "tokenAt" "I" : Cond) ∈ vT := inR_31 _ (List.mem_of_getElem? (i := 35) rfl)
theorem vt_1276 : (.fieldLink "FamilyKernelModel" 47 "FamilyKernelModel" "tokenEnd" "I" : Cond) ∈ vT := inR_31 _ (List.mem_of_getElem? (i := 36) rfl)
theorem vt_1277 : (.fieldLink "FamilyKernelModel" 50 "FamilyKernelModel" "seen" "Z" : Cond) ∈ vT := inR_31 _ (List.mem_of_getElem? (i := 37) rfl)
theorem vt_1278 : (.constant "FamilyKernelModel" 54 400000 : Cond) ∈ vT := inR_31 _ (List.mem_of_getElem? (i := 38) rfl)
theorem vt_1279 : (.fieldLink "FamilyKernelModel" 55 "FamilyKernelModel" "kind" "[B" : Cond) ∈ vT := inR_31 _ (List.mem_of_getElem? (i := 39) rfl)
theorem vt_1280 : (.fieldLink "FamilyKernelModel" 58 "FamilyKernelModel" "one" "[I" : Cond) ∈ vT := inR_32 _ (List.mem_of_getElem? (i := 0) rfl)
theorem vt_1281 : (.fieldLink "FamilyKernelModel" 62 "FamilyKernelModel" "two" "[I" : Cond) ∈ vT := inR_32 _ (List.mem_of_getElem? (i := 1) rfl)
theorem vt_1282 : (.fieldLink "FamilyKernelModel" 65 "FamilyKernelModel" "three" "[I" : Cond) ∈ vT := inR_32 _ (List.mem_of_getElem? (i := 2) rfl)
theorem vt_1283 : (.fieldLink "FamilyKernelModel" 68 "FamilyKernelModel" "big" "[I" : Cond) ∈ vT := inR_32 _ (List.mem_of_getElem? (i := 3) rfl)
theorem vt_1284 : (.fieldLink "FamilyKernelModel" 71 "FamilyKernelModel" "deep" "[I" : Cond) ∈ vT := inR_32 _ (List.mem_of_getElem? (i := 4) rfl)
theorem vt_1285 : (.fieldLink "FamilyKernelModel" 74 "FamilyKernelModel" "top" "I" : Cond) ∈ vT := inR_32 _ (List.mem_of_getElem? (i := 5) rfl)
theorem vt_1286 : (.fieldLink "FamilyKernelModel" 77 "FamilyKernelModel" "spine" "[I" : Cond) ∈ vT := inR_32 _ (List.mem_of_getElem? (i := 6) rfl)
theorem vt_1287 : (.fieldLink "FamilyKernelModel" 80 "FamilyKernelModel" "spineTop" "I" : Cond) ∈ vT := inR_32 _ (List.mem_of_getElem? (i := 7) rfl)
theorem vt_1288 : (.fieldLink "FamilyKernelModel" 83 "FamilyKernelModel" "mapHow" "I" : Cond) ∈ vT := inR_32 _ (List.mem_of_getElem? (i := 8) rfl)
theorem vt_1289 : (.fieldLink "FamilyKernelModel" 86 "FamilyKernelModel" "mapWhat" "I" : Cond) ∈ vT := inR_32 _ (List.mem_of_getElem? (i := 9) rfl)
theorem vt_1290 : (.fieldLink "FamilyKernelModel" 89 "FamilyKernelModel" "mapTo" "I" : Cond) ∈ vT := inR_32 _ (List.mem_of_getElem? (i := 10) rfl)
theorem vt_1291 : (.fieldLink "FamilyKernelModel" 92 "FamilyKernelModel" "words" "[B" : Cond) ∈ vT := inR_32 _ (List.mem_of_getElem? (i := 11) rfl)
theorem vt_1292 : (.fieldLink "FamilyKernelModel" 95 "FamilyKernelModel" "wordAt" "[I" : Cond) ∈ vT := inR_32 _ (List.mem_of_getElem? (i := 12) rfl)
theorem vt_1293 : (.fieldLink "FamilyKernelModel" 98 "FamilyKernelModel" "wordSize" "[I" : Cond) ∈ vT := inR_32 _ (List.mem_of_getElem? (i := 13) rfl)
theorem vt_1294 : (.fieldLink "FamilyKernelModel" 101 "FamilyKernelModel" "wordsUsed" "I" : Cond) ∈ vT := inR_32 _ (List.mem_of_getElem? (i := 14) rfl)
theorem vt_1295 : (.fieldLink "FamilyKernelModel" 104 "FamilyKernelModel" "constants" "I" : Cond) ∈ vT := inR_32 _ (List.mem_of_getElem? (i := 15) rfl)
theorem vt_1296 : (.fieldLink "FamilyKernelModel" 107 "FamilyKernelModel" "sortOf" "[I" : Cond) ∈ vT := inR_32 _ (List.mem_of_getElem? (i := 16) rfl)
theorem vt_1297 : (.fieldLink "FamilyKernelModel" 110 "FamilyKernelModel" "typeOf" "[I" : Cond) ∈ vT := inR_32 _ (List.mem_of_getElem? (i := 17) rfl)
theorem vt_1298 : (.fieldLink "FamilyKernelModel" 113 "FamilyKernelModel" "valueOf" "[I" : Cond) ∈ vT := inR_32 _ (List.mem_of_getElem? (i := 18) rfl)
theorem vt_1299 : (.fieldLink "FamilyKernelModel" 116 "FamilyKernelModel" "parameters" "[I" : Cond) ∈ vT := inR_32 _ (List.mem_of_getElem? (i := 19) rfl)
theorem vt_1300 : (.fieldLink "FamilyKernelModel" 119 "FamilyKernelModel" "indices" "[I" : Cond) ∈ vT := inR_32 _ (List.mem_of_getElem? (i := 20) rfl)
theorem vt_1301 : (.fieldLink "FamilyKernelModel" 122 "FamilyKernelModel" "constructors" "[I" : Cond) ∈ vT := inR_32 _ (List.mem_of_getElem? (i := 21) rfl)
theorem vt_1302 : (.fieldLink "FamilyKernelModel" 125 "FamilyKernelModel" "arguments" "[I" : Cond) ∈ vT := inR_32 _ (List.mem_of_getElem? (i := 22) rfl)
theorem vt_1303 : (.fieldLink "FamilyKernelModel" 128 "FamilyKernelModel" "recursive" "[I" : Cond) ∈ vT := inR_32 _ (List.mem_of_getElem? (i := 23) rfl)
theorem vt_1304 : (.fieldLink "FamilyKernelModel" 131 "FamilyKernelModel" "level" "[I" : Cond) ∈ vT := inR_32 _ (List.mem_of_getElem? (i := 24) rfl)
theorem vt_1305 : (.fieldLink "FamilyKernelModel" 134 "FamilyKernelModel" "recType" "[I" : Cond) ∈ vT := inR_32 _ (List.mem_of_getElem? (i := 25) rfl)
theorem vt_1306 : (.fieldLink "FamilyKernelModel" 137 "FamilyKernelModel" "rule" "[I" : Cond) ∈ vT := inR_32 _ (List.mem_of_getElem? (i := 26) rfl)
theorem vt_1307 : (.fieldLink "FamilyKernelModel" 140 "FamilyKernelModel" "family" "[I" : Cond) ∈ vT := inR_32 _ (List.mem_of_getElem? (i := 27) rfl)
theorem vt_1308 : (.arrayClass .boolean : Cond) ∈ vT := inR_32 _ (List.mem_of_getElem? (i := 28) rfl)
theorem vt_1309 : (.fieldLink "FamilyKernelModel" 143 "FamilyKernelModel" "large" "[Z" : Cond) ∈ vT := inR_32 _ (List.mem_of_getElem? (i := 29) rfl)
theorem vt_1310 : (.fieldLink "FamilyKernelModel" 147 "FamilyKernelModel" "kept" "I" : Cond) ∈ vT := inR_32 _ (List.mem_of_getElem? (i := 30) rfl)
theorem vt_1311 : (.fieldLink "FamilyKernelModel" 150 "FamilyKernelModel" "sizes" "I" : Cond) ∈ vT := inR_32 _ (List.mem_of_getElem? (i := 31) rfl)
theorem vt_1312 : (.fieldLink "FamilyKernelModel" 153 "FamilyKernelModel" "scopeAt" "[I" : Cond) ∈ vT := inR_32 _ (List.mem_of_getElem? (i := 32) rfl)
theorem vt_1313 : (.fieldLink "FamilyKernelModel" 156 "FamilyKernelModel" "scopeSize" "[I" : Cond) ∈ vT := inR_32 _ (List.mem_of_getElem? (i := 33) rfl)
theorem vt_1314 : (.fieldLink "FamilyKernelModel" 159 "FamilyKernelModel" "scopes" "I" : Cond) ∈ vT := inR_32 _ (List.mem_of_getElem? (i := 34) rfl)
theorem vt_1315 : (.fieldLink "FamilyKernelModel" 162 "FamilyKernelModel" "typeStack" "[I" : Cond) ∈ vT := inR_32 _ (List.mem_of_getElem? (i := 35) rfl)
theorem vt_1316 : (.fieldLink "FamilyKernelModel" 165 "FamilyKernelModel" "pendingAt" "[I" : Cond) ∈ vT := inR_32 _ (List.mem_of_getElem? (i := 36) rfl)
theorem vt_1317 : (.fieldLink "FamilyKernelModel" 168 "FamilyKernelModel" "pendingSize" "[I" : Cond) ∈ vT := inR_32 _ (List.mem_of_getElem? (i := 37) rfl)
theorem vt_1318 : (.fieldLink "FamilyKernelModel" 171 "FamilyKernelModel" "heldAt" "[I" : Cond) ∈ vT := inR_32 _ (List.mem_of_getElem? (i := 38) rfl)
theorem vt_1319 : (.fieldLink "FamilyKernelModel" 174 "FamilyKernelModel" "heldSize" "[I" : Cond) ∈ vT := inR_32 _ (List.mem_of_getElem? (i := 39) rfl)
theorem vt_1320 : (.fieldLink "FamilyKernelModel" 177 "FamilyKernelModel" "pendingHeld" "I" : Cond) ∈ vT := inR_33 _ (List.mem_of_getElem? (i := 0) rfl)
theorem vt_1321 : (.fieldLink "FamilyKernelModel" 180 "FamilyKernelModel" "copies" "I" : Cond) ∈ vT := inR_33 _ (List.mem_of_getElem? (i := 1) rfl)
theorem vt_1322 : (.fieldLink "FamilyKernelModel" 183 "FamilyKernelModel" "work" "I" : Cond) ∈ vT := inR_33 _ (List.mem_of_getElem? (i := 2) rfl)
theorem vt_1323 : (.fieldLink "FamilyKernelModel" 186 "FamilyKernelModel" "variables" "I" : Cond) ∈ vT := inR_33 _ (List.mem_of_getElem? (i := 3) rfl)
theorem vt_1324 : (.constant "FamilyKernelModel" 189 66000 : Cond) ∈ vT := inR_33 _ (List.mem_of_getElem? (i := 4) rfl)
theorem vt_1325 : (.fieldLink "FamilyKernelModel" 190 "FamilyKernelModel" "typeOfVariable" "[I" : Cond) ∈ vT := inR_33 _ (List.mem_of_getElem? (i := 5) rfl)
theorem vt_1326 : (.fieldLink "FamilyKernelModel" 193 "FamilyKernelModel" "majors" "I" : Cond) ∈ vT := inR_33 _ (List.mem_of_getElem? (i := 6) rfl)
theorem vt_1327 : (.fieldLink "FamilyKernelModel" 196 "FamilyKernelModel" "declarationAt" "I" : Cond) ∈ vT := inR_33 _ (List.mem_of_getElem? (i := 7) rfl)
theorem vt_1328 : (.fieldLink "FamilyKernelModel" 199 "FamilyKernelModel" "accepted" "I" : Cond) ∈ vT := inR_33 _ (List.mem_of_getElem? (i := 8) rfl)
theorem vt_1329 : (.fieldLink "FamilyKernelModel" 202 "FamilyKernelModel" "lastWork" "I" : Cond) ∈ vT := inR_33 _ (List.mem_of_getElem? (i := 9) rfl)
theorem vt_1330 : (.fieldLink "FamilyKernelModel" 205 "FamilyKernelModel" "known" "I" : Cond) ∈ vT := inR_33 _ (List.mem_of_getElem? (i := 10) rfl)
theorem vt_1331 : (.fieldLink "FamilyKernelModel" 208 "FamilyKernelModel" "are" "[I" : Cond) ∈ vT := inR_33 _ (List.mem_of_getElem? (i := 11) rfl)
theorem vt_1332 : (.fieldLink "FamilyKernelModel" 211 "FamilyKernelModel" "texts" "[I" : Cond) ∈ vT := inR_33 _ (List.mem_of_getElem? (i := 12) rfl)
theorem vt_1333 : (.fieldLink "FamilyKernelModel" 214 "FamilyKernelModel" "wholes" "[I" : Cond) ∈ vT := inR_33 _ (List.mem_of_getElem? (i := 13) rfl)
theorem vt_1334 : (.fieldLink "FamilyKernelModel" 217 "FamilyKernelModel" "firstArgument" "[I" : Cond) ∈ vT := inR_33 _ (List.mem_of_getElem? (i := 14) rfl)
theorem vt_1335 : (.fieldLink "FamilyKernelModel" 220 "FamilyKernelModel" "endAt" "[I" : Cond) ∈ vT := inR_33 _ (List.mem_of_getElem? (i := 15) rfl)
theorem vt_1336 : (.fieldLink "FamilyKernelModel" 223 "FamilyKernelModel" "argument" "[I" : Cond) ∈ vT := inR_33 _ (List.mem_of_getElem? (i := 16) rfl)
theorem vt_1337 : (.fieldLink "FamilyKernelModel" 226 "FamilyKernelModel" "isRecursive" "[Z" : Cond) ∈ vT := inR_33 _ (List.mem_of_getElem? (i := 17) rfl)
theorem vt_1338 : (.fieldLink "FamilyKernelModel" 229 "FamilyKernelModel" "isProof" "[Z" : Cond) ∈ vT := inR_33 _ (List.mem_of_getElem? (i := 18) rfl)
theorem vt_1339 : (.fieldLink "FamilyKernelModel" 232 "FamilyKernelModel" "argumentCount" "I" : Cond) ∈ vT := inR_33 _ (List.mem_of_getElem? (i := 19) rfl)
theorem vt_1340 : (.fieldLink "FamilyKernelModel" 235 "FamilyKernelModel" "list" "[I" : Cond) ∈ vT := inR_33 _ (List.mem_of_getElem? (i := 20) rfl)
theorem vt_1341 : (.fieldLink "FamilyKernelModel" 238 "FamilyKernelModel" "listed" "I" : Cond) ∈ vT := inR_33 _ (List.mem_of_getElem? (i := 21) rfl)
theorem vt_1342 : (.fieldLink "FamilyKernelModel" 241 "FamilyKernelModel" "minors" "[I" : Cond) ∈ vT := inR_33 _ (List.mem_of_getElem? (i := 22) rfl)
theorem vt_1343 : (.fieldLink "FamilyKernelModel" 244 "FamilyKernelModel" "openCost" "[I" : Cond) ∈ vT := inR_33 _ (List.mem_of_getElem? (i := 23) rfl)
theorem vt_1344 : (.fieldLink "FamilyKernelModel" 247 "FamilyKernelModel" "xs" "I" : Cond) ∈ vT := inR_33 _ (List.mem_of_getElem? (i := 24) rfl)
theorem vt_1345 : (.code ⟨"FamilyKernelModel", "<init>", "()V"⟩ prog_14_method_2_code 1 none : Cond) ∈ vT := inR_33 _ (List.mem_of_getElem? (i := 25) rfl)
theorem vt_1346 : (.code ⟨"FamilyKernelModel", "thrown", "()I"⟩ prog_14_method_3_code 1 (some .int) : Cond) ∈ vT := inR_33 _ (List.mem_of_getElem? (i := 26) rfl)
theorem vt_1347 : (.constant "FamilyKernelModel" 250 65516 : Cond) ∈ vT := inR_33 _ (List.mem_of_getElem? (i := 27) rfl)
theorem vt_1348 : (.methodLink "FamilyKernelModel" 251 ⟨"FamilyKernelModel", "refuse", "(IZ)Z"⟩ : Cond) ∈ vT := inR_33 _ (List.mem_of_getElem? (i := 28) rfl)
theorem vt_1349 : (.initialized "FamilyKernelModel" : Cond) ∈ vT := inR_33 _ (List.mem_of_getElem? (i := 29) rfl)
theorem vt_1350 : (.instanceMethod ⟨"FamilyKernelModel", "refuse", "(IZ)Z"⟩ : Cond) ∈ vT := inR_33 _ (List.mem_of_getElem? (i := 30) rfl)
theorem vt_1351 : (.selects "FamilyKernelModel" ⟨"FamilyKernelModel", "refuse", "(IZ)Z"⟩ ⟨"FamilyKernelModel", "refuse", "(IZ)Z"⟩ : Cond) ∈ vT := inR_33 _ (List.mem_of_getElem? (i := 31) rfl)
theorem vt_1352 : (.code ⟨"FamilyKernelModel", "refuse", "(IZ)Z"⟩ prog_14_method_4_code 3 (some .boolean) : Cond) ∈ vT := inR_33 _ (List.mem_of_getElem? (i := 32) rfl)
theorem vt_1353 : (.code ⟨"FamilyKernelModel", "feed", "(IIIII)I"⟩ prog_14_method_5_code 8 (some .int) : Cond) ∈ vT := inR_33 _ (List.mem_of_getElem? (i := 33) rfl)
theorem vt_1354 : (.code ⟨"FamilyKernelModel", "end", "(I)I"⟩ prog_14_method_6_code 2 (some .int) : Cond) ∈ vT := inR_33 _ (List.mem_of_getElem? (i := 34) rfl)
theorem vt_1355 : (.methodLink "FamilyKernelModel" 273 ⟨"FamilyKernelModel", "peek", "()I"⟩ : Cond) ∈ vT := inR_33 _ (List.mem_of_getElem? (i := 35) rfl)
theorem vt_1356 : (.instanceMethod ⟨"FamilyKernelModel", "peek", "()I"⟩ : Cond) ∈ vT := inR_33 _ (List.mem_of_getElem? (i := 36) rfl)
theorem vt_1357 : (.selects "FamilyKernelModel" ⟨"FamilyKernelModel", "peek", "()I"⟩ ⟨"FamilyKernelModel", "peek", "()I"⟩ : Cond) ∈ vT := inR_33 _ (List.mem_of_getElem? (i := 37) rfl)
theorem vt_1358 : (.code ⟨"FamilyKernelModel", "peek", "()I"⟩ prog_14_method_11_code 2 (some .int) : Cond) ∈ vT := inR_33 _ (List.mem_of_getElem? (i := 38) rfl)
theorem vt_1359 : (.methodLink "FamilyKernelModel" 494 ⟨"FamilyKernelModel", "declaration", "()V"⟩ : Cond) ∈ vT := inR_33 _ (List.mem_of_getElem? (i := 39) rfl)
theorem vt_1360 : (.instanceMethod ⟨"FamilyKernelModel", "declaration", "()V"⟩ : Cond) ∈ vT := inR_34 _ (List.mem_of_getElem? (i := 0) rfl)
theorem vt_1361 : (.selects "FamilyKernelModel" ⟨"FamilyKernelModel", "declaration", "()V"⟩ ⟨"FamilyKernelModel", "declaration", "()V"⟩ : Cond) ∈ vT := inR_34 _ (List.mem_of_getElem? (i := 1) rfl)
theorem vt_1362 : (.code ⟨"FamilyKernelModel", "declaration", "()V"⟩ prog_14_method_70_code 1 none : Cond) ∈ vT := inR_34 _ (List.mem_of_getElem? (i := 2) rfl)
theorem vt_1363 : (.fieldLink "FamilyKernelModel" 497 "FamilyKernelModel$Wrong" "kind" "I" : Cond) ∈ vT := inR_34 _ (List.mem_of_getElem? (i := 3) rfl)
theorem vt_1364 : (.fieldLink "FamilyKernelModel" 499 "FamilyKernelModel$Wrong" "place" "I" : Cond) ∈ vT := inR_34 _ (List.mem_of_getElem? (i := 4) rfl)
theorem vt_1365 : (.codeWith ⟨"FamilyKernelModel", "read", "()I"⟩ prog_14_method_69_code 7 (some .int) [(49, 114, 117, 1)] : Cond) ∈ vT := inR_34 _ (List.mem_of_getElem? (i := 5) rfl)
theorem vt_1366 : (.methodLink "FamilyKernelModel" 255 ⟨"FamilyKernelModel", "parts", "()V"⟩ : Cond) ∈ vT := inR_34 _ (List.mem_of_getElem? (i := 6) rfl)
theorem vt_1367 : (.instanceMethod ⟨"FamilyKernelModel", "parts", "()V"⟩ : Cond) ∈ vT := inR_34 _ (List.mem_of_getElem? (i := 7) rfl)
theorem vt_1368 : (.selects "FamilyKernelModel" ⟨"FamilyKernelModel", "parts", "()V"⟩ ⟨"FamilyKernelModel", "parts", "()V"⟩ : Cond) ∈ vT := inR_34 _ (List.mem_of_getElem? (i := 8) rfl)
theorem vt_1369 : (.code ⟨"FamilyKernelModel", "parts", "()V"⟩ prog_14_method_10_code 2 none : Cond) ∈ vT := inR_34 _ (List.mem_of_getElem? (i := 9) rfl)
theorem vt_1370 : (.methodLink "FamilyKernelModel" 258 ⟨"FamilyKernelModel", "letter", "(I)Z"⟩ : Cond) ∈ vT := inR_34 _ (List.mem_of_getElem? (i := 10) rfl)
theorem vt_1371 : (.static ⟨"FamilyKernelModel", "letter", "(I)Z"⟩ : Cond) ∈ vT := inR_34 _ (List.mem_of_getElem? (i := 11) rfl)
theorem vt_1372 : (.code ⟨"FamilyKernelModel", "letter", "(I)Z"⟩ prog_14_method_8_code 1 (some .boolean) : Cond) ∈ vT := inR_34 _ (List.mem_of_getElem? (i := 12) rfl)
theorem vt_1373 : (.methodLink "FamilyKernelModel" 262 ⟨"FamilyKernelModel", "digit", "(I)Z"⟩ : Cond) ∈ vT := inR_34 _ (List.mem_of_getElem? (i := 13) rfl)
theorem vt_1374 : (.static ⟨"FamilyKernelModel", "digit", "(I)Z"⟩ : Cond) ∈ vT := inR_34 _ (List.mem_of_getElem? (i := 14) rfl)
theorem vt_1375 : (.code ⟨"FamilyKernelModel", "digit", "(I)Z"⟩ prog_14_method_7_code 1 (some .boolean) : Cond) ∈ vT := inR_34 _ (List.mem_of_getElem? (i := 15) rfl)
theorem vt_1376 : (.methodLink "FamilyKernelModel" 265 ⟨"FamilyKernelModel", "byteAt", "(I)I"⟩ : Cond) ∈ vT := inR_34 _ (List.mem_of_getElem? (i := 16) rfl)
theorem vt_1377 : (.instanceMethod ⟨"FamilyKernelModel", "byteAt", "(I)I"⟩ : Cond) ∈ vT := inR_34 _ (List.mem_of_getElem? (i := 17) rfl)
theorem vt_1378 : (.selects "FamilyKernelModel" ⟨"FamilyKernelModel", "byteAt", "(I)I"⟩ ⟨"FamilyKernelModel", "byteAt", "(I)I"⟩ : Cond) ∈ vT := inR_34 _ (List.mem_of_getElem? (i := 18) rfl)
theorem vt_1379 : (.code ⟨"FamilyKernelModel", "byteAt", "(I)I"⟩ prog_14_method_9_code 2 (some .int) : Cond) ∈ vT := inR_34 _ (List.mem_of_getElem? (i := 19) rfl)
theorem vt_1380 : (.methodLink "FamilyKernelModel" 269 ⟨"FamilyKernelModel", "sign", "(II)I"⟩ : Cond) ∈ vT := inR_34 _ (List.mem_of_getElem? (i := 20) rfl)
theorem vt_1381 : (.static ⟨"FamilyKernelModel", "sign", "(II)I"⟩ : Cond) ∈ vT := inR_34 _ (List.mem_of_getElem? (i := 21) rfl)
theorem vt_1382 : (.code ⟨"FamilyKernelModel", "sign", "(II)I"⟩ prog_14_method_12_code 2 (some .int) : Cond) ∈ vT := inR_34 _ (List.mem_of_getElem? (i := 22) rfl)
theorem vt_1383 : (.methodLink "FamilyKernelModel" 293 ⟨"FamilyKernelModel", "is", "(Ljava/lang/String;)Z"⟩ : Cond) ∈ vT := inR_34 _ (List.mem_of_getElem? (i := 23) rfl)
theorem vt_1384 : (.instanceMethod ⟨"FamilyKernelModel", "is", "(Ljava/lang/String;)Z"⟩ : Cond) ∈ vT := inR_34 _ (List.mem_of_getElem? (i := 24) rfl)
theorem vt_1385 : (.selects "FamilyKernelModel" ⟨"FamilyKernelModel", "is", "(Ljava/lang/String;)Z"⟩ ⟨"FamilyKernelModel", "is", "(Ljava/lang/String;)Z"⟩ : Cond) ∈ vT := inR_34 _ (List.mem_of_getElem? (i := 25) rfl)
theorem vt_1386 : (.code ⟨"FamilyKernelModel", "is", "(Ljava/lang/String;)Z"⟩ prog_14_method_16_code 3 (some .boolean) : Cond) ∈ vT := inR_34 _ (List.mem_of_getElem? (i := 26) rfl)
theorem vt_1387 : (.methodLink "FamilyKernelModel" 502 ⟨"FamilyKernelModel", "stated", "(I)V"⟩ : Cond) ∈ vT := inR_34 _ (List.mem_of_getElem? (i := 27) rfl)
theorem vt_1388 : (.instanceMethod ⟨"FamilyKernelModel", "stated", "(I)V"⟩ : Cond) ∈ vT := inR_34 _ (List.mem_of_getElem? (i := 28) rfl)
theorem vt_1389 : (.selects "FamilyKernelModel" ⟨"FamilyKernelModel", "stated", "(I)V"⟩ ⟨"FamilyKernelModel", "stated", "(I)V"⟩ : Cond) ∈ vT := inR_34 _ (List.mem_of_getElem? (i := 29) rfl)
theorem vt_1390 : (.code ⟨"FamilyKernelModel", "stated", "(I)V"⟩ prog_14_method_72_code 5 none : Cond) ∈ vT := inR_34 _ (List.mem_of_getElem? (i := 30) rfl)
theorem vt_1391 : (.methodLink "FamilyKernelModel" 505 ⟨"FamilyKernelModel", "inductive", "()V"⟩ : Cond) ∈ vT := inR_34 _ (List.mem_of_getElem? (i := 31) rfl)
theorem vt_1392 : (.instanceMethod ⟨"FamilyKernelModel", "inductive", "()V"⟩ : Cond) ∈ vT := inR_34 _ (List.mem_of_getElem? (i := 32) rfl)
theorem vt_1393 : (.selects "FamilyKernelModel" ⟨"FamilyKernelModel", "inductive", "()V"⟩ ⟨"FamilyKernelModel", "inductive", "()V"⟩ : Cond) ∈ vT := inR_34 _ (List.mem_of_getElem? (i := 33) rfl)
theorem vt_1394 : (.code ⟨"FamilyKernelModel", "inductive", "()V"⟩ prog_14_method_78_code 11 none : Cond) ∈ vT := inR_34 _ (List.mem_of_getElem? (i := 34) rfl)
theorem vt_1395 : (.methodLink "FamilyKernelModel" 507 ⟨"FamilyKernelModel", "checked", "()V"⟩ : Cond) ∈ vT := inR_34 _ (List.mem_of_getElem? (i := 35) rfl)
theorem vt_1396 : (.instanceMethod ⟨"FamilyKernelModel", "checked", "()V"⟩ : Cond) ∈ vT := inR_34 _ (List.mem_of_getElem? (i := 36) rfl)
theorem vt_1397 : (.selects "FamilyKernelModel" ⟨"FamilyKernelModel", "checked", "()V"⟩ ⟨"FamilyKernelModel", "checked", "()V"⟩ : Cond) ∈ vT := inR_34 _ (List.mem_of_getElem? (i := 37) rfl)
theorem vt_1398 : (.code ⟨"FamilyKernelModel", "checked", "()V"⟩ prog_14_method_76_code 3 none : Cond) ∈ vT := inR_34 _ (List.mem_of_getElem? (i := 38) rfl)
theorem vt_1399 : (.methodLink "FamilyKernelModel" 510 ⟨"FamilyKernelModel", "evaluated", "()V"⟩ : Cond) ∈ vT := inR_34 _ (List.mem_of_getElem? (i := 39) rfl)
theorem vt_1400 : (.instanceMethod ⟨"FamilyKernelModel", "evaluated", "()V"⟩ : Cond) ∈ vT := inR_35 _ (List.mem_of_getElem? (i := 0) rfl)
theorem vt_1401 : (.selects "FamilyKernelModel" ⟨"FamilyKernelModel", "evaluated", "()V"⟩ ⟨"FamilyKernelModel", "evaluated", "()V"⟩ : Cond) ∈ vT := inR_35 _ (List.mem_of_getElem? (i := 1) rfl)
theorem vt_1402 : (.code ⟨"FamilyKernelModel", "evaluated", "()V"⟩ prog_14_method_77_code 3 none : Cond) ∈ vT := inR_35 _ (List.mem_of_getElem? (i := 2) rfl)
theorem vt_1403 : (.methodLink "FamilyKernelModel" 277 ⟨"FamilyKernelModel", "cant", "()LFamilyKernelModel$Wrong;"⟩ : Cond) ∈ vT := inR_35 _ (List.mem_of_getElem? (i := 3) rfl)
theorem vt_1404 : (.instanceMethod ⟨"FamilyKernelModel", "cant", "()LFamilyKernelModel$Wrong;"⟩ : Cond) ∈ vT := inR_35 _ (List.mem_of_getElem? (i := 4) rfl)
theorem vt_1405 : (.selects "FamilyKernelModel" ⟨"FamilyKernelModel", "cant", "()LFamilyKernelModel$Wrong;"⟩ ⟨"FamilyKernelModel", "cant", "()LFamilyKernelModel$Wrong;"⟩ : Cond) ∈ vT := inR_35 _ (List.mem_of_getElem? (i := 5) rfl)
theorem vt_1406 : (.code ⟨"FamilyKernelModel", "cant", "()LFamilyKernelModel$Wrong;"⟩ prog_14_method_14_code 1 (some (.object "FamilyKernelModel$Wrong")) : Cond) ∈ vT := inR_35 _ (List.mem_of_getElem? (i := 6) rfl)
theorem vt_1407 : (.methodLink "FamilyKernelModel" 284 ⟨"java/lang/String", "length", "()I"⟩ : Cond) ∈ vT := inR_35 _ (List.mem_of_getElem? (i := 7) rfl)
theorem vt_1408 : (.methodLink "FamilyKernelModel" 289 ⟨"java/lang/String", "charAt", "(I)C"⟩ : Cond) ∈ vT := inR_35 _ (List.mem_of_getElem? (i := 8) rfl)
theorem vt_1409 : (.methodLink "FamilyKernelModel" 281 ⟨"FamilyKernelModel", "take", "()V"⟩ : Cond) ∈ vT := inR_35 _ (List.mem_of_getElem? (i := 9) rfl)
theorem vt_1410 : (.instanceMethod ⟨"FamilyKernelModel", "take", "()V"⟩ : Cond) ∈ vT := inR_35 _ (List.mem_of_getElem? (i := 10) rfl)
theorem vt_1411 : (.selects "FamilyKernelModel" ⟨"FamilyKernelModel", "take", "()V"⟩ ⟨"FamilyKernelModel", "take", "()V"⟩ : Cond) ∈ vT := inR_35 _ (List.mem_of_getElem? (i := 11) rfl)
theorem vt_1412 : (.code ⟨"FamilyKernelModel", "take", "()V"⟩ prog_14_method_13_code 1 none : Cond) ∈ vT := inR_35 _ (List.mem_of_getElem? (i := 12) rfl)
theorem vt_1413 : (.methodLink "FamilyKernelModel" 516 ⟨"FamilyKernelModel", "newName", "()V"⟩ : Cond) ∈ vT := inR_35 _ (List.mem_of_getElem? (i := 13) rfl)
theorem vt_1414 : (.instanceMethod ⟨"FamilyKernelModel", "newName", "()V"⟩ : Cond) ∈ vT := inR_35 _ (List.mem_of_getElem? (i := 14) rfl)
theorem vt_1415 : (.selects "FamilyKernelModel" ⟨"FamilyKernelModel", "newName", "()V"⟩ ⟨"FamilyKernelModel", "newName", "()V"⟩ : Cond) ∈ vT := inR_35 _ (List.mem_of_getElem? (i := 15) rfl)
theorem vt_1416 : (.code ⟨"FamilyKernelModel", "newName", "()V"⟩ prog_14_method_41_code 2 none : Cond) ∈ vT := inR_35 _ (List.mem_of_getElem? (i := 16) rfl)
theorem vt_1417 : (.methodLink "FamilyKernelModel" 405 ⟨"FamilyKernelModel", "must", "(I)V"⟩ : Cond) ∈ vT := inR_35 _ (List.mem_of_getElem? (i := 17) rfl)
theorem vt_1418 : (.instanceMethod ⟨"FamilyKernelModel", "must", "(I)V"⟩ : Cond) ∈ vT := inR_35 _ (List.mem_of_getElem? (i := 18) rfl)
theorem vt_1419 : (.selects "FamilyKernelModel" ⟨"FamilyKernelModel", "must", "(I)V"⟩ ⟨"FamilyKernelModel", "must", "(I)V"⟩ : Cond) ∈ vT := inR_35 _ (List.mem_of_getElem? (i := 19) rfl)
theorem vt_1420 : (.code ⟨"FamilyKernelModel", "must", "(I)V"⟩ prog_14_method_15_code 2 none : Cond) ∈ vT := inR_35 _ (List.mem_of_getElem? (i := 20) rfl)
theorem vt_1421 : (.methodLink "FamilyKernelModel" 399 ⟨"FamilyKernelModel", "term", "(I)I"⟩ : Cond) ∈ vT := inR_35 _ (List.mem_of_getElem? (i := 21) rfl)
theorem vt_1422 : (.instanceMethod ⟨"FamilyKernelModel", "term", "(I)I"⟩ : Cond) ∈ vT := inR_35 _ (List.mem_of_getElem? (i := 22) rfl)
theorem vt_1423 : (.selects "FamilyKernelModel" ⟨"FamilyKernelModel", "term", "(I)I"⟩ ⟨"FamilyKernelModel", "term", "(I)I"⟩ : Cond) ∈ vT := inR_35 _ (List.mem_of_getElem? (i := 23) rfl)
theorem vt_1424 : (.code ⟨"FamilyKernelModel", "term", "(I)I"⟩ prog_14_method_42_code 4 (some .int) : Cond) ∈ vT := inR_35 _ (List.mem_of_getElem? (i := 24) rfl)
theorem vt_1425 : (.methodLink "FamilyKernelModel" 519 ⟨"FamilyKernelModel", "together", "(I)V"⟩ : Cond) ∈ vT := inR_35 _ (List.mem_of_getElem? (i := 25) rfl)
theorem vt_1426 : (.instanceMethod ⟨"FamilyKernelModel", "together", "(I)V"⟩ : Cond) ∈ vT := inR_35 _ (List.mem_of_getElem? (i := 26) rfl)
theorem vt_1427 : (.selects "FamilyKernelModel" ⟨"FamilyKernelModel", "together", "(I)V"⟩ ⟨"FamilyKernelModel", "together", "(I)V"⟩ : Cond) ∈ vT := inR_35 _ (List.mem_of_getElem? (i := 27) rfl)
theorem vt_1428 : (.code ⟨"FamilyKernelModel", "together", "(I)V"⟩ prog_14_method_73_code 2 none : Cond) ∈ vT := inR_35 _ (List.mem_of_getElem? (i := 28) rfl)
theorem vt_1429 : (.methodLink "FamilyKernelModel" 522 ⟨"FamilyKernelModel", "alone", "(I)I"⟩ : Cond) ∈ vT := inR_35 _ (List.mem_of_getElem? (i := 29) rfl)
theorem vt_1430 : (.instanceMethod ⟨"FamilyKernelModel", "alone", "(I)I"⟩ : Cond) ∈ vT := inR_35 _ (List.mem_of_getElem? (i := 30) rfl)
theorem vt_1431 : (.selects "FamilyKernelModel" ⟨"FamilyKernelModel", "alone", "(I)I"⟩ ⟨"FamilyKernelModel", "alone", "(I)I"⟩ : Cond) ∈ vT := inR_35 _ (List.mem_of_getElem? (i := 31) rfl)
theorem vt_1432 : (.code ⟨"FamilyKernelModel", "alone", "(I)I"⟩ prog_14_method_71_code 2 (some .int) : Cond) ∈ vT := inR_35 _ (List.mem_of_getElem? (i := 32) rfl)
theorem vt_1433 : (.methodLink "FamilyKernelModel" 477 ⟨"FamilyKernelModel", "sortOf", "(II)I"⟩ : Cond) ∈ vT := inR_35 _ (List.mem_of_getElem? (i := 33) rfl)
theorem vt_1434 : (.instanceMethod ⟨"FamilyKernelModel", "sortOf", "(II)I"⟩ : Cond) ∈ vT := inR_35 _ (List.mem_of_getElem? (i := 34) rfl)
theorem vt_1435 : (.selects "FamilyKernelModel" ⟨"FamilyKernelModel", "sortOf", "(II)I"⟩ ⟨"FamilyKernelModel", "sortOf", "(II)I"⟩ : Cond) ∈ vT := inR_35 _ (List.mem_of_getElem? (i := 35) rfl)
theorem vt_1436 : (.code ⟨"FamilyKernelModel", "sortOf", "(II)I"⟩ prog_14_method_66_code 4 (some .int) : Cond) ∈ vT := inR_35 _ (List.mem_of_getElem? (i := 36) rfl)
theorem vt_1437 : (.methodLink "FamilyKernelModel" 485 ⟨"FamilyKernelModel", "check", "(III)V"⟩ : Cond) ∈ vT := inR_35 _ (List.mem_of_getElem? (i := 37) rfl)
theorem vt_1438 : (.instanceMethod ⟨"FamilyKernelModel", "check", "(III)V"⟩ : Cond) ∈ vT := inR_35 _ (List.mem_of_getElem? (i := 38) rfl)
theorem vt_1439 : (.selects "FamilyKernelModel" ⟨"FamilyKernelModel", "check", "(III)V"⟩ ⟨"FamilyKernelModel", "check", "(III)V"⟩ : Cond) ∈ vT := inR_35 _ (List.mem_of_getElem? (i := 39) rfl)
theorem vt_1440 : (.code ⟨"FamilyKernelModel", "check", "(III)V"⟩ prog_14_method_67_code 4 none : Cond) ∈ vT := inR_36 _ (List.mem_of_getElem? (i := 0) rfl)
theorem vt_1441 : (.methodLink "FamilyKernelModel" 525 ⟨"FamilyKernelModel", "room", "(I)V"⟩ : Cond) ∈ vT := inR_36 _ (List.mem_of_getElem? (i := 1) rfl)
theorem vt_1442 : (.instanceMethod ⟨"FamilyKernelModel", "room", "(I)V"⟩ : Cond) ∈ vT := inR_36 _ (List.mem_of_getElem? (i := 2) rfl)
theorem vt_1443 : (.selects "FamilyKernelModel" ⟨"FamilyKernelModel", "room", "(I)V"⟩ ⟨"FamilyKernelModel", "room", "(I)V"⟩ : Cond) ∈ vT := inR_36 _ (List.mem_of_getElem? (i := 3) rfl)
theorem vt_1444 : (.code ⟨"FamilyKernelModel", "room", "(I)V"⟩ prog_14_method_74_code 2 none : Cond) ∈ vT := inR_36 _ (List.mem_of_getElem? (i := 4) rfl)
theorem vt_1445 : (.methodLink "FamilyKernelModel" 528 ⟨"FamilyKernelModel", "keep", "(I)I"⟩ : Cond) ∈ vT := inR_36 _ (List.mem_of_getElem? (i := 5) rfl)
theorem vt_1446 : (.instanceMethod ⟨"FamilyKernelModel", "keep", "(I)I"⟩ : Cond) ∈ vT := inR_36 _ (List.mem_of_getElem? (i := 6) rfl)
theorem vt_1447 : (.selects "FamilyKernelModel" ⟨"FamilyKernelModel", "keep", "(I)I"⟩ ⟨"FamilyKernelModel", "keep", "(I)I"⟩ : Cond) ∈ vT := inR_36 _ (List.mem_of_getElem? (i := 7) rfl)
theorem vt_1448 : (.code ⟨"FamilyKernelModel", "keep", "(I)I"⟩ prog_14_method_75_code 4 (some .int) : Cond) ∈ vT := inR_36 _ (List.mem_of_getElem? (i := 8) rfl)
theorem vt_1449 : (.methodLink "FamilyKernelModel" 380 ⟨"FamilyKernelModel", "reserved", "()Z"⟩ : Cond) ∈ vT := inR_36 _ (List.mem_of_getElem? (i := 9) rfl)
theorem vt_1450 : (.instanceMethod ⟨"FamilyKernelModel", "reserved", "()Z"⟩ : Cond) ∈ vT := inR_36 _ (List.mem_of_getElem? (i := 10) rfl)
theorem vt_1451 : (.selects "FamilyKernelModel" ⟨"FamilyKernelModel", "reserved", "()Z"⟩ ⟨"FamilyKernelModel", "reserved", "()Z"⟩ : Cond) ∈ vT := inR_36 _ (List.mem_of_getElem? (i := 11) rfl)
theorem vt_1452 : (.code ⟨"FamilyKernelModel", "reserved", "()Z"⟩ prog_14_method_18_code 1 (some .boolean) : Cond) ∈ vT := inR_36 _ (List.mem_of_getElem? (i := 12) rfl)
theorem vt_1453 : (.methodLink "FamilyKernelModel" 373 ⟨"FamilyKernelModel", "constant", "(I)I"⟩ : Cond) ∈ vT := inR_36 _ (List.mem_of_getElem? (i := 13) rfl)
theorem vt_1454 : (.instanceMethod ⟨"FamilyKernelModel", "constant", "(I)I"⟩ : Cond) ∈ vT := inR_36 _ (List.mem_of_getElem? (i := 14) rfl)
theorem vt_1455 : (.selects "FamilyKernelModel" ⟨"FamilyKernelModel", "constant", "(I)I"⟩ ⟨"FamilyKernelModel", "constant", "(I)I"⟩ : Cond) ∈ vT := inR_36 _ (List.mem_of_getElem? (i := 15) rfl)
theorem vt_1456 : (.code ⟨"FamilyKernelModel", "constant", "(I)I"⟩ prog_14_method_39_code 3 (some .int) : Cond) ∈ vT := inR_36 _ (List.mem_of_getElem? (i := 16) rfl)
theorem vt_1457 : (.classLink "FamilyKernelModel" 1 "FamilyKernelModel$Wrong" : Cond) ∈ vT := inR_36 _ (List.mem_of_getElem? (i := 17) rfl)
theorem vt_1458 : (.initialized "FamilyKernelModel$Wrong" : Cond) ∈ vT := inR_36 _ (List.mem_of_getElem? (i := 18) rfl)
theorem vt_1459 : (.instantiable "FamilyKernelModel$Wrong" 8 : Cond) ∈ vT := inR_36 _ (List.mem_of_getElem? (i := 19) rfl)
theorem vt_1460 : (.methodLink "FamilyKernelModel" 3 ⟨"FamilyKernelModel$Wrong", "<init>", "(II)V"⟩ : Cond) ∈ vT := inR_36 _ (List.mem_of_getElem? (i := 20) rfl)
theorem vt_1461 : (.instanceMethod ⟨"FamilyKernelModel$Wrong", "<init>", "(II)V"⟩ : Cond) ∈ vT := inR_36 _ (List.mem_of_getElem? (i := 21) rfl)
theorem vt_1462 : (.code ⟨"FamilyKernelModel$Wrong", "<init>", "(II)V"⟩ prog_15_method_1_code 3 none : Cond) ∈ vT := inR_36 _ (List.mem_of_getElem? (i := 22) rfl)
theorem vt_1463 : (.methodLink "FamilyKernelModel" 323 ⟨"FamilyKernelModel", "fails", "(I)LFamilyKernelModel$Wrong;"⟩ : Cond) ∈ vT := inR_36 _ (List.mem_of_getElem? (i := 23) rfl)
theorem vt_1464 : (.static ⟨"FamilyKernelModel", "fails", "(I)LFamilyKernelModel$Wrong;"⟩ : Cond) ∈ vT := inR_36 _ (List.mem_of_getElem? (i := 24) rfl)
theorem vt_1465 : (.code ⟨"FamilyKernelModel", "fails", "(I)LFamilyKernelModel$Wrong;"⟩ prog_14_method_1_code 1 (some (.object "FamilyKernelModel$Wrong")) : Cond) ∈ vT := inR_36 _ (List.mem_of_getElem? (i := 25) rfl)
theorem vt_1466 : (.methodLink "FamilyKernelModel$Wrong" 1 ⟨"java/lang/RuntimeException", "<init>", "(Ljava/lang/String;Ljava/lang/Throwable;ZZ)V"⟩ : Cond) ∈ vT := inR_36 _ (List.mem_of_getElem? (i := 26) rfl)
theorem vt_1467 : (.initialized "java/lang/RuntimeException" : Cond) ∈ vT := inR_36 _ (List.mem_of_getElem? (i := 27) rfl)
theorem vt_1468 : (.instanceMethod ⟨"java/lang/RuntimeException", "<init>", "(Ljava/lang/String;Ljava/lang/Throwable;ZZ)V"⟩ : Cond) ∈ vT := inR_36 _ (List.mem_of_getElem? (i := 28) rfl)
theorem vt_1469 : (.code ⟨"java/lang/RuntimeException", "<init>", "(Ljava/lang/String;Ljava/lang/Throwable;ZZ)V"⟩ prog_22_method_5_code 5 none : Cond) ∈ vT := inR_36 _ (List.mem_of_getElem? (i := 29) rfl)
theorem vt_1470 : (.fieldLink "FamilyKernelModel$Wrong" 7 "FamilyKernelModel$Wrong" "kind" "I" : Cond) ∈ vT := inR_36 _ (List.mem_of_getElem? (i := 30) rfl)
theorem vt_1471 : (.fieldLink "FamilyKernelModel$Wrong" 13 "FamilyKernelModel$Wrong" "place" "I" : Cond) ∈ vT := inR_36 _ (List.mem_of_getElem? (i := 31) rfl)
theorem vt_1472 : (.methodLink "FamilyKernelModel" 376 ⟨"FamilyKernelModel", "spelled", "(II[B)Z"⟩ : Cond) ∈ vT := inR_36 _ (List.mem_of_getElem? (i := 32) rfl)
theorem vt_1473 : (.instanceMethod ⟨"FamilyKernelModel", "spelled", "(II[B)Z"⟩ : Cond) ∈ vT := inR_36 _ (List.mem_of_getElem? (i := 33) rfl)
theorem vt_1474 : (.selects "FamilyKernelModel" ⟨"FamilyKernelModel", "spelled", "(II[B)Z"⟩ ⟨"FamilyKernelModel", "spelled", "(II[B)Z"⟩ : Cond) ∈ vT := inR_36 _ (List.mem_of_getElem? (i := 34) rfl)
theorem vt_1475 : (.code ⟨"FamilyKernelModel", "spelled", "(II[B)Z"⟩ prog_14_method_37_code 5 (some .boolean) : Cond) ∈ vT := inR_36 _ (List.mem_of_getElem? (i := 35) rfl)
theorem vt_1476 : (.methodLink "FamilyKernelModel" 384 ⟨"FamilyKernelModel", "binding", "(II)I"⟩ : Cond) ∈ vT := inR_36 _ (List.mem_of_getElem? (i := 36) rfl)
theorem vt_1477 : (.instanceMethod ⟨"FamilyKernelModel", "binding", "(II)I"⟩ : Cond) ∈ vT := inR_36 _ (List.mem_of_getElem? (i := 37) rfl)
theorem vt_1478 : (.selects "FamilyKernelModel" ⟨"FamilyKernelModel", "binding", "(II)I"⟩ ⟨"FamilyKernelModel", "binding", "(II)I"⟩ : Cond) ∈ vT := inR_36 _ (List.mem_of_getElem? (i := 38) rfl)
theorem vt_1479 : (.code ⟨"FamilyKernelModel", "binding", "(II)I"⟩ prog_14_method_44_code 7 (some .int) : Cond) ∈ vT := inR_36 _ (List.mem_of_getElem? (i := 39) rfl)
theorem vt_1480 : (.methodLink "FamilyKernelModel" 387 ⟨"FamilyKernelModel", "letting", "(I)I"⟩ : Cond) ∈ vT := inR_37 _ (List.mem_of_getElem? (i := 0) rfl)
theorem vt_1481 : (.instanceMethod ⟨"FamilyKernelModel", "letting", "(I)I"⟩ : Cond) ∈ vT := inR_37 _ (List.mem_of_getElem? (i := 1) rfl)
theorem vt_1482 : (.selects "FamilyKernelModel" ⟨"FamilyKernelModel", "letting", "(I)I"⟩ ⟨"FamilyKernelModel", "letting", "(I)I"⟩ : Cond) ∈ vT := inR_37 _ (List.mem_of_getElem? (i := 2) rfl)
theorem vt_1483 : (.code ⟨"FamilyKernelModel", "letting", "(I)I"⟩ prog_14_method_45_code 7 (some .int) : Cond) ∈ vT := inR_37 _ (List.mem_of_getElem? (i := 3) rfl)
theorem vt_1484 : (.methodLink "FamilyKernelModel" 390 ⟨"FamilyKernelModel", "applied", "(I)I"⟩ : Cond) ∈ vT := inR_37 _ (List.mem_of_getElem? (i := 4) rfl)
theorem vt_1485 : (.instanceMethod ⟨"FamilyKernelModel", "applied", "(I)I"⟩ : Cond) ∈ vT := inR_37 _ (List.mem_of_getElem? (i := 5) rfl)
theorem vt_1486 : (.selects "FamilyKernelModel" ⟨"FamilyKernelModel", "applied", "(I)I"⟩ ⟨"FamilyKernelModel", "applied", "(I)I"⟩ : Cond) ∈ vT := inR_37 _ (List.mem_of_getElem? (i := 6) rfl)
theorem vt_1487 : (.code ⟨"FamilyKernelModel", "applied", "(I)I"⟩ prog_14_method_47_code 3 (some .int) : Cond) ∈ vT := inR_37 _ (List.mem_of_getElem? (i := 7) rfl)
theorem vt_1488 : (.methodLink "FamilyKernelModel" 393 ⟨"FamilyKernelModel", "bindName", "(II)V"⟩ : Cond) ∈ vT := inR_37 _ (List.mem_of_getElem? (i := 8) rfl)
theorem vt_1489 : (.instanceMethod ⟨"FamilyKernelModel", "bindName", "(II)V"⟩ : Cond) ∈ vT := inR_37 _ (List.mem_of_getElem? (i := 9) rfl)
theorem vt_1490 : (.selects "FamilyKernelModel" ⟨"FamilyKernelModel", "bindName", "(II)V"⟩ ⟨"FamilyKernelModel", "bindName", "(II)V"⟩ : Cond) ∈ vT := inR_37 _ (List.mem_of_getElem? (i := 10) rfl)
theorem vt_1491 : (.code ⟨"FamilyKernelModel", "bindName", "(II)V"⟩ prog_14_method_40_code 3 none : Cond) ∈ vT := inR_37 _ (List.mem_of_getElem? (i := 11) rfl)
theorem vt_1492 : (.methodLink "FamilyKernelModel" 396 ⟨"FamilyKernelModel", "nest", "(I)I"⟩ : Cond) ∈ vT := inR_37 _ (List.mem_of_getElem? (i := 12) rfl)
theorem vt_1493 : (.instanceMethod ⟨"FamilyKernelModel", "nest", "(I)I"⟩ : Cond) ∈ vT := inR_37 _ (List.mem_of_getElem? (i := 13) rfl)
theorem vt_1494 : (.selects "FamilyKernelModel" ⟨"FamilyKernelModel", "nest", "(I)I"⟩ ⟨"FamilyKernelModel", "nest", "(I)I"⟩ : Cond) ∈ vT := inR_37 _ (List.mem_of_getElem? (i := 14) rfl)
theorem vt_1495 : (.code ⟨"FamilyKernelModel", "nest", "(I)I"⟩ prog_14_method_19_code 2 (some .int) : Cond) ∈ vT := inR_37 _ (List.mem_of_getElem? (i := 15) rfl)
theorem vt_1496 : (.methodLink "FamilyKernelModel" 336 ⟨"FamilyKernelModel", "node", "(IIII)I"⟩ : Cond) ∈ vT := inR_37 _ (List.mem_of_getElem? (i := 16) rfl)
theorem vt_1497 : (.instanceMethod ⟨"FamilyKernelModel", "node", "(IIII)I"⟩ : Cond) ∈ vT := inR_37 _ (List.mem_of_getElem? (i := 17) rfl)
theorem vt_1498 : (.selects "FamilyKernelModel" ⟨"FamilyKernelModel", "node", "(IIII)I"⟩ ⟨"FamilyKernelModel", "node", "(IIII)I"⟩ : Cond) ∈ vT := inR_37 _ (List.mem_of_getElem? (i := 18) rfl)
theorem vt_1499 : (.code ⟨"FamilyKernelModel", "node", "(IIII)I"⟩ prog_14_method_20_code 6 (some .int) : Cond) ∈ vT := inR_37 _ (List.mem_of_getElem? (i := 19) rfl)
theorem vt_1500 : (.methodLink "FamilyKernelModel" 402 ⟨"FamilyKernelModel", "fits", "(I)I"⟩ : Cond) ∈ vT := inR_37 _ (List.mem_of_getElem? (i := 20) rfl)
theorem vt_1501 : (.instanceMethod ⟨"FamilyKernelModel", "fits", "(I)I"⟩ : Cond) ∈ vT := inR_37 _ (List.mem_of_getElem? (i := 21) rfl)
theorem vt_1502 : (.selects "FamilyKernelModel" ⟨"FamilyKernelModel", "fits", "(I)I"⟩ ⟨"FamilyKernelModel", "fits", "(I)I"⟩ : Cond) ∈ vT := inR_37 _ (List.mem_of_getElem? (i := 22) rfl)
theorem vt_1503 : (.code ⟨"FamilyKernelModel", "fits", "(I)I"⟩ prog_14_method_24_code 2 (some .int) : Cond) ∈ vT := inR_37 _ (List.mem_of_getElem? (i := 23) rfl)
theorem vt_1504 : (.methodLink "FamilyKernelModel" 409 ⟨"FamilyKernelModel", "binders", "(I)I"⟩ : Cond) ∈ vT := inR_37 _ (List.mem_of_getElem? (i := 24) rfl)
theorem vt_1505 : (.instanceMethod ⟨"FamilyKernelModel", "binders", "(I)I"⟩ : Cond) ∈ vT := inR_37 _ (List.mem_of_getElem? (i := 25) rfl)
theorem vt_1506 : (.selects "FamilyKernelModel" ⟨"FamilyKernelModel", "binders", "(I)I"⟩ ⟨"FamilyKernelModel", "binders", "(I)I"⟩ : Cond) ∈ vT := inR_37 _ (List.mem_of_getElem? (i := 26) rfl)
theorem vt_1507 : (.code ⟨"FamilyKernelModel", "binders", "(I)I"⟩ prog_14_method_43_code 9 (some .int) : Cond) ∈ vT := inR_37 _ (List.mem_of_getElem? (i := 27) rfl)
theorem vt_1508 : (.constant "FamilyKernelModel" 327 1000000 : Cond) ∈ vT := inR_37 _ (List.mem_of_getElem? (i := 28) rfl)
theorem vt_1509 : (.methodLink "FamilyKernelModel" 328 ⟨"java/lang/Math", "min", "(II)I"⟩ : Cond) ∈ vT := inR_37 _ (List.mem_of_getElem? (i := 29) rfl)
theorem vt_1510 : (.methodLink "FamilyKernelModel" 333 ⟨"java/lang/Math", "max", "(II)I"⟩ : Cond) ∈ vT := inR_37 _ (List.mem_of_getElem? (i := 30) rfl)
theorem vt_1511 : (.methodLink "FamilyKernelModel" 412 ⟨"FamilyKernelModel", "mustBe", "(Ljava/lang/String;)V"⟩ : Cond) ∈ vT := inR_37 _ (List.mem_of_getElem? (i := 31) rfl)
theorem vt_1512 : (.instanceMethod ⟨"FamilyKernelModel", "mustBe", "(Ljava/lang/String;)V"⟩ : Cond) ∈ vT := inR_37 _ (List.mem_of_getElem? (i := 32) rfl)
theorem vt_1513 : (.selects "FamilyKernelModel" ⟨"FamilyKernelModel", "mustBe", "(Ljava/lang/String;)V"⟩ ⟨"FamilyKernelModel", "mustBe", "(Ljava/lang/String;)V"⟩ : Cond) ∈ vT := inR_37 _ (List.mem_of_getElem? (i := 33) rfl)
theorem vt_1514 : (.code ⟨"FamilyKernelModel", "mustBe", "(Ljava/lang/String;)V"⟩ prog_14_method_17_code 2 none : Cond) ∈ vT := inR_37 _ (List.mem_of_getElem? (i := 34) rfl)
theorem vt_1515 : (.methodLink "FamilyKernelModel" 416 ⟨"FamilyKernelModel", "atom", "(I)I"⟩ : Cond) ∈ vT := inR_37 _ (List.mem_of_getElem? (i := 35) rfl)
theorem vt_1516 : (.instanceMethod ⟨"FamilyKernelModel", "atom", "(I)I"⟩ : Cond) ∈ vT := inR_37 _ (List.mem_of_getElem? (i := 36) rfl)
theorem vt_1517 : (.selects "FamilyKernelModel" ⟨"FamilyKernelModel", "atom", "(I)I"⟩ ⟨"FamilyKernelModel", "atom", "(I)I"⟩ : Cond) ∈ vT := inR_37 _ (List.mem_of_getElem? (i := 37) rfl)
theorem vt_1518 : (.code ⟨"FamilyKernelModel", "atom", "(I)I"⟩ prog_14_method_48_code 3 (some .int) : Cond) ∈ vT := inR_37 _ (List.mem_of_getElem? (i := 38) rfl)
theorem vt_1519 : (.methodLink "FamilyKernelModel" 419 ⟨"FamilyKernelModel", "atomHere", "()Z"⟩ : Cond) ∈ vT := inR_37 _ (List.mem_of_getElem? (i := 39) rfl)
theorem vt_1520 : (.instanceMethod ⟨"FamilyKernelModel", "atomHere", "()Z"⟩ : Cond) ∈ vT := inR_38 _ (List.mem_of_getElem? (i := 0) rfl)
theorem vt_1521 : (.selects "FamilyKernelModel" ⟨"FamilyKernelModel", "atomHere", "()Z"⟩ ⟨"FamilyKernelModel", "atomHere", "()Z"⟩ : Cond) ∈ vT := inR_38 _ (List.mem_of_getElem? (i := 1) rfl)
theorem vt_1522 : (.code ⟨"FamilyKernelModel", "atomHere", "()Z"⟩ prog_14_method_46_code 1 (some .boolean) : Cond) ∈ vT := inR_38 _ (List.mem_of_getElem? (i := 2) rfl)
theorem vt_1523 : (.methodLink "FamilyKernelModel" 350 ⟨"FamilyKernelModel", "apply", "(II)I"⟩ : Cond) ∈ vT := inR_38 _ (List.mem_of_getElem? (i := 3) rfl)
theorem vt_1524 : (.instanceMethod ⟨"FamilyKernelModel", "apply", "(II)I"⟩ : Cond) ∈ vT := inR_38 _ (List.mem_of_getElem? (i := 4) rfl)
theorem vt_1525 : (.selects "FamilyKernelModel" ⟨"FamilyKernelModel", "apply", "(II)I"⟩ ⟨"FamilyKernelModel", "apply", "(II)I"⟩ : Cond) ∈ vT := inR_38 _ (List.mem_of_getElem? (i := 5) rfl)
theorem vt_1526 : (.code ⟨"FamilyKernelModel", "apply", "(II)I"⟩ prog_14_method_22_code 3 (some .int) : Cond) ∈ vT := inR_38 _ (List.mem_of_getElem? (i := 6) rfl)
theorem vt_1527 : (.methodLink "FamilyKernelModel" 422 ⟨"FamilyKernelModel", "sortHere", "()I"⟩ : Cond) ∈ vT := inR_38 _ (List.mem_of_getElem? (i := 7) rfl)
theorem vt_1528 : (.instanceMethod ⟨"FamilyKernelModel", "sortHere", "()I"⟩ : Cond) ∈ vT := inR_38 _ (List.mem_of_getElem? (i := 8) rfl)
theorem vt_1529 : (.selects "FamilyKernelModel" ⟨"FamilyKernelModel", "sortHere", "()I"⟩ ⟨"FamilyKernelModel", "sortHere", "()I"⟩ : Cond) ∈ vT := inR_38 _ (List.mem_of_getElem? (i := 9) rfl)
theorem vt_1530 : (.code ⟨"FamilyKernelModel", "sortHere", "()I"⟩ prog_14_method_49_code 3 (some .int) : Cond) ∈ vT := inR_38 _ (List.mem_of_getElem? (i := 10) rfl)
theorem vt_1531 : (.methodLink "FamilyKernelModel" 356 ⟨"FamilyKernelModel", "sort", "(I)I"⟩ : Cond) ∈ vT := inR_38 _ (List.mem_of_getElem? (i := 11) rfl)
theorem vt_1532 : (.instanceMethod ⟨"FamilyKernelModel", "sort", "(I)I"⟩ : Cond) ∈ vT := inR_38 _ (List.mem_of_getElem? (i := 12) rfl)
theorem vt_1533 : (.selects "FamilyKernelModel" ⟨"FamilyKernelModel", "sort", "(I)I"⟩ ⟨"FamilyKernelModel", "sort", "(I)I"⟩ : Cond) ∈ vT := inR_38 _ (List.mem_of_getElem? (i := 13) rfl)
theorem vt_1534 : (.code ⟨"FamilyKernelModel", "sort", "(I)I"⟩ prog_14_method_21_code 2 (some .int) : Cond) ∈ vT := inR_38 _ (List.mem_of_getElem? (i := 14) rfl)
theorem vt_1535 : (.methodLink "FamilyKernelModel" 425 ⟨"FamilyKernelModel", "constant", "()I"⟩ : Cond) ∈ vT := inR_38 _ (List.mem_of_getElem? (i := 15) rfl)
theorem vt_1536 : (.instanceMethod ⟨"FamilyKernelModel", "constant", "()I"⟩ : Cond) ∈ vT := inR_38 _ (List.mem_of_getElem? (i := 16) rfl)
theorem vt_1537 : (.selects "FamilyKernelModel" ⟨"FamilyKernelModel", "constant", "()I"⟩ ⟨"FamilyKernelModel", "constant", "()I"⟩ : Cond) ∈ vT := inR_38 _ (List.mem_of_getElem? (i := 17) rfl)
theorem vt_1538 : (.code ⟨"FamilyKernelModel", "constant", "()I"⟩ prog_14_method_38_code 1 (some .int) : Cond) ∈ vT := inR_38 _ (List.mem_of_getElem? (i := 18) rfl)
theorem vt_1539 : (.methodLink "FamilyKernelModel" 513 ⟨"FamilyKernelModel", "whole", "(III)I"⟩ : Cond) ∈ vT := inR_38 _ (List.mem_of_getElem? (i := 19) rfl)
theorem vt_1540 : (.instanceMethod ⟨"FamilyKernelModel", "whole", "(III)I"⟩ : Cond) ∈ vT := inR_38 _ (List.mem_of_getElem? (i := 20) rfl)
theorem vt_1541 : (.selects "FamilyKernelModel" ⟨"FamilyKernelModel", "whole", "(III)I"⟩ ⟨"FamilyKernelModel", "whole", "(III)I"⟩ : Cond) ∈ vT := inR_38 _ (List.mem_of_getElem? (i := 21) rfl)
theorem vt_1542 : (.code ⟨"FamilyKernelModel", "whole", "(III)I"⟩ prog_14_method_29_code 4 (some .int) : Cond) ∈ vT := inR_38 _ (List.mem_of_getElem? (i := 22) rfl)
theorem vt_1543 : (.methodLink "FamilyKernelModel" 359 ⟨"FamilyKernelModel", "mapped", "(IIIII)I"⟩ : Cond) ∈ vT := inR_38 _ (List.mem_of_getElem? (i := 23) rfl)
theorem vt_1544 : (.instanceMethod ⟨"FamilyKernelModel", "mapped", "(IIIII)I"⟩ : Cond) ∈ vT := inR_38 _ (List.mem_of_getElem? (i := 24) rfl)
theorem vt_1545 : (.selects "FamilyKernelModel" ⟨"FamilyKernelModel", "mapped", "(IIIII)I"⟩ ⟨"FamilyKernelModel", "mapped", "(IIIII)I"⟩ : Cond) ∈ vT := inR_38 _ (List.mem_of_getElem? (i := 25) rfl)
theorem vt_1546 : (.code ⟨"FamilyKernelModel", "mapped", "(IIIII)I"⟩ prog_14_method_28_code 6 (some .int) : Cond) ∈ vT := inR_38 _ (List.mem_of_getElem? (i := 26) rfl)
theorem vt_1547 : (.methodLink "FamilyKernelModel" 344 ⟨"FamilyKernelModel", "map", "(II)I"⟩ : Cond) ∈ vT := inR_38 _ (List.mem_of_getElem? (i := 27) rfl)
theorem vt_1548 : (.instanceMethod ⟨"FamilyKernelModel", "map", "(II)I"⟩ : Cond) ∈ vT := inR_38 _ (List.mem_of_getElem? (i := 28) rfl)
theorem vt_1549 : (.selects "FamilyKernelModel" ⟨"FamilyKernelModel", "map", "(II)I"⟩ ⟨"FamilyKernelModel", "map", "(II)I"⟩ : Cond) ∈ vT := inR_38 _ (List.mem_of_getElem? (i := 29) rfl)
theorem vt_1550 : (.code ⟨"FamilyKernelModel", "map", "(II)I"⟩ prog_14_method_26_code 9 (some .int) : Cond) ∈ vT := inR_38 _ (List.mem_of_getElem? (i := 30) rfl)
theorem vt_1551 : (.methodLink "FamilyKernelModel" 347 ⟨"FamilyKernelModel", "leaf", "(II)I"⟩ : Cond) ∈ vT := inR_38 _ (List.mem_of_getElem? (i := 31) rfl)
theorem vt_1552 : (.instanceMethod ⟨"FamilyKernelModel", "leaf", "(II)I"⟩ : Cond) ∈ vT := inR_38 _ (List.mem_of_getElem? (i := 32) rfl)
theorem vt_1553 : (.selects "FamilyKernelModel" ⟨"FamilyKernelModel", "leaf", "(II)I"⟩ ⟨"FamilyKernelModel", "leaf", "(II)I"⟩ : Cond) ∈ vT := inR_38 _ (List.mem_of_getElem? (i := 33) rfl)
theorem vt_1554 : (.code ⟨"FamilyKernelModel", "leaf", "(II)I"⟩ prog_14_method_27_code 4 (some .int) : Cond) ∈ vT := inR_38 _ (List.mem_of_getElem? (i := 34) rfl)
theorem vt_1555 : (.methodLink "FamilyKernelModel" 353 ⟨"FamilyKernelModel", "free", "(I)I"⟩ : Cond) ∈ vT := inR_38 _ (List.mem_of_getElem? (i := 35) rfl)
theorem vt_1556 : (.instanceMethod ⟨"FamilyKernelModel", "free", "(I)I"⟩ : Cond) ∈ vT := inR_38 _ (List.mem_of_getElem? (i := 36) rfl)
theorem vt_1557 : (.selects "FamilyKernelModel" ⟨"FamilyKernelModel", "free", "(I)I"⟩ ⟨"FamilyKernelModel", "free", "(I)I"⟩ : Cond) ∈ vT := inR_38 _ (List.mem_of_getElem? (i := 37) rfl)
theorem vt_1558 : (.code ⟨"FamilyKernelModel", "free", "(I)I"⟩ prog_14_method_23_code 2 (some .int) : Cond) ∈ vT := inR_38 _ (List.mem_of_getElem? (i := 38) rfl)
theorem vt_1559 : (.methodLink "FamilyKernelModel" 479 ⟨"FamilyKernelModel", "infer", "(II)I"⟩ : Cond) ∈ vT := inR_38 _ (List.mem_of_getElem? (i := 39) rfl)
theorem vt_1560 : (.instanceMethod ⟨"FamilyKernelModel", "infer", "(II)I"⟩ : Cond) ∈ vT := inR_39 _ (List.mem_of_getElem? (i := 0) rfl)
theorem vt_1561 : (.selects "FamilyKernelModel" ⟨"FamilyKernelModel", "infer", "(II)I"⟩ ⟨"FamilyKernelModel", "infer", "(II)I"⟩ : Cond) ∈ vT := inR_39 _ (List.mem_of_getElem? (i := 1) rfl)
theorem vt_1562 : (.code ⟨"FamilyKernelModel", "infer", "(II)I"⟩ prog_14_method_64_code 8 (some .int) : Cond) ∈ vT := inR_39 _ (List.mem_of_getElem? (i := 2) rfl)
theorem vt_1563 : (.methodLink "FamilyKernelModel" 458 ⟨"FamilyKernelModel", "whnf", "(I)I"⟩ : Cond) ∈ vT := inR_39 _ (List.mem_of_getElem? (i := 3) rfl)
theorem vt_1564 : (.instanceMethod ⟨"FamilyKernelModel", "whnf", "(I)I"⟩ : Cond) ∈ vT := inR_39 _ (List.mem_of_getElem? (i := 4) rfl)
theorem vt_1565 : (.selects "FamilyKernelModel" ⟨"FamilyKernelModel", "whnf", "(I)I"⟩ ⟨"FamilyKernelModel", "whnf", "(I)I"⟩ : Cond) ∈ vT := inR_39 _ (List.mem_of_getElem? (i := 5) rfl)
theorem vt_1566 : (.code ⟨"FamilyKernelModel", "whnf", "(I)I"⟩ prog_14_method_59_code 4 (some .int) : Cond) ∈ vT := inR_39 _ (List.mem_of_getElem? (i := 6) rfl)
theorem vt_1567 : (.methodLink "FamilyKernelModel" 461 ⟨"FamilyKernelModel", "leveled", "(II)I"⟩ : Cond) ∈ vT := inR_39 _ (List.mem_of_getElem? (i := 7) rfl)
theorem vt_1568 : (.instanceMethod ⟨"FamilyKernelModel", "leveled", "(II)I"⟩ : Cond) ∈ vT := inR_39 _ (List.mem_of_getElem? (i := 8) rfl)
theorem vt_1569 : (.selects "FamilyKernelModel" ⟨"FamilyKernelModel", "leveled", "(II)I"⟩ ⟨"FamilyKernelModel", "leveled", "(II)I"⟩ : Cond) ∈ vT := inR_39 _ (List.mem_of_getElem? (i := 9) rfl)
theorem vt_1570 : (.code ⟨"FamilyKernelModel", "leveled", "(II)I"⟩ prog_14_method_33_code 3 (some .int) : Cond) ∈ vT := inR_39 _ (List.mem_of_getElem? (i := 10) rfl)
theorem vt_1571 : (.methodLink "FamilyKernelModel" 434 ⟨"FamilyKernelModel", "costs", "(I)V"⟩ : Cond) ∈ vT := inR_39 _ (List.mem_of_getElem? (i := 11) rfl)
theorem vt_1572 : (.instanceMethod ⟨"FamilyKernelModel", "costs", "(I)V"⟩ : Cond) ∈ vT := inR_39 _ (List.mem_of_getElem? (i := 12) rfl)
theorem vt_1573 : (.selects "FamilyKernelModel" ⟨"FamilyKernelModel", "costs", "(I)V"⟩ ⟨"FamilyKernelModel", "costs", "(I)V"⟩ : Cond) ∈ vT := inR_39 _ (List.mem_of_getElem? (i := 13) rfl)
theorem vt_1574 : (.code ⟨"FamilyKernelModel", "costs", "(I)V"⟩ prog_14_method_50_code 2 none : Cond) ∈ vT := inR_39 _ (List.mem_of_getElem? (i := 14) rfl)
theorem vt_1575 : (.methodLink "FamilyKernelModel" 468 ⟨"FamilyKernelModel", "fresh", "(I)I"⟩ : Cond) ∈ vT := inR_39 _ (List.mem_of_getElem? (i := 15) rfl)
theorem vt_1576 : (.instanceMethod ⟨"FamilyKernelModel", "fresh", "(I)I"⟩ : Cond) ∈ vT := inR_39 _ (List.mem_of_getElem? (i := 16) rfl)
theorem vt_1577 : (.selects "FamilyKernelModel" ⟨"FamilyKernelModel", "fresh", "(I)I"⟩ ⟨"FamilyKernelModel", "fresh", "(I)I"⟩ : Cond) ∈ vT := inR_39 _ (List.mem_of_getElem? (i := 17) rfl)
theorem vt_1578 : (.code ⟨"FamilyKernelModel", "fresh", "(I)I"⟩ prog_14_method_51_code 2 (some .int) : Cond) ∈ vT := inR_39 _ (List.mem_of_getElem? (i := 18) rfl)
theorem vt_1579 : (.methodLink "FamilyKernelModel" 471 ⟨"FamilyKernelModel", "open", "(II)I"⟩ : Cond) ∈ vT := inR_39 _ (List.mem_of_getElem? (i := 19) rfl)
theorem vt_1580 : (.instanceMethod ⟨"FamilyKernelModel", "open", "(II)I"⟩ : Cond) ∈ vT := inR_39 _ (List.mem_of_getElem? (i := 20) rfl)
theorem vt_1581 : (.selects "FamilyKernelModel" ⟨"FamilyKernelModel", "open", "(II)I"⟩ ⟨"FamilyKernelModel", "open", "(II)I"⟩ : Cond) ∈ vT := inR_39 _ (List.mem_of_getElem? (i := 21) rfl)
theorem vt_1582 : (.code ⟨"FamilyKernelModel", "open", "(II)I"⟩ prog_14_method_53_code 4 (some .int) : Cond) ∈ vT := inR_39 _ (List.mem_of_getElem? (i := 22) rfl)
theorem vt_1583 : (.methodLink "FamilyKernelModel" 482 ⟨"FamilyKernelModel", "close", "(II)I"⟩ : Cond) ∈ vT := inR_39 _ (List.mem_of_getElem? (i := 23) rfl)
theorem vt_1584 : (.instanceMethod ⟨"FamilyKernelModel", "close", "(II)I"⟩ : Cond) ∈ vT := inR_39 _ (List.mem_of_getElem? (i := 24) rfl)
theorem vt_1585 : (.selects "FamilyKernelModel" ⟨"FamilyKernelModel", "close", "(II)I"⟩ ⟨"FamilyKernelModel", "close", "(II)I"⟩ : Cond) ∈ vT := inR_39 _ (List.mem_of_getElem? (i := 25) rfl)
theorem vt_1586 : (.code ⟨"FamilyKernelModel", "close", "(II)I"⟩ prog_14_method_54_code 4 (some .int) : Cond) ∈ vT := inR_39 _ (List.mem_of_getElem? (i := 26) rfl)
theorem vt_1587 : (.methodLink "FamilyKernelModel" 488 ⟨"FamilyKernelModel", "inferApplied", "(II)I"⟩ : Cond) ∈ vT := inR_39 _ (List.mem_of_getElem? (i := 27) rfl)
theorem vt_1588 : (.instanceMethod ⟨"FamilyKernelModel", "inferApplied", "(II)I"⟩ : Cond) ∈ vT := inR_39 _ (List.mem_of_getElem? (i := 28) rfl)
theorem vt_1589 : (.selects "FamilyKernelModel" ⟨"FamilyKernelModel", "inferApplied", "(II)I"⟩ ⟨"FamilyKernelModel", "inferApplied", "(II)I"⟩ : Cond) ∈ vT := inR_39 _ (List.mem_of_getElem? (i := 29) rfl)
theorem vt_1590 : (.code ⟨"FamilyKernelModel", "inferApplied", "(II)I"⟩ prog_14_method_65_code 8 (some .int) : Cond) ∈ vT := inR_39 _ (List.mem_of_getElem? (i := 30) rfl)
theorem vt_1591 : (.constant "FamilyKernelModel" 427 60000 : Cond) ∈ vT := inR_39 _ (List.mem_of_getElem? (i := 31) rfl)
theorem vt_1592 : (.methodLink "FamilyKernelModel" 431 ⟨"FamilyKernelModel", "opened", "(II)I"⟩ : Cond) ∈ vT := inR_39 _ (List.mem_of_getElem? (i := 32) rfl)
theorem vt_1593 : (.instanceMethod ⟨"FamilyKernelModel", "opened", "(II)I"⟩ : Cond) ∈ vT := inR_39 _ (List.mem_of_getElem? (i := 33) rfl)
theorem vt_1594 : (.selects "FamilyKernelModel" ⟨"FamilyKernelModel", "opened", "(II)I"⟩ ⟨"FamilyKernelModel", "opened", "(II)I"⟩ : Cond) ∈ vT := inR_39 _ (List.mem_of_getElem? (i := 34) rfl)
theorem vt_1595 : (.code ⟨"FamilyKernelModel", "opened", "(II)I"⟩ prog_14_method_52_code 3 (some .int) : Cond) ∈ vT := inR_39 _ (List.mem_of_getElem? (i := 35) rfl)
theorem vt_1596 : (.methodLink "FamilyKernelModel" 363 ⟨"FamilyKernelModel", "sizeWith", "(III)I"⟩ : Cond) ∈ vT := inR_39 _ (List.mem_of_getElem? (i := 36) rfl)
theorem vt_1597 : (.instanceMethod ⟨"FamilyKernelModel", "sizeWith", "(III)I"⟩ : Cond) ∈ vT := inR_39 _ (List.mem_of_getElem? (i := 37) rfl)
theorem vt_1598 : (.selects "FamilyKernelModel" ⟨"FamilyKernelModel", "sizeWith", "(III)I"⟩ ⟨"FamilyKernelModel", "sizeWith", "(III)I"⟩ : Cond) ∈ vT := inR_39 _ (List.mem_of_getElem? (i := 38) rfl)
theorem vt_1599 : (.code ⟨"FamilyKernelModel", "sizeWith", "(III)I"⟩ prog_14_method_34_code 6 (some .int) : Cond) ∈ vT := inR_39 _ (List.mem_of_getElem? (i := 39) rfl)
theorem vt_1600 : (.methodLink "FamilyKernelModel" 428 ⟨"FamilyKernelModel", "put", "(II)I"⟩ : Cond) ∈ vT := inR_40 _ (List.mem_of_getElem? (i := 0) rfl)
theorem vt_1601 : (.instanceMethod ⟨"FamilyKernelModel", "put", "(II)I"⟩ : Cond) ∈ vT := inR_40 _ (List.mem_of_getElem? (i := 1) rfl)
theorem vt_1602 : (.selects "FamilyKernelModel" ⟨"FamilyKernelModel", "put", "(II)I"⟩ ⟨"FamilyKernelModel", "put", "(II)I"⟩ : Cond) ∈ vT := inR_40 _ (List.mem_of_getElem? (i := 2) rfl)
theorem vt_1603 : (.code ⟨"FamilyKernelModel", "put", "(II)I"⟩ prog_14_method_30_code 3 (some .int) : Cond) ∈ vT := inR_40 _ (List.mem_of_getElem? (i := 3) rfl)
theorem vt_1604 : (.methodLink "FamilyKernelModel" 437 ⟨"FamilyKernelModel", "back", "(II)I"⟩ : Cond) ∈ vT := inR_40 _ (List.mem_of_getElem? (i := 4) rfl)
theorem vt_1605 : (.instanceMethod ⟨"FamilyKernelModel", "back", "(II)I"⟩ : Cond) ∈ vT := inR_40 _ (List.mem_of_getElem? (i := 5) rfl)
theorem vt_1606 : (.selects "FamilyKernelModel" ⟨"FamilyKernelModel", "back", "(II)I"⟩ ⟨"FamilyKernelModel", "back", "(II)I"⟩ : Cond) ∈ vT := inR_40 _ (List.mem_of_getElem? (i := 6) rfl)
theorem vt_1607 : (.code ⟨"FamilyKernelModel", "back", "(II)I"⟩ prog_14_method_31_code 3 (some .int) : Cond) ∈ vT := inR_40 _ (List.mem_of_getElem? (i := 7) rfl)
theorem vt_1608 : (.methodLink "FamilyKernelModel" 464 ⟨"FamilyKernelModel", "conv", "(III)Z"⟩ : Cond) ∈ vT := inR_40 _ (List.mem_of_getElem? (i := 8) rfl)
theorem vt_1609 : (.instanceMethod ⟨"FamilyKernelModel", "conv", "(III)Z"⟩ : Cond) ∈ vT := inR_40 _ (List.mem_of_getElem? (i := 9) rfl)
theorem vt_1610 : (.selects "FamilyKernelModel" ⟨"FamilyKernelModel", "conv", "(III)Z"⟩ ⟨"FamilyKernelModel", "conv", "(III)Z"⟩ : Cond) ∈ vT := inR_40 _ (List.mem_of_getElem? (i := 10) rfl)
theorem vt_1611 : (.code ⟨"FamilyKernelModel", "conv", "(III)Z"⟩ prog_14_method_62_code 10 (some .boolean) : Cond) ∈ vT := inR_40 _ (List.mem_of_getElem? (i := 11) rfl)
theorem vt_1612 : (.methodLink "FamilyKernelModel" 340 ⟨"FamilyKernelModel", "same", "(II)Z"⟩ : Cond) ∈ vT := inR_40 _ (List.mem_of_getElem? (i := 12) rfl)
theorem vt_1613 : (.instanceMethod ⟨"FamilyKernelModel", "same", "(II)Z"⟩ : Cond) ∈ vT := inR_40 _ (List.mem_of_getElem? (i := 13) rfl)
theorem vt_1614 : (.selects "FamilyKernelModel" ⟨"FamilyKernelModel", "same", "(II)Z"⟩ ⟨"FamilyKernelModel", "same", "(II)Z"⟩ : Cond) ∈ vT := inR_40 _ (List.mem_of_getElem? (i := 14) rfl)
theorem vt_1615 : (.code ⟨"FamilyKernelModel", "same", "(II)Z"⟩ prog_14_method_25_code 5 (some .boolean) : Cond) ∈ vT := inR_40 _ (List.mem_of_getElem? (i := 15) rfl)
theorem vt_1616 : (.methodLink "FamilyKernelModel" 474 ⟨"FamilyKernelModel", "alike", "(III)Z"⟩ : Cond) ∈ vT := inR_40 _ (List.mem_of_getElem? (i := 16) rfl)
theorem vt_1617 : (.instanceMethod ⟨"FamilyKernelModel", "alike", "(III)Z"⟩ : Cond) ∈ vT := inR_40 _ (List.mem_of_getElem? (i := 17) rfl)
theorem vt_1618 : (.selects "FamilyKernelModel" ⟨"FamilyKernelModel", "alike", "(III)Z"⟩ ⟨"FamilyKernelModel", "alike", "(III)Z"⟩ : Cond) ∈ vT := inR_40 _ (List.mem_of_getElem? (i := 18) rfl)
theorem vt_1619 : (.code ⟨"FamilyKernelModel", "alike", "(III)Z"⟩ prog_14_method_63_code 8 (some .boolean) : Cond) ∈ vT := inR_40 _ (List.mem_of_getElem? (i := 19) rfl)
theorem vt_1620 : (.methodLink "FamilyKernelModel" 443 ⟨"FamilyKernelModel", "step", "(I)I"⟩ : Cond) ∈ vT := inR_40 _ (List.mem_of_getElem? (i := 20) rfl)
theorem vt_1621 : (.instanceMethod ⟨"FamilyKernelModel", "step", "(I)I"⟩ : Cond) ∈ vT := inR_40 _ (List.mem_of_getElem? (i := 21) rfl)
theorem vt_1622 : (.selects "FamilyKernelModel" ⟨"FamilyKernelModel", "step", "(I)I"⟩ ⟨"FamilyKernelModel", "step", "(I)I"⟩ : Cond) ∈ vT := inR_40 _ (List.mem_of_getElem? (i := 22) rfl)
theorem vt_1623 : (.code ⟨"FamilyKernelModel", "step", "(I)I"⟩ prog_14_method_60_code 4 (some .int) : Cond) ∈ vT := inR_40 _ (List.mem_of_getElem? (i := 23) rfl)
theorem vt_1624 : (.methodLink "FamilyKernelModel" 446 ⟨"FamilyKernelModel", "head", "(I)I"⟩ : Cond) ∈ vT := inR_40 _ (List.mem_of_getElem? (i := 24) rfl)
theorem vt_1625 : (.instanceMethod ⟨"FamilyKernelModel", "head", "(I)I"⟩ : Cond) ∈ vT := inR_40 _ (List.mem_of_getElem? (i := 25) rfl)
theorem vt_1626 : (.selects "FamilyKernelModel" ⟨"FamilyKernelModel", "head", "(I)I"⟩ ⟨"FamilyKernelModel", "head", "(I)I"⟩ : Cond) ∈ vT := inR_40 _ (List.mem_of_getElem? (i := 26) rfl)
theorem vt_1627 : (.code ⟨"FamilyKernelModel", "head", "(I)I"⟩ prog_14_method_55_code 3 (some .int) : Cond) ∈ vT := inR_40 _ (List.mem_of_getElem? (i := 27) rfl)
theorem vt_1628 : (.methodLink "FamilyKernelModel" 449 ⟨"FamilyKernelModel", "behind", "(I)I"⟩ : Cond) ∈ vT := inR_40 _ (List.mem_of_getElem? (i := 28) rfl)
theorem vt_1629 : (.instanceMethod ⟨"FamilyKernelModel", "behind", "(I)I"⟩ : Cond) ∈ vT := inR_40 _ (List.mem_of_getElem? (i := 29) rfl)
theorem vt_1630 : (.selects "FamilyKernelModel" ⟨"FamilyKernelModel", "behind", "(I)I"⟩ ⟨"FamilyKernelModel", "behind", "(I)I"⟩ : Cond) ∈ vT := inR_40 _ (List.mem_of_getElem? (i := 30) rfl)
theorem vt_1631 : (.code ⟨"FamilyKernelModel", "behind", "(I)I"⟩ prog_14_method_56_code 4 (some .int) : Cond) ∈ vT := inR_40 _ (List.mem_of_getElem? (i := 31) rfl)
theorem vt_1632 : (.methodLink "FamilyKernelModel" 440 ⟨"FamilyKernelModel", "nth", "(III)I"⟩ : Cond) ∈ vT := inR_40 _ (List.mem_of_getElem? (i := 32) rfl)
theorem vt_1633 : (.instanceMethod ⟨"FamilyKernelModel", "nth", "(III)I"⟩ : Cond) ∈ vT := inR_40 _ (List.mem_of_getElem? (i := 33) rfl)
theorem vt_1634 : (.selects "FamilyKernelModel" ⟨"FamilyKernelModel", "nth", "(III)I"⟩ ⟨"FamilyKernelModel", "nth", "(III)I"⟩ : Cond) ∈ vT := inR_40 _ (List.mem_of_getElem? (i := 34) rfl)
theorem vt_1635 : (.code ⟨"FamilyKernelModel", "nth", "(III)I"⟩ prog_14_method_57_code 6 (some .int) : Cond) ∈ vT := inR_40 _ (List.mem_of_getElem? (i := 35) rfl)
theorem vt_1636 : (.methodLink "FamilyKernelModel" 452 ⟨"FamilyKernelModel", "with", "(IIII)I"⟩ : Cond) ∈ vT := inR_40 _ (List.mem_of_getElem? (i := 36) rfl)
theorem vt_1637 : (.instanceMethod ⟨"FamilyKernelModel", "with", "(IIII)I"⟩ : Cond) ∈ vT := inR_40 _ (List.mem_of_getElem? (i := 37) rfl)
theorem vt_1638 : (.selects "FamilyKernelModel" ⟨"FamilyKernelModel", "with", "(IIII)I"⟩ ⟨"FamilyKernelModel", "with", "(IIII)I"⟩ : Cond) ∈ vT := inR_40 _ (List.mem_of_getElem? (i := 38) rfl)
theorem vt_1639 : (.code ⟨"FamilyKernelModel", "with", "(IIII)I"⟩ prog_14_method_58_code 7 (some .int) : Cond) ∈ vT := inR_40 _ (List.mem_of_getElem? (i := 39) rfl)
theorem vt_1640 : (.methodLink "FamilyKernelModel" 455 ⟨"FamilyKernelModel", "recursion", "(III)I"⟩ : Cond) ∈ vT := inR_41 _ (List.mem_of_getElem? (i := 0) rfl)
theorem vt_1641 : (.instanceMethod ⟨"FamilyKernelModel", "recursion", "(III)I"⟩ : Cond) ∈ vT := inR_41 _ (List.mem_of_getElem? (i := 1) rfl)
theorem vt_1642 : (.selects "FamilyKernelModel" ⟨"FamilyKernelModel", "recursion", "(III)I"⟩ ⟨"FamilyKernelModel", "recursion", "(III)I"⟩ : Cond) ∈ vT := inR_41 _ (List.mem_of_getElem? (i := 2) rfl)
theorem vt_1643 : (.code ⟨"FamilyKernelModel", "recursion", "(III)I"⟩ prog_14_method_61_code 12 (some .int) : Cond) ∈ vT := inR_41 _ (List.mem_of_getElem? (i := 3) rfl)
theorem vt_1644 : (.methodLink "FamilyKernelModel" 534 ⟨"FamilyKernelModel", "telescope", "(II)I"⟩ : Cond) ∈ vT := inR_41 _ (List.mem_of_getElem? (i := 4) rfl)
theorem vt_1645 : (.instanceMethod ⟨"FamilyKernelModel", "telescope", "(II)I"⟩ : Cond) ∈ vT := inR_41 _ (List.mem_of_getElem? (i := 5) rfl)
theorem vt_1646 : (.selects "FamilyKernelModel" ⟨"FamilyKernelModel", "telescope", "(II)I"⟩ ⟨"FamilyKernelModel", "telescope", "(II)I"⟩ : Cond) ∈ vT := inR_41 _ (List.mem_of_getElem? (i := 6) rfl)
theorem vt_1647 : (.code ⟨"FamilyKernelModel", "telescope", "(II)I"⟩ prog_14_method_79_code 5 (some .int) : Cond) ∈ vT := inR_41 _ (List.mem_of_getElem? (i := 7) rfl)
theorem vt_1648 : (.methodLink "FamilyKernelModel" 537 ⟨"FamilyKernelModel", "constructor", "(IIIIII)V"⟩ : Cond) ∈ vT := inR_41 _ (List.mem_of_getElem? (i := 8) rfl)
theorem vt_1649 : (.instanceMethod ⟨"FamilyKernelModel", "constructor", "(IIIIII)V"⟩ : Cond) ∈ vT := inR_41 _ (List.mem_of_getElem? (i := 9) rfl)
theorem vt_1650 : (.selects "FamilyKernelModel" ⟨"FamilyKernelModel", "constructor", "(IIIIII)V"⟩ ⟨"FamilyKernelModel", "constructor", "(IIIIII)V"⟩ : Cond) ∈ vT := inR_41 _ (List.mem_of_getElem? (i := 10) rfl)
theorem vt_1651 : (.code ⟨"FamilyKernelModel", "constructor", "(IIIIII)V"⟩ prog_14_method_81_code 13 none : Cond) ∈ vT := inR_41 _ (List.mem_of_getElem? (i := 11) rfl)
theorem vt_1652 : (.methodLink "FamilyKernelModel" 541 ⟨"FamilyKernelModel", "small", "(II)Z"⟩ : Cond) ∈ vT := inR_41 _ (List.mem_of_getElem? (i := 12) rfl)
theorem vt_1653 : (.instanceMethod ⟨"FamilyKernelModel", "small", "(II)Z"⟩ : Cond) ∈ vT := inR_41 _ (List.mem_of_getElem? (i := 13) rfl)
theorem vt_1654 : (.selects "FamilyKernelModel" ⟨"FamilyKernelModel", "small", "(II)Z"⟩ ⟨"FamilyKernelModel", "small", "(II)Z"⟩ : Cond) ∈ vT := inR_41 _ (List.mem_of_getElem? (i := 14) rfl)
theorem vt_1655 : (.code ⟨"FamilyKernelModel", "small", "(II)Z"⟩ prog_14_method_82_code 8 (some .boolean) : Cond) ∈ vT := inR_41 _ (List.mem_of_getElem? (i := 15) rfl)
theorem vt_1656 : (.methodLink "FamilyKernelModel" 544 ⟨"FamilyKernelModel", "made", "(IIIIII)V"⟩ : Cond) ∈ vT := inR_41 _ (List.mem_of_getElem? (i := 16) rfl)
theorem vt_1657 : (.instanceMethod ⟨"FamilyKernelModel", "made", "(IIIIII)V"⟩ : Cond) ∈ vT := inR_41 _ (List.mem_of_getElem? (i := 17) rfl)
theorem vt_1658 : (.selects "FamilyKernelModel" ⟨"FamilyKernelModel", "made", "(IIIIII)V"⟩ ⟨"FamilyKernelModel", "made", "(IIIIII)V"⟩ : Cond) ∈ vT := inR_41 _ (List.mem_of_getElem? (i := 18) rfl)
theorem vt_1659 : (.code ⟨"FamilyKernelModel", "made", "(IIIIII)V"⟩ prog_14_method_85_code 16 none : Cond) ∈ vT := inR_41 _ (List.mem_of_getElem? (i := 19) rfl)
theorem vt_1660 : (.methodLink "FamilyKernelModel" 367 ⟨"FamilyKernelModel", "has", "(II)Z"⟩ : Cond) ∈ vT := inR_41 _ (List.mem_of_getElem? (i := 20) rfl)
theorem vt_1661 : (.instanceMethod ⟨"FamilyKernelModel", "has", "(II)Z"⟩ : Cond) ∈ vT := inR_41 _ (List.mem_of_getElem? (i := 21) rfl)
theorem vt_1662 : (.selects "FamilyKernelModel" ⟨"FamilyKernelModel", "has", "(II)Z"⟩ ⟨"FamilyKernelModel", "has", "(II)Z"⟩ : Cond) ∈ vT := inR_41 _ (List.mem_of_getElem? (i := 22) rfl)
theorem vt_1663 : (.code ⟨"FamilyKernelModel", "has", "(II)Z"⟩ prog_14_method_35_code 4 (some .boolean) : Cond) ∈ vT := inR_41 _ (List.mem_of_getElem? (i := 23) rfl)
theorem vt_1664 : (.methodLink "FamilyKernelModel" 547 ⟨"FamilyKernelModel", "isFamily", "(IIII)Z"⟩ : Cond) ∈ vT := inR_41 _ (List.mem_of_getElem? (i := 24) rfl)
theorem vt_1665 : (.instanceMethod ⟨"FamilyKernelModel", "isFamily", "(IIII)Z"⟩ : Cond) ∈ vT := inR_41 _ (List.mem_of_getElem? (i := 25) rfl)
theorem vt_1666 : (.selects "FamilyKernelModel" ⟨"FamilyKernelModel", "isFamily", "(IIII)Z"⟩ ⟨"FamilyKernelModel", "isFamily", "(IIII)Z"⟩ : Cond) ∈ vT := inR_41 _ (List.mem_of_getElem? (i := 26) rfl)
theorem vt_1667 : (.code ⟨"FamilyKernelModel", "isFamily", "(IIII)Z"⟩ prog_14_method_80_code 8 (some .boolean) : Cond) ∈ vT := inR_41 _ (List.mem_of_getElem? (i := 27) rfl)
theorem vt_1668 : (.methodLink "FamilyKernelModel" 555 ⟨"FamilyKernelModel", "of", "(III)I"⟩ : Cond) ∈ vT := inR_41 _ (List.mem_of_getElem? (i := 28) rfl)
theorem vt_1669 : (.instanceMethod ⟨"FamilyKernelModel", "of", "(III)I"⟩ : Cond) ∈ vT := inR_41 _ (List.mem_of_getElem? (i := 29) rfl)
theorem vt_1670 : (.selects "FamilyKernelModel" ⟨"FamilyKernelModel", "of", "(III)I"⟩ ⟨"FamilyKernelModel", "of", "(III)I"⟩ : Cond) ∈ vT := inR_41 _ (List.mem_of_getElem? (i := 30) rfl)
theorem vt_1671 : (.code ⟨"FamilyKernelModel", "of", "(III)I"⟩ prog_14_method_84_code 6 (some .int) : Cond) ∈ vT := inR_41 _ (List.mem_of_getElem? (i := 31) rfl)
theorem vt_1672 : (.methodLink "FamilyKernelModel" 558 ⟨"FamilyKernelModel", "chain", "(III)I"⟩ : Cond) ∈ vT := inR_41 _ (List.mem_of_getElem? (i := 32) rfl)
theorem vt_1673 : (.instanceMethod ⟨"FamilyKernelModel", "chain", "(III)I"⟩ : Cond) ∈ vT := inR_41 _ (List.mem_of_getElem? (i := 33) rfl)
theorem vt_1674 : (.selects "FamilyKernelModel" ⟨"FamilyKernelModel", "chain", "(III)I"⟩ ⟨"FamilyKernelModel", "chain", "(III)I"⟩ : Cond) ∈ vT := inR_41 _ (List.mem_of_getElem? (i := 34) rfl)
theorem vt_1675 : (.code ⟨"FamilyKernelModel", "chain", "(III)I"⟩ prog_14_method_83_code 6 (some .int) : Cond) ∈ vT := inR_41 _ (List.mem_of_getElem? (i := 35) rfl)
theorem vt_1676 : (.methodLink "FamilyKernelModel" 561 ⟨"FamilyKernelModel", "minor", "(IIIII)I"⟩ : Cond) ∈ vT := inR_41 _ (List.mem_of_getElem? (i := 36) rfl)
theorem vt_1677 : (.instanceMethod ⟨"FamilyKernelModel", "minor", "(IIIII)I"⟩ : Cond) ∈ vT := inR_41 _ (List.mem_of_getElem? (i := 37) rfl)
theorem vt_1678 : (.selects "FamilyKernelModel" ⟨"FamilyKernelModel", "minor", "(IIIII)I"⟩ ⟨"FamilyKernelModel", "minor", "(IIIII)I"⟩ : Cond) ∈ vT := inR_41 _ (List.mem_of_getElem? (i := 38) rfl)
theorem vt_1679 : (.code ⟨"FamilyKernelModel", "minor", "(IIIII)I"⟩ prog_14_method_89_code 13 (some .int) : Cond) ∈ vT := inR_41 _ (List.mem_of_getElem? (i := 39) rfl)
theorem vt_1680 : (.methodLink "FamilyKernelModel" 564 ⟨"FamilyKernelModel", "heads", "(III)V"⟩ : Cond) ∈ vT := inR_42 _ (List.mem_of_getElem? (i := 0) rfl)
theorem vt_1681 : (.instanceMethod ⟨"FamilyKernelModel", "heads", "(III)V"⟩ : Cond) ∈ vT := inR_42 _ (List.mem_of_getElem? (i := 1) rfl)
theorem vt_1682 : (.selects "FamilyKernelModel" ⟨"FamilyKernelModel", "heads", "(III)V"⟩ ⟨"FamilyKernelModel", "heads", "(III)V"⟩ : Cond) ∈ vT := inR_42 _ (List.mem_of_getElem? (i := 2) rfl)
theorem vt_1683 : (.code ⟨"FamilyKernelModel", "heads", "(III)V"⟩ prog_14_method_86_code 5 none : Cond) ∈ vT := inR_42 _ (List.mem_of_getElem? (i := 3) rfl)
theorem vt_1684 : (.methodLink "FamilyKernelModel" 567 ⟨"FamilyKernelModel", "ruleOf", "(IIIIII)I"⟩ : Cond) ∈ vT := inR_42 _ (List.mem_of_getElem? (i := 4) rfl)
theorem vt_1685 : (.instanceMethod ⟨"FamilyKernelModel", "ruleOf", "(IIIIII)I"⟩ : Cond) ∈ vT := inR_42 _ (List.mem_of_getElem? (i := 5) rfl)
theorem vt_1686 : (.selects "FamilyKernelModel" ⟨"FamilyKernelModel", "ruleOf", "(IIIIII)I"⟩ ⟨"FamilyKernelModel", "ruleOf", "(IIIIII)I"⟩ : Cond) ∈ vT := inR_42 _ (List.mem_of_getElem? (i := 6) rfl)
theorem vt_1687 : (.code ⟨"FamilyKernelModel", "ruleOf", "(IIIIII)I"⟩ prog_14_method_90_code 15 (some .int) : Cond) ∈ vT := inR_42 _ (List.mem_of_getElem? (i := 7) rfl)
theorem vt_1688 : (.methodLink "FamilyKernelModel" 551 ⟨"FamilyKernelModel", "under", "(III)I"⟩ : Cond) ∈ vT := inR_42 _ (List.mem_of_getElem? (i := 8) rfl)
theorem vt_1689 : (.instanceMethod ⟨"FamilyKernelModel", "under", "(III)I"⟩ : Cond) ∈ vT := inR_42 _ (List.mem_of_getElem? (i := 9) rfl)
theorem vt_1690 : (.selects "FamilyKernelModel" ⟨"FamilyKernelModel", "under", "(III)I"⟩ ⟨"FamilyKernelModel", "under", "(III)I"⟩ : Cond) ∈ vT := inR_42 _ (List.mem_of_getElem? (i := 10) rfl)
theorem vt_1691 : (.code ⟨"FamilyKernelModel", "under", "(III)I"⟩ prog_14_method_32_code 4 (some .int) : Cond) ∈ vT := inR_42 _ (List.mem_of_getElem? (i := 11) rfl)
theorem vt_1692 : (.constant "FamilyKernelModel" 554 100000 : Cond) ∈ vT := inR_42 _ (List.mem_of_getElem? (i := 12) rfl)
theorem vt_1693 : (.methodLink "FamilyKernelModel" 571 ⟨"FamilyKernelModel", "ended", "(I)I"⟩ : Cond) ∈ vT := inR_42 _ (List.mem_of_getElem? (i := 13) rfl)
theorem vt_1694 : (.instanceMethod ⟨"FamilyKernelModel", "ended", "(I)I"⟩ : Cond) ∈ vT := inR_42 _ (List.mem_of_getElem? (i := 14) rfl)
theorem vt_1695 : (.selects "FamilyKernelModel" ⟨"FamilyKernelModel", "ended", "(I)I"⟩ ⟨"FamilyKernelModel", "ended", "(I)I"⟩ : Cond) ∈ vT := inR_42 _ (List.mem_of_getElem? (i := 15) rfl)
theorem vt_1696 : (.code ⟨"FamilyKernelModel", "ended", "(I)I"⟩ prog_14_method_87_code 4 (some .int) : Cond) ∈ vT := inR_42 _ (List.mem_of_getElem? (i := 16) rfl)
theorem vt_1697 : (.methodLink "FamilyKernelModel" 574 ⟨"FamilyKernelModel", "applied2", "(I)I"⟩ : Cond) ∈ vT := inR_42 _ (List.mem_of_getElem? (i := 17) rfl)
theorem vt_1698 : (.instanceMethod ⟨"FamilyKernelModel", "applied2", "(I)I"⟩ : Cond) ∈ vT := inR_42 _ (List.mem_of_getElem? (i := 18) rfl)
theorem vt_1699 : (.selects "FamilyKernelModel" ⟨"FamilyKernelModel", "applied2", "(I)I"⟩ ⟨"FamilyKernelModel", "applied2", "(I)I"⟩ : Cond) ∈ vT := inR_42 _ (List.mem_of_getElem? (i := 19) rfl)
theorem vt_1700 : (.code ⟨"FamilyKernelModel", "applied2", "(I)I"⟩ prog_14_method_88_code 4 (some .int) : Cond) ∈ vT := inR_42 _ (List.mem_of_getElem? (i := 20) rfl)
theorem vt_1701 : (.methodLink "FamilyKernelModel" 491 ⟨"FamilyKernelModel", "normal", "(II)I"⟩ : Cond) ∈ vT := inR_42 _ (List.mem_of_getElem? (i := 21) rfl)
theorem vt_1702 : (.instanceMethod ⟨"FamilyKernelModel", "normal", "(II)I"⟩ : Cond) ∈ vT := inR_42 _ (List.mem_of_getElem? (i := 22) rfl)
theorem vt_1703 : (.selects "FamilyKernelModel" ⟨"FamilyKernelModel", "normal", "(II)I"⟩ ⟨"FamilyKernelModel", "normal", "(II)I"⟩ : Cond) ∈ vT := inR_42 _ (List.mem_of_getElem? (i := 23) rfl)
theorem vt_1704 : (.code ⟨"FamilyKernelModel", "normal", "(II)I"⟩ prog_14_method_68_code 7 (some .int) : Cond) ∈ vT := inR_42 _ (List.mem_of_getElem? (i := 24) rfl)
theorem vt_1705 : (.methodLink "FamilyKernelModel" 531 ⟨"FamilyKernelModel", "say", "(II)V"⟩ : Cond) ∈ vT := inR_42 _ (List.mem_of_getElem? (i := 25) rfl)
theorem vt_1706 : (.instanceMethod ⟨"FamilyKernelModel", "say", "(II)V"⟩ : Cond) ∈ vT := inR_42 _ (List.mem_of_getElem? (i := 26) rfl)
theorem vt_1707 : (.selects "FamilyKernelModel" ⟨"FamilyKernelModel", "say", "(II)V"⟩ ⟨"FamilyKernelModel", "say", "(II)V"⟩ : Cond) ∈ vT := inR_42 _ (List.mem_of_getElem? (i := 27) rfl)
theorem vt_1708 : (.code ⟨"FamilyKernelModel", "say", "(II)V"⟩ prog_14_method_102_code 7 none : Cond) ∈ vT := inR_42 _ (List.mem_of_getElem? (i := 28) rfl)
theorem vt_1709 : (.methodLink "FamilyKernelModel" 589 ⟨"FamilyKernelModel", "saySort", "(I)V"⟩ : Cond) ∈ vT := inR_42 _ (List.mem_of_getElem? (i := 29) rfl)
theorem vt_1710 : (.instanceMethod ⟨"FamilyKernelModel", "saySort", "(I)V"⟩ : Cond) ∈ vT := inR_42 _ (List.mem_of_getElem? (i := 30) rfl)
theorem vt_1711 : (.selects "FamilyKernelModel" ⟨"FamilyKernelModel", "saySort", "(I)V"⟩ ⟨"FamilyKernelModel", "saySort", "(I)V"⟩ : Cond) ∈ vT := inR_42 _ (List.mem_of_getElem? (i := 31) rfl)
theorem vt_1712 : (.code ⟨"FamilyKernelModel", "saySort", "(I)V"⟩ prog_14_method_99_code 2 none : Cond) ∈ vT := inR_42 _ (List.mem_of_getElem? (i := 32) rfl)
theorem vt_1713 : (.methodLink "FamilyKernelModel" 592 ⟨"FamilyKernelModel", "sayName", "(I)V"⟩ : Cond) ∈ vT := inR_42 _ (List.mem_of_getElem? (i := 33) rfl)
theorem vt_1714 : (.instanceMethod ⟨"FamilyKernelModel", "sayName", "(I)V"⟩ : Cond) ∈ vT := inR_42 _ (List.mem_of_getElem? (i := 34) rfl)
theorem vt_1715 : (.selects "FamilyKernelModel" ⟨"FamilyKernelModel", "sayName", "(I)V"⟩ ⟨"FamilyKernelModel", "sayName", "(I)V"⟩ : Cond) ∈ vT := inR_42 _ (List.mem_of_getElem? (i := 35) rfl)
theorem vt_1716 : (.code ⟨"FamilyKernelModel", "sayName", "(I)V"⟩ prog_14_method_98_code 3 none : Cond) ∈ vT := inR_42 _ (List.mem_of_getElem? (i := 36) rfl)
theorem vt_1717 : (.methodLink "FamilyKernelModel" 585 ⟨"FamilyKernelModel", "say", "(Ljava/lang/String;)V"⟩ : Cond) ∈ vT := inR_42 _ (List.mem_of_getElem? (i := 37) rfl)
theorem vt_1718 : (.instanceMethod ⟨"FamilyKernelModel", "say", "(Ljava/lang/String;)V"⟩ : Cond) ∈ vT := inR_42 _ (List.mem_of_getElem? (i := 38) rfl)
theorem vt_1719 : (.selects "FamilyKernelModel" ⟨"FamilyKernelModel", "say", "(Ljava/lang/String;)V"⟩ ⟨"FamilyKernelModel", "say", "(Ljava/lang/String;)V"⟩ : Cond) ∈ vT := inR_42 _ (List.mem_of_getElem? (i := 39) rfl)
theorem vt_1720 : (.code ⟨"FamilyKernelModel", "say", "(Ljava/lang/String;)V"⟩ prog_14_method_96_code 3 none : Cond) ∈ vT := inR_43 _ (List.mem_of_getElem? (i := 0) rfl)
theorem vt_1721 : (.methodLink "FamilyKernelModel" 580 ⟨"FamilyKernelModel", "say", "(I)V"⟩ : Cond) ∈ vT := inR_43 _ (List.mem_of_getElem? (i := 1) rfl)
theorem vt_1722 : (.instanceMethod ⟨"FamilyKernelModel", "say", "(I)V"⟩ : Cond) ∈ vT := inR_43 _ (List.mem_of_getElem? (i := 2) rfl)
theorem vt_1723 : (.selects "FamilyKernelModel" ⟨"FamilyKernelModel", "say", "(I)V"⟩ ⟨"FamilyKernelModel", "say", "(I)V"⟩ : Cond) ∈ vT := inR_43 _ (List.mem_of_getElem? (i := 3) rfl)
theorem vt_1724 : (.code ⟨"FamilyKernelModel", "say", "(I)V"⟩ prog_14_method_95_code 2 none : Cond) ∈ vT := inR_43 _ (List.mem_of_getElem? (i := 4) rfl)
theorem vt_1725 : (.methodLink "FamilyKernelModel" 582 ⟨"FamilyKernelModel", "sayNumber", "(I)V"⟩ : Cond) ∈ vT := inR_43 _ (List.mem_of_getElem? (i := 5) rfl)
theorem vt_1726 : (.instanceMethod ⟨"FamilyKernelModel", "sayNumber", "(I)V"⟩ : Cond) ∈ vT := inR_43 _ (List.mem_of_getElem? (i := 6) rfl)
theorem vt_1727 : (.selects "FamilyKernelModel" ⟨"FamilyKernelModel", "sayNumber", "(I)V"⟩ ⟨"FamilyKernelModel", "sayNumber", "(I)V"⟩ : Cond) ∈ vT := inR_43 _ (List.mem_of_getElem? (i := 7) rfl)
theorem vt_1728 : (.code ⟨"FamilyKernelModel", "sayNumber", "(I)V"⟩ prog_14_method_97_code 2 none : Cond) ∈ vT := inR_43 _ (List.mem_of_getElem? (i := 8) rfl)
theorem vt_1729 : (.methodLink "FamilyKernelModel" 597 ⟨"FamilyKernelModel", "binds", "(I)Z"⟩ : Cond) ∈ vT := inR_43 _ (List.mem_of_getElem? (i := 9) rfl)
theorem vt_1730 : (.instanceMethod ⟨"FamilyKernelModel", "binds", "(I)Z"⟩ : Cond) ∈ vT := inR_43 _ (List.mem_of_getElem? (i := 10) rfl)
theorem vt_1731 : (.selects "FamilyKernelModel" ⟨"FamilyKernelModel", "binds", "(I)Z"⟩ ⟨"FamilyKernelModel", "binds", "(I)Z"⟩ : Cond) ∈ vT := inR_43 _ (List.mem_of_getElem? (i := 11) rfl)
theorem vt_1732 : (.code ⟨"FamilyKernelModel", "binds", "(I)Z"⟩ prog_14_method_101_code 2 (some .boolean) : Cond) ∈ vT := inR_43 _ (List.mem_of_getElem? (i := 12) rfl)
theorem vt_1733 : (.methodLink "FamilyKernelModel" 600 ⟨"FamilyKernelModel", "sayIn", "(IIZ)V"⟩ : Cond) ∈ vT := inR_43 _ (List.mem_of_getElem? (i := 13) rfl)
theorem vt_1734 : (.instanceMethod ⟨"FamilyKernelModel", "sayIn", "(IIZ)V"⟩ : Cond) ∈ vT := inR_43 _ (List.mem_of_getElem? (i := 14) rfl)
theorem vt_1735 : (.selects "FamilyKernelModel" ⟨"FamilyKernelModel", "sayIn", "(IIZ)V"⟩ ⟨"FamilyKernelModel", "sayIn", "(IIZ)V"⟩ : Cond) ∈ vT := inR_43 _ (List.mem_of_getElem? (i := 15) rfl)
theorem vt_1736 : (.code ⟨"FamilyKernelModel", "sayIn", "(IIZ)V"⟩ prog_14_method_100_code 4 none : Cond) ∈ vT := inR_43 _ (List.mem_of_getElem? (i := 16) rfl)
theorem vt_1737 : (.methodLink "FamilyKernelModel" 370 ⟨"FamilyKernelModel", "bound", "(II)Z"⟩ : Cond) ∈ vT := inR_43 _ (List.mem_of_getElem? (i := 17) rfl)
theorem vt_1738 : (.instanceMethod ⟨"FamilyKernelModel", "bound", "(II)Z"⟩ : Cond) ∈ vT := inR_43 _ (List.mem_of_getElem? (i := 18) rfl)
theorem vt_1739 : (.selects "FamilyKernelModel" ⟨"FamilyKernelModel", "bound", "(II)Z"⟩ ⟨"FamilyKernelModel", "bound", "(II)Z"⟩ : Cond) ∈ vT := inR_43 _ (List.mem_of_getElem? (i := 19) rfl)
theorem vt_1740 : (.code ⟨"FamilyKernelModel", "bound", "(II)Z"⟩ prog_14_method_36_code 4 (some .boolean) : Cond) ∈ vT := inR_43 _ (List.mem_of_getElem? (i := 20) rfl)
theorem vt_1741 : (.methodLink "FamilyKernelModel" 606 ⟨"FamilyKernelModel", "sayBinder", "(Ljava/lang/String;II)V"⟩ : Cond) ∈ vT := inR_43 _ (List.mem_of_getElem? (i := 21) rfl)
theorem vt_1742 : (.instanceMethod ⟨"FamilyKernelModel", "sayBinder", "(Ljava/lang/String;II)V"⟩ : Cond) ∈ vT := inR_43 _ (List.mem_of_getElem? (i := 22) rfl)
theorem vt_1743 : (.selects "FamilyKernelModel" ⟨"FamilyKernelModel", "sayBinder", "(Ljava/lang/String;II)V"⟩ ⟨"FamilyKernelModel", "sayBinder", "(Ljava/lang/String;II)V"⟩ : Cond) ∈ vT := inR_43 _ (List.mem_of_getElem? (i := 23) rfl)
theorem vt_1744 : (.code ⟨"FamilyKernelModel", "sayBinder", "(Ljava/lang/String;II)V"⟩ prog_14_method_103_code 4 none : Cond) ∈ vT := inR_43 _ (List.mem_of_getElem? (i := 24) rfl)
theorem vt_1745 : (.code ⟨"FamilyKernelModel", "fault", "(I)I"⟩ prog_14_method_91_code 2 (some .int) : Cond) ∈ vT := inR_43 _ (List.mem_of_getElem? (i := 25) rfl)
theorem vt_1746 : (.code ⟨"FamilyKernelModel", "reset", "()I"⟩ prog_14_method_92_code 2 (some .int) : Cond) ∈ vT := inR_43 _ (List.mem_of_getElem? (i := 26) rfl)
theorem vt_1747 : (.methodLink "FamilyKernelModel" 577 ⟨"FamilyKernelModel", "none", "(I)Z"⟩ : Cond) ∈ vT := inR_43 _ (List.mem_of_getElem? (i := 27) rfl)
theorem vt_1748 : (.instanceMethod ⟨"FamilyKernelModel", "none", "(I)Z"⟩ : Cond) ∈ vT := inR_43 _ (List.mem_of_getElem? (i := 28) rfl)
theorem vt_1749 : (.selects "FamilyKernelModel" ⟨"FamilyKernelModel", "none", "(I)Z"⟩ ⟨"FamilyKernelModel", "none", "(I)Z"⟩ : Cond) ∈ vT := inR_43 _ (List.mem_of_getElem? (i := 29) rfl)
theorem vt_1750 : (.code ⟨"FamilyKernelModel", "none", "(I)Z"⟩ prog_14_method_93_code 2 (some .boolean) : Cond) ∈ vT := inR_43 _ (List.mem_of_getElem? (i := 30) rfl)
theorem vt_1751 : (.code ⟨"FamilyKernelModel", "constant", "(II)I"⟩ prog_14_method_94_code 4 (some .int) : Cond) ∈ vT := inR_43 _ (List.mem_of_getElem? (i := 31) rfl)
theorem vt_1752 : (.code ⟨"FamilyKernelModel", "show", "(II)I"⟩ prog_14_method_104_code 3 (some .int) : Cond) ∈ vT := inR_43 _ (List.mem_of_getElem? (i := 32) rfl)
theorem vt_1753 : (.code ⟨"FamilyKernelModel", "showRec", "(II)I"⟩ prog_14_method_105_code 4 (some .int) : Cond) ∈ vT := inR_43 _ (List.mem_of_getElem? (i := 33) rfl)
theorem vt_1754 : (.code ⟨"FamilyKernelModel", "out", "(I)I"⟩ prog_14_method_106_code 2 (some .int) : Cond) ∈ vT := inR_43 _ (List.mem_of_getElem? (i := 34) rfl)
theorem vt_1755 : (.code ⟨"FamilyKernelModel", "count", "(I)I"⟩ prog_14_method_107_code 2 (some .int) : Cond) ∈ vT := inR_43 _ (List.mem_of_getElem? (i := 35) rfl)
theorem vt_1756 : (.native ⟨"java/lang/System", "arraycopy", "(Ljava/lang/Object;ILjava/lang/Object;II)V"⟩ : Cond) ∈ vT := inR_43 _ (List.mem_of_getElem? (i := 36) rfl)
theorem vt_1757 : (.initialized "FamilyKernelLaw" : Cond) ∈ vT := inR_43 _ (List.mem_of_getElem? (i := 37) rfl)
theorem vt_1758 : (.initialized "java/lang/Throwable" : Cond) ∈ vT := inR_43 _ (List.mem_of_getElem? (i := 38) rfl)
theorem vt_1759 : (.initialized "java/lang/Exception" : Cond) ∈ vT := inR_43 _ (List.mem_of_getElem? (i := 39) rfl)
theorem vt_1760 : (.initialized "java/lang/StringLatin1" : Cond) ∈ vT := inR_44 _ (List.mem_of_getElem? (i := 0) rfl)
theorem vt_1761 : (.initialized "jdk/internal/util/Preconditions" : Cond) ∈ vT := inR_44 _ (List.mem_of_getElem? (i := 1) rfl)
theorem vt_1762 : (.initialized "java/lang/StringUTF16" : Cond) ∈ vT := inR_44 _ (List.mem_of_getElem? (i := 2) rfl)
theorem vt_1763 : (.classLink "FamilyKernelLaw" 8 "FamilyKernel" : Cond) ∈ vT := inR_44 _ (List.mem_of_getElem? (i := 3) rfl)
theorem vt_1764 : (.instantiable "FamilyKernel" 14 : Cond) ∈ vT := inR_44 _ (List.mem_of_getElem? (i := 4) rfl)
theorem vt_1765 : (.methodLink "FamilyKernelLaw" 38 ⟨"FamilyKernel", "<init>", "()V"⟩ : Cond) ∈ vT := inR_44 _ (List.mem_of_getElem? (i := 5) rfl)
theorem vt_1766 : (.instanceMethod ⟨"FamilyKernel", "<init>", "()V"⟩ : Cond) ∈ vT := inR_44 _ (List.mem_of_getElem? (i := 6) rfl)
theorem vt_1767 : (.methodLink "FamilyKernelLaw" 56 ⟨"FamilyKernel", "read", "()I"⟩ : Cond) ∈ vT := inR_44 _ (List.mem_of_getElem? (i := 7) rfl)
theorem vt_1768 : (.instanceMethod ⟨"FamilyKernel", "read", "()I"⟩ : Cond) ∈ vT := inR_44 _ (List.mem_of_getElem? (i := 8) rfl)
theorem vt_1769 : (.selects "FamilyKernel" ⟨"FamilyKernel", "read", "()I"⟩ ⟨"FamilyKernel", "read", "()I"⟩ : Cond) ∈ vT := inR_44 _ (List.mem_of_getElem? (i := 9) rfl)
theorem vt_1770 : (.methodLink "java/lang/String" 335 ⟨"java/lang/String", "coder", "()B"⟩ : Cond) ∈ vT := inR_44 _ (List.mem_of_getElem? (i := 10) rfl)
theorem vt_1771 : (.instanceMethod ⟨"java/lang/String", "coder", "()B"⟩ : Cond) ∈ vT := inR_44 _ (List.mem_of_getElem? (i := 11) rfl)
theorem vt_1772 : (.selects "java/lang/String" ⟨"java/lang/String", "coder", "()B"⟩ ⟨"java/lang/String", "coder", "()B"⟩ : Cond) ∈ vT := inR_44 _ (List.mem_of_getElem? (i := 12) rfl)
theorem vt_1773 : (.code ⟨"java/lang/String", "coder", "()B"⟩ prog_23_method_152_code 1 (some .byte) : Cond) ∈ vT := inR_44 _ (List.mem_of_getElem? (i := 13) rfl)
theorem vt_1774 : (.fieldLink "java/lang/String" 38 "java/lang/String" "COMPACT_STRINGS" "Z" : Cond) ∈ vT := inR_44 _ (List.mem_of_getElem? (i := 14) rfl)
theorem vt_1775 : (.methodLink "java/lang/String" 492 ⟨"java/lang/String", "isLatin1", "()Z"⟩ : Cond) ∈ vT := inR_44 _ (List.mem_of_getElem? (i := 15) rfl)
theorem vt_1776 : (.instanceMethod ⟨"java/lang/String", "isLatin1", "()Z"⟩ : Cond) ∈ vT := inR_44 _ (List.mem_of_getElem? (i := 16) rfl)
theorem vt_1777 : (.selects "java/lang/String" ⟨"java/lang/String", "isLatin1", "()Z"⟩ ⟨"java/lang/String", "isLatin1", "()Z"⟩ : Cond) ∈ vT := inR_44 _ (List.mem_of_getElem? (i := 17) rfl)
theorem vt_1778 : (.code ⟨"java/lang/String", "isLatin1", "()Z"⟩ prog_23_method_154_code 1 (some .boolean) : Cond) ∈ vT := inR_44 _ (List.mem_of_getElem? (i := 18) rfl)
theorem vt_1779 : (.methodLink "java/lang/String" 495 ⟨"java/lang/StringLatin1", "charAt", "([BI)C"⟩ : Cond) ∈ vT := inR_44 _ (List.mem_of_getElem? (i := 19) rfl)
theorem vt_1780 : (.static ⟨"java/lang/StringLatin1", "charAt", "([BI)C"⟩ : Cond) ∈ vT := inR_44 _ (List.mem_of_getElem? (i := 20) rfl)
theorem vt_1781 : (.code ⟨"java/lang/StringLatin1", "charAt", "([BI)C"⟩ prog_24_method_2_code 2 (some .char) : Cond) ∈ vT := inR_44 _ (List.mem_of_getElem? (i := 21) rfl)
theorem vt_1782 : (.methodLink "java/lang/StringLatin1" 9 ⟨"java/lang/String", "checkIndex", "(II)V"⟩ : Cond) ∈ vT := inR_44 _ (List.mem_of_getElem? (i := 22) rfl)
theorem vt_1783 : (.static ⟨"java/lang/String", "checkIndex", "(II)V"⟩ : Cond) ∈ vT := inR_44 _ (List.mem_of_getElem? (i := 23) rfl)
theorem vt_1784 : (.code ⟨"java/lang/String", "checkIndex", "(II)V"⟩ prog_23_method_155_code 2 none : Cond) ∈ vT := inR_44 _ (List.mem_of_getElem? (i := 24) rfl)
theorem vt_1785 : (.fieldLink "java/lang/String" 1053 "jdk/internal/util/Preconditions" "SIOOBE_FORMATTER" "Ljava/util/function/BiFunction;" : Cond) ∈ vT := inR_44 _ (List.mem_of_getElem? (i := 25) rfl)
theorem vt_1786 : (.methodLink "java/lang/String" 1059 ⟨"jdk/internal/util/Preconditions", "checkIndex", "(IILjava/util/function/BiFunction;)I"⟩ : Cond) ∈ vT := inR_44 _ (List.mem_of_getElem? (i := 26) rfl)
theorem vt_1787 : (.static ⟨"jdk/internal/util/Preconditions", "checkIndex", "(IILjava/util/function/BiFunction;)I"⟩ : Cond) ∈ vT := inR_44 _ (List.mem_of_getElem? (i := 27) rfl)
theorem vt_1788 : (.code ⟨"jdk/internal/util/Preconditions", "checkIndex", "(IILjava/util/function/BiFunction;)I"⟩ prog_30_method_11_code 3 (some .int) : Cond) ∈ vT := inR_44 _ (List.mem_of_getElem? (i := 28) rfl)
theorem vt_1789 : (.methodLink "java/lang/String" 498 ⟨"java/lang/StringUTF16", "charAt", "([BI)C"⟩ : Cond) ∈ vT := inR_44 _ (List.mem_of_getElem? (i := 29) rfl)
theorem vt_1790 : (.static ⟨"java/lang/StringUTF16", "charAt", "([BI)C"⟩ : Cond) ∈ vT := inR_44 _ (List.mem_of_getElem? (i := 30) rfl)
theorem vt_1791 : (.code ⟨"java/lang/StringUTF16", "charAt", "([BI)C"⟩ prog_25_method_83_code 2 (some .char) : Cond) ∈ vT := inR_44 _ (List.mem_of_getElem? (i := 31) rfl)
theorem vt_1792 : (.methodLink "java/lang/StringUTF16" 67 ⟨"java/lang/StringUTF16", "checkIndex", "(I[B)V"⟩ : Cond) ∈ vT := inR_44 _ (List.mem_of_getElem? (i := 32) rfl)
theorem vt_1793 : (.static ⟨"java/lang/StringUTF16", "checkIndex", "(I[B)V"⟩ : Cond) ∈ vT := inR_44 _ (List.mem_of_getElem? (i := 33) rfl)
theorem vt_1794 : (.code ⟨"java/lang/StringUTF16", "checkIndex", "(I[B)V"⟩ prog_25_method_91_code 2 none : Cond) ∈ vT := inR_44 _ (List.mem_of_getElem? (i := 34) rfl)
theorem vt_1795 : (.methodLink "java/lang/StringUTF16" 48 ⟨"java/lang/StringUTF16", "length", "([B)I"⟩ : Cond) ∈ vT := inR_44 _ (List.mem_of_getElem? (i := 35) rfl)
theorem vt_1796 : (.static ⟨"java/lang/StringUTF16", "length", "([B)I"⟩ : Cond) ∈ vT := inR_44 _ (List.mem_of_getElem? (i := 36) rfl)
theorem vt_1797 : (.code ⟨"java/lang/StringUTF16", "length", "([B)I"⟩ prog_25_method_6_code 1 (some .int) : Cond) ∈ vT := inR_44 _ (List.mem_of_getElem? (i := 37) rfl)
theorem vt_1798 : (.methodLink "java/lang/StringUTF16" 414 ⟨"java/lang/String", "checkIndex", "(II)V"⟩ : Cond) ∈ vT := inR_44 _ (List.mem_of_getElem? (i := 38) rfl)
theorem vt_1799 : (.methodLink "java/lang/StringUTF16" 71 ⟨"java/lang/StringUTF16", "getChar", "([BI)C"⟩ : Cond) ∈ vT := inR_44 _ (List.mem_of_getElem? (i := 39) rfl)
theorem vt_1800 : (.static ⟨"java/lang/StringUTF16", "getChar", "([BI)C"⟩ : Cond) ∈ vT := inR_45 _ (List.mem_of_getElem? (i := 0) rfl)
theorem vt_1801 : (.code ⟨"java/lang/StringUTF16", "getChar", "([BI)C"⟩ prog_25_method_5_code 2 (some .char) : Cond) ∈ vT := inR_45 _ (List.mem_of_getElem? (i := 1) rfl)
theorem vt_1802 : (.fieldLink "java/lang/StringUTF16" 44 "java/lang/StringUTF16" "$assertionsDisabled" "Z" : Cond) ∈ vT := inR_45 _ (List.mem_of_getElem? (i := 2) rfl)
theorem vt_1803 : (.fieldLink "java/lang/StringUTF16" 59 "java/lang/StringUTF16" "HI_BYTE_SHIFT" "I" : Cond) ∈ vT := inR_45 _ (List.mem_of_getElem? (i := 3) rfl)
theorem vt_1804 : (.fieldLink "java/lang/StringUTF16" 63 "java/lang/StringUTF16" "LO_BYTE_SHIFT" "I" : Cond) ∈ vT := inR_45 _ (List.mem_of_getElem? (i := 4) rfl)
theorem vt_1805 : (.native ⟨"java/lang/Object", "clone", "()Ljava/lang/Object;"⟩ : Cond) ∈ vT := inR_45 _ (List.mem_of_getElem? (i := 5) rfl)
theorem vt_1806 : (.instanceMethod ⟨"java/lang/Object", "clone", "()Ljava/lang/Object;"⟩ : Cond) ∈ vT := inR_45 _ (List.mem_of_getElem? (i := 6) rfl)
theorem vt_1807 : (.selects "[I" ⟨"[I", "clone", "()Ljava/lang/Object;"⟩ ⟨"java/lang/Object", "clone", "()Ljava/lang/Object;"⟩ : Cond) ∈ vT := inR_45 _ (List.mem_of_getElem? (i := 7) rfl)
theorem vt_1808 : (.classLink "java/util/Arrays" 317 "[I" : Cond) ∈ vT := inR_45 _ (List.mem_of_getElem? (i := 8) rfl)
theorem vt_1809 : (.selects "java/lang/IllegalStateException" ⟨"java/lang/Throwable", "fillInStackTrace", "(I)Ljava/lang/Throwable;"⟩ ⟨"java/lang/Throwable", "fillInStackTrace", "(I)Ljava/lang/Throwable;"⟩ : Cond) ∈ vT := inR_45 _ (List.mem_of_getElem? (i := 9) rfl)
theorem vt_1810 : (.selects "java/lang/IllegalStateException" ⟨"java/lang/Throwable", "fillInStackTrace", "()Ljava/lang/Throwable;"⟩ ⟨"java/lang/Throwable", "fillInStackTrace", "()Ljava/lang/Throwable;"⟩ : Cond) ∈ vT := inR_45 _ (List.mem_of_getElem? (i := 10) rfl)
theorem vt_1811 : (.fieldLink "java/lang/Throwable" 198 "java/lang/Throwable" "backtrace" "Ljava/lang/Object;" : Cond) ∈ vT := inR_45 _ (List.mem_of_getElem? (i := 11) rfl)
theorem vt_1812 : (.instanceMethod ⟨"java/lang/Throwable", "<init>", "()V"⟩ : Cond) ∈ vT := inR_45 _ (List.mem_of_getElem? (i := 12) rfl)
theorem vt_1813 : (.code ⟨"java/lang/Throwable", "<init>", "()V"⟩ prog_27_method_1_code 1 none : Cond) ∈ vT := inR_45 _ (List.mem_of_getElem? (i := 13) rfl)
theorem vt_1814 : (.methodLink "java/lang/Throwable" 1 ⟨"java/lang/Object", "<init>", "()V"⟩ : Cond) ∈ vT := inR_45 _ (List.mem_of_getElem? (i := 14) rfl)
theorem vt_1815 : (.fieldLink "java/lang/Throwable" 13 "java/lang/Throwable" "UNASSIGNED_STACK" "[Ljava/lang/StackTraceElement;" : Cond) ∈ vT := inR_45 _ (List.mem_of_getElem? (i := 15) rfl)
theorem vt_1816 : (.fieldLink "java/lang/Throwable" 20 "java/lang/Throwable" "SUPPRESSED_SENTINEL" "Ljava/util/List;" : Cond) ∈ vT := inR_45 _ (List.mem_of_getElem? (i := 16) rfl)
theorem vt_1817 : (.methodLink "java/lang/Throwable" 27 ⟨"java/lang/Throwable", "fillInStackTrace", "()Ljava/lang/Throwable;"⟩ : Cond) ∈ vT := inR_45 _ (List.mem_of_getElem? (i := 17) rfl)
theorem vt_1818 : (.instanceMethod ⟨"java/lang/Throwable", "fillInStackTrace", "()Ljava/lang/Throwable;"⟩ : Cond) ∈ vT := inR_45 _ (List.mem_of_getElem? (i := 18) rfl)
theorem vt_1819 : (.selects "FamilyKernelModel$Wrong" ⟨"java/lang/Throwable", "fillInStackTrace", "()Ljava/lang/Throwable;"⟩ ⟨"java/lang/Throwable", "fillInStackTrace", "()Ljava/lang/Throwable;"⟩ : Cond) ∈ vT := inR_45 _ (List.mem_of_getElem? (i := 19) rfl)
theorem vt_1820 : (.selects "java/lang/IllegalArgumentException" ⟨"java/lang/Throwable", "fillInStackTrace", "()Ljava/lang/Throwable;"⟩ ⟨"java/lang/Throwable", "fillInStackTrace", "()Ljava/lang/Throwable;"⟩ : Cond) ∈ vT := inR_45 _ (List.mem_of_getElem? (i := 20) rfl)
theorem vt_1821 : (.selects "java/lang/IndexOutOfBoundsException" ⟨"java/lang/Throwable", "fillInStackTrace", "()Ljava/lang/Throwable;"⟩ ⟨"java/lang/Throwable", "fillInStackTrace", "()Ljava/lang/Throwable;"⟩ : Cond) ∈ vT := inR_45 _ (List.mem_of_getElem? (i := 21) rfl)
theorem vt_1822 : (.selects "java/util/NoSuchElementException" ⟨"java/lang/Throwable", "fillInStackTrace", "()Ljava/lang/Throwable;"⟩ ⟨"java/lang/Throwable", "fillInStackTrace", "()Ljava/lang/Throwable;"⟩ : Cond) ∈ vT := inR_45 _ (List.mem_of_getElem? (i := 22) rfl)
theorem vt_1823 : (.methodLink "java/lang/Throwable" 202 ⟨"java/lang/Throwable", "fillInStackTrace", "(I)Ljava/lang/Throwable;"⟩ : Cond) ∈ vT := inR_45 _ (List.mem_of_getElem? (i := 23) rfl)
theorem vt_1824 : (.instanceMethod ⟨"java/lang/Throwable", "fillInStackTrace", "(I)Ljava/lang/Throwable;"⟩ : Cond) ∈ vT := inR_45 _ (List.mem_of_getElem? (i := 24) rfl)
theorem vt_1825 : (.instantiable "java/lang/Throwable" 6 : Cond) ∈ vT := inR_45 _ (List.mem_of_getElem? (i := 25) rfl)
theorem vt_1826 : (.native ⟨"java/lang/Throwable", "fillInStackTrace", "(I)Ljava/lang/Throwable;"⟩ : Cond) ∈ vT := inR_45 _ (List.mem_of_getElem? (i := 26) rfl)
theorem vt_1827 : (.methodLink "java/lang/IllegalStateException" 1 ⟨"java/lang/RuntimeException", "<init>", "()V"⟩ : Cond) ∈ vT := inR_45 _ (List.mem_of_getElem? (i := 27) rfl)
theorem vt_1828 : (.instanceMethod ⟨"java/lang/RuntimeException", "<init>", "()V"⟩ : Cond) ∈ vT := inR_45 _ (List.mem_of_getElem? (i := 28) rfl)
theorem vt_1829 : (.code ⟨"java/lang/RuntimeException", "<init>", "()V"⟩ prog_22_method_1_code 1 none : Cond) ∈ vT := inR_45 _ (List.mem_of_getElem? (i := 29) rfl)
theorem vt_1830 : (.methodLink "java/lang/RuntimeException" 1 ⟨"java/lang/Exception", "<init>", "()V"⟩ : Cond) ∈ vT := inR_45 _ (List.mem_of_getElem? (i := 30) rfl)
theorem vt_1831 : (.instanceMethod ⟨"java/lang/Exception", "<init>", "()V"⟩ : Cond) ∈ vT := inR_45 _ (List.mem_of_getElem? (i := 31) rfl)
theorem vt_1832 : (.code ⟨"java/lang/Exception", "<init>", "()V"⟩ prog_17_method_1_code 1 none : Cond) ∈ vT := inR_45 _ (List.mem_of_getElem? (i := 32) rfl)
theorem vt_1833 : (.methodLink "java/lang/Exception" 1 ⟨"java/lang/Throwable", "<init>", "()V"⟩ : Cond) ∈ vT := inR_45 _ (List.mem_of_getElem? (i := 33) rfl)
theorem vt_1834 : (.fieldLink "java/lang/Throwable" 31 "java/lang/Throwable" "detailMessage" "Ljava/lang/String;" : Cond) ∈ vT := inR_45 _ (List.mem_of_getElem? (i := 34) rfl)
theorem vt_1835 : (.fieldLink "java/lang/Throwable" 7 "java/lang/Throwable" "cause" "Ljava/lang/Throwable;" : Cond) ∈ vT := inR_45 _ (List.mem_of_getElem? (i := 35) rfl)
theorem vt_1836 : (.fieldLink "java/lang/Throwable" 17 "java/lang/Throwable" "stackTrace" "[Ljava/lang/StackTraceElement;" : Cond) ∈ vT := inR_45 _ (List.mem_of_getElem? (i := 36) rfl)
theorem vt_1837 : (.fieldLink "java/lang/Throwable" 24 "java/lang/Throwable" "suppressedExceptions" "Ljava/util/List;" : Cond) ∈ vT := inR_45 _ (List.mem_of_getElem? (i := 37) rfl)
theorem vt_1838 : (.selects "[J" ⟨"[J", "clone", "()Ljava/lang/Object;"⟩ ⟨"java/lang/Object", "clone", "()Ljava/lang/Object;"⟩ : Cond) ∈ vT := inR_45 _ (List.mem_of_getElem? (i := 38) rfl)
theorem vt_1839 : (.classLink "java/util/Arrays" 320 "[J" : Cond) ∈ vT := inR_45 _ (List.mem_of_getElem? (i := 39) rfl)
theorem vt_1840 : (.methodLink "FamilyKernelLaw" 60 ⟨"FamilyKernel", "fault", "(I)I"⟩ : Cond) ∈ vT := inR_46 _ (List.mem_of_getElem? (i := 0) rfl)
theorem vt_1841 : (.instanceMethod ⟨"FamilyKernel", "fault", "(I)I"⟩ : Cond) ∈ vT := inR_46 _ (List.mem_of_getElem? (i := 1) rfl)
theorem vt_1842 : (.selects "FamilyKernel" ⟨"FamilyKernel", "fault", "(I)I"⟩ ⟨"FamilyKernel", "fault", "(I)I"⟩ : Cond) ∈ vT := inR_46 _ (List.mem_of_getElem? (i := 2) rfl)
theorem vt_1843 : (.methodLink "FamilyKernelLaw" 64 ⟨"FamilyKernel", "reset", "()I"⟩ : Cond) ∈ vT := inR_46 _ (List.mem_of_getElem? (i := 3) rfl)
theorem vt_1844 : (.instanceMethod ⟨"FamilyKernel", "reset", "()I"⟩ : Cond) ∈ vT := inR_46 _ (List.mem_of_getElem? (i := 4) rfl)
theorem vt_1845 : (.selects "FamilyKernel" ⟨"FamilyKernel", "reset", "()I"⟩ ⟨"FamilyKernel", "reset", "()I"⟩ : Cond) ∈ vT := inR_46 _ (List.mem_of_getElem? (i := 5) rfl)
theorem vt_1846 : (.methodLink "FamilyKernelLaw" 81 ⟨"FamilyKernel", "count", "(I)I"⟩ : Cond) ∈ vT := inR_46 _ (List.mem_of_getElem? (i := 6) rfl)
theorem vt_1847 : (.instanceMethod ⟨"FamilyKernel", "count", "(I)I"⟩ : Cond) ∈ vT := inR_46 _ (List.mem_of_getElem? (i := 7) rfl)
theorem vt_1848 : (.selects "FamilyKernel" ⟨"FamilyKernel", "count", "(I)I"⟩ ⟨"FamilyKernel", "count", "(I)I"⟩ : Cond) ∈ vT := inR_46 _ (List.mem_of_getElem? (i := 8) rfl)
theorem vt_1849 : (.methodLink "FamilyKernelLaw" 42 ⟨"FamilyKernelLaw", "feed", "(LFamilyKernel;IIIII[J)I"⟩ : Cond) ∈ vT := inR_46 _ (List.mem_of_getElem? (i := 9) rfl)
theorem vt_1850 : (.static ⟨"FamilyKernelLaw", "feed", "(LFamilyKernel;IIIII[J)I"⟩ : Cond) ∈ vT := inR_46 _ (List.mem_of_getElem? (i := 10) rfl)
theorem vt_1851 : (.classLink "FamilyKernelLaw" 13 "java/lang/IllegalStateException" : Cond) ∈ vT := inR_46 _ (List.mem_of_getElem? (i := 11) rfl)
theorem vt_1852 : (.methodLink "FamilyKernelLaw" 48 ⟨"FamilyKernelLaw", "end", "(LFamilyKernel;I[J)I"⟩ : Cond) ∈ vT := inR_46 _ (List.mem_of_getElem? (i := 12) rfl)
theorem vt_1853 : (.static ⟨"FamilyKernelLaw", "end", "(LFamilyKernel;I[J)I"⟩ : Cond) ∈ vT := inR_46 _ (List.mem_of_getElem? (i := 13) rfl)
theorem vt_1854 : (.classLink "FamilyKernelLaw" 19 "java/lang/IllegalArgumentException" : Cond) ∈ vT := inR_46 _ (List.mem_of_getElem? (i := 14) rfl)
theorem vt_1855 : (.selects "java/lang/IllegalArgumentException" ⟨"java/lang/Throwable", "fillInStackTrace", "(I)Ljava/lang/Throwable;"⟩ ⟨"java/lang/Throwable", "fillInStackTrace", "(I)Ljava/lang/Throwable;"⟩ : Cond) ∈ vT := inR_46 _ (List.mem_of_getElem? (i := 15) rfl)
theorem vt_1856 : (.methodLink "java/lang/IllegalArgumentException" 1 ⟨"java/lang/RuntimeException", "<init>", "()V"⟩ : Cond) ∈ vT := inR_46 _ (List.mem_of_getElem? (i := 16) rfl)
theorem vt_1857 : (.methodLink "FamilyKernelLaw" 68 ⟨"FamilyKernelLaw", "constant", "(LFamilyKernel;II[J)I"⟩ : Cond) ∈ vT := inR_46 _ (List.mem_of_getElem? (i := 17) rfl)
theorem vt_1858 : (.static ⟨"FamilyKernelLaw", "constant", "(LFamilyKernel;II[J)I"⟩ : Cond) ∈ vT := inR_46 _ (List.mem_of_getElem? (i := 18) rfl)
theorem vt_1859 : (.classLink "FamilyKernelLaw" 25 "java/util/NoSuchElementException" : Cond) ∈ vT := inR_46 _ (List.mem_of_getElem? (i := 19) rfl)
theorem vt_1860 : (.selects "java/util/NoSuchElementException" ⟨"java/lang/Throwable", "fillInStackTrace", "(I)Ljava/lang/Throwable;"⟩ ⟨"java/lang/Throwable", "fillInStackTrace", "(I)Ljava/lang/Throwable;"⟩ : Cond) ∈ vT := inR_46 _ (List.mem_of_getElem? (i := 20) rfl)
theorem vt_1861 : (.methodLink "java/util/NoSuchElementException" 1 ⟨"java/lang/RuntimeException", "<init>", "()V"⟩ : Cond) ∈ vT := inR_46 _ (List.mem_of_getElem? (i := 21) rfl)
theorem vt_1862 : (.methodLink "FamilyKernelLaw" 72 ⟨"FamilyKernelLaw", "show", "(LFamilyKernel;II[J)I"⟩ : Cond) ∈ vT := inR_46 _ (List.mem_of_getElem? (i := 22) rfl)
theorem vt_1863 : (.static ⟨"FamilyKernelLaw", "show", "(LFamilyKernel;II[J)I"⟩ : Cond) ∈ vT := inR_46 _ (List.mem_of_getElem? (i := 23) rfl)
theorem vt_1864 : (.methodLink "FamilyKernelLaw" 75 ⟨"FamilyKernelLaw", "showRec", "(LFamilyKernel;II[J)I"⟩ : Cond) ∈ vT := inR_46 _ (List.mem_of_getElem? (i := 24) rfl)
theorem vt_1865 : (.static ⟨"FamilyKernelLaw", "showRec", "(LFamilyKernel;II[J)I"⟩ : Cond) ∈ vT := inR_46 _ (List.mem_of_getElem? (i := 25) rfl)
theorem vt_1866 : (.methodLink "FamilyKernelLaw" 78 ⟨"FamilyKernelLaw", "out", "(LFamilyKernel;I[J)I"⟩ : Cond) ∈ vT := inR_46 _ (List.mem_of_getElem? (i := 26) rfl)
theorem vt_1867 : (.static ⟨"FamilyKernelLaw", "out", "(LFamilyKernel;I[J)I"⟩ : Cond) ∈ vT := inR_46 _ (List.mem_of_getElem? (i := 27) rfl)
theorem vt_1868 : (.classLink "FamilyKernelLaw" 36 "java/lang/IndexOutOfBoundsException" : Cond) ∈ vT := inR_46 _ (List.mem_of_getElem? (i := 28) rfl)
theorem vt_1869 : (.selects "java/lang/IndexOutOfBoundsException" ⟨"java/lang/Throwable", "fillInStackTrace", "(I)Ljava/lang/Throwable;"⟩ ⟨"java/lang/Throwable", "fillInStackTrace", "(I)Ljava/lang/Throwable;"⟩ : Cond) ∈ vT := inR_46 _ (List.mem_of_getElem? (i := 29) rfl)
theorem vt_1870 : (.methodLink "java/lang/IndexOutOfBoundsException" 1 ⟨"java/lang/RuntimeException", "<init>", "()V"⟩ : Cond) ∈ vT := inR_46 _ (List.mem_of_getElem? (i := 30) rfl)
theorem vt_1871 : (.classLink "FamilyKernelLaw" 39 "FamilyKernelModel" : Cond) ∈ vT := inR_46 _ (List.mem_of_getElem? (i := 31) rfl)
theorem vt_1872 : (.instantiable "FamilyKernelModel" 76 : Cond) ∈ vT := inR_46 _ (List.mem_of_getElem? (i := 32) rfl)
theorem vt_1873 : (.methodLink "FamilyKernelLaw" 41 ⟨"FamilyKernelModel", "<init>", "()V"⟩ : Cond) ∈ vT := inR_46 _ (List.mem_of_getElem? (i := 33) rfl)
theorem vt_1874 : (.instanceMethod ⟨"FamilyKernelModel", "<init>", "()V"⟩ : Cond) ∈ vT := inR_46 _ (List.mem_of_getElem? (i := 34) rfl)
theorem vt_1875 : (.methodLink "FamilyKernelLaw" 52 ⟨"FamilyKernelModel", "thrown", "()I"⟩ : Cond) ∈ vT := inR_46 _ (List.mem_of_getElem? (i := 35) rfl)
theorem vt_1876 : (.instanceMethod ⟨"FamilyKernelModel", "thrown", "()I"⟩ : Cond) ∈ vT := inR_46 _ (List.mem_of_getElem? (i := 36) rfl)
theorem vt_1877 : (.selects "FamilyKernelModel" ⟨"FamilyKernelModel", "thrown", "()I"⟩ ⟨"FamilyKernelModel", "thrown", "()I"⟩ : Cond) ∈ vT := inR_46 _ (List.mem_of_getElem? (i := 37) rfl)
theorem vt_1878 : (.methodLink "FamilyKernelLaw" 47 ⟨"FamilyKernelModel", "feed", "(IIIII)I"⟩ : Cond) ∈ vT := inR_46 _ (List.mem_of_getElem? (i := 38) rfl)
theorem vt_1879 : (.instanceMethod ⟨"FamilyKernelModel", "feed", "(IIIII)I"⟩ : Cond) ∈ vT := inR_46 _ (List.mem_of_getElem? (i := 39) rfl)
theorem vt_1880 : (.selects "FamilyKernelModel" ⟨"FamilyKernelModel", "feed", "(IIIII)I"⟩ ⟨"FamilyKernelModel", "feed", "(IIIII)I"⟩ : Cond) ∈ vT := inR_47 _ (List.mem_of_getElem? (i := 0) rfl)
theorem vt_1881 : (.methodLink "FamilyKernelLaw" 51 ⟨"FamilyKernelModel", "end", "(I)I"⟩ : Cond) ∈ vT := inR_47 _ (List.mem_of_getElem? (i := 1) rfl)
theorem vt_1882 : (.instanceMethod ⟨"FamilyKernelModel", "end", "(I)I"⟩ : Cond) ∈ vT := inR_47 _ (List.mem_of_getElem? (i := 2) rfl)
theorem vt_1883 : (.selects "FamilyKernelModel" ⟨"FamilyKernelModel", "end", "(I)I"⟩ ⟨"FamilyKernelModel", "end", "(I)I"⟩ : Cond) ∈ vT := inR_47 _ (List.mem_of_getElem? (i := 3) rfl)
theorem vt_1884 : (.methodLink "FamilyKernelLaw" 59 ⟨"FamilyKernelModel", "read", "()I"⟩ : Cond) ∈ vT := inR_47 _ (List.mem_of_getElem? (i := 4) rfl)
theorem vt_1885 : (.instanceMethod ⟨"FamilyKernelModel", "read", "()I"⟩ : Cond) ∈ vT := inR_47 _ (List.mem_of_getElem? (i := 5) rfl)
theorem vt_1886 : (.selects "FamilyKernelModel" ⟨"FamilyKernelModel", "read", "()I"⟩ ⟨"FamilyKernelModel", "read", "()I"⟩ : Cond) ∈ vT := inR_47 _ (List.mem_of_getElem? (i := 6) rfl)
theorem vt_1887 : (.selects "FamilyKernelModel$Wrong" ⟨"java/lang/Throwable", "fillInStackTrace", "(I)Ljava/lang/Throwable;"⟩ ⟨"java/lang/Throwable", "fillInStackTrace", "(I)Ljava/lang/Throwable;"⟩ : Cond) ∈ vT := inR_47 _ (List.mem_of_getElem? (i := 7) rfl)
theorem vt_1888 : (.methodLink "java/lang/RuntimeException" 16 ⟨"java/lang/Exception", "<init>", "(Ljava/lang/String;Ljava/lang/Throwable;ZZ)V"⟩ : Cond) ∈ vT := inR_47 _ (List.mem_of_getElem? (i := 8) rfl)
theorem vt_1889 : (.instanceMethod ⟨"java/lang/Exception", "<init>", "(Ljava/lang/String;Ljava/lang/Throwable;ZZ)V"⟩ : Cond) ∈ vT := inR_47 _ (List.mem_of_getElem? (i := 9) rfl)
theorem vt_1890 : (.code ⟨"java/lang/Exception", "<init>", "(Ljava/lang/String;Ljava/lang/Throwable;ZZ)V"⟩ prog_17_method_5_code 5 none : Cond) ∈ vT := inR_47 _ (List.mem_of_getElem? (i := 10) rfl)
theorem vt_1891 : (.methodLink "java/lang/Exception" 16 ⟨"java/lang/Throwable", "<init>", "(Ljava/lang/String;Ljava/lang/Throwable;ZZ)V"⟩ : Cond) ∈ vT := inR_47 _ (List.mem_of_getElem? (i := 11) rfl)
theorem vt_1892 : (.instanceMethod ⟨"java/lang/Throwable", "<init>", "(Ljava/lang/String;Ljava/lang/Throwable;ZZ)V"⟩ : Cond) ∈ vT := inR_47 _ (List.mem_of_getElem? (i := 12) rfl)
theorem vt_1893 : (.code ⟨"java/lang/Throwable", "<init>", "(Ljava/lang/String;Ljava/lang/Throwable;ZZ)V"⟩ prog_27_method_5_code 5 none : Cond) ∈ vT := inR_47 _ (List.mem_of_getElem? (i := 13) rfl)
theorem vt_1894 : (.methodLink "FamilyKernelLaw" 63 ⟨"FamilyKernelModel", "fault", "(I)I"⟩ : Cond) ∈ vT := inR_47 _ (List.mem_of_getElem? (i := 14) rfl)
theorem vt_1895 : (.instanceMethod ⟨"FamilyKernelModel", "fault", "(I)I"⟩ : Cond) ∈ vT := inR_47 _ (List.mem_of_getElem? (i := 15) rfl)
theorem vt_1896 : (.selects "FamilyKernelModel" ⟨"FamilyKernelModel", "fault", "(I)I"⟩ ⟨"FamilyKernelModel", "fault", "(I)I"⟩ : Cond) ∈ vT := inR_47 _ (List.mem_of_getElem? (i := 16) rfl)
theorem vt_1897 : (.methodLink "FamilyKernelLaw" 67 ⟨"FamilyKernelModel", "reset", "()I"⟩ : Cond) ∈ vT := inR_47 _ (List.mem_of_getElem? (i := 17) rfl)
theorem vt_1898 : (.instanceMethod ⟨"FamilyKernelModel", "reset", "()I"⟩ : Cond) ∈ vT := inR_47 _ (List.mem_of_getElem? (i := 18) rfl)
theorem vt_1899 : (.selects "FamilyKernelModel" ⟨"FamilyKernelModel", "reset", "()I"⟩ ⟨"FamilyKernelModel", "reset", "()I"⟩ : Cond) ∈ vT := inR_47 _ (List.mem_of_getElem? (i := 19) rfl)
theorem vt_1900 : (.methodLink "FamilyKernelLaw" 71 ⟨"FamilyKernelModel", "constant", "(II)I"⟩ : Cond) ∈ vT := inR_47 _ (List.mem_of_getElem? (i := 20) rfl)
theorem vt_1901 : (.instanceMethod ⟨"FamilyKernelModel", "constant", "(II)I"⟩ : Cond) ∈ vT := inR_47 _ (List.mem_of_getElem? (i := 21) rfl)
theorem vt_1902 : (.selects "FamilyKernelModel" ⟨"FamilyKernelModel", "constant", "(II)I"⟩ ⟨"FamilyKernelModel", "constant", "(II)I"⟩ : Cond) ∈ vT := inR_47 _ (List.mem_of_getElem? (i := 22) rfl)
theorem vt_1903 : (.methodLink "FamilyKernelLaw" 74 ⟨"FamilyKernelModel", "show", "(II)I"⟩ : Cond) ∈ vT := inR_47 _ (List.mem_of_getElem? (i := 23) rfl)
theorem vt_1904 : (.instanceMethod ⟨"FamilyKernelModel", "show", "(II)I"⟩ : Cond) ∈ vT := inR_47 _ (List.mem_of_getElem? (i := 24) rfl)
theorem vt_1905 : (.selects "FamilyKernelModel" ⟨"FamilyKernelModel", "show", "(II)I"⟩ ⟨"FamilyKernelModel", "show", "(II)I"⟩ : Cond) ∈ vT := inR_47 _ (List.mem_of_getElem? (i := 25) rfl)
theorem vt_1906 : (.methodLink "FamilyKernelLaw" 77 ⟨"FamilyKernelModel", "showRec", "(II)I"⟩ : Cond) ∈ vT := inR_47 _ (List.mem_of_getElem? (i := 26) rfl)
theorem vt_1907 : (.instanceMethod ⟨"FamilyKernelModel", "showRec", "(II)I"⟩ : Cond) ∈ vT := inR_47 _ (List.mem_of_getElem? (i := 27) rfl)
theorem vt_1908 : (.selects "FamilyKernelModel" ⟨"FamilyKernelModel", "showRec", "(II)I"⟩ ⟨"FamilyKernelModel", "showRec", "(II)I"⟩ : Cond) ∈ vT := inR_47 _ (List.mem_of_getElem? (i := 28) rfl)
theorem vt_1909 : (.methodLink "FamilyKernelLaw" 80 ⟨"FamilyKernelModel", "out", "(I)I"⟩ : Cond) ∈ vT := inR_47 _ (List.mem_of_getElem? (i := 29) rfl)
theorem vt_1910 : (.instanceMethod ⟨"FamilyKernelModel", "out", "(I)I"⟩ : Cond) ∈ vT := inR_47 _ (List.mem_of_getElem? (i := 30) rfl)
theorem vt_1911 : (.selects "FamilyKernelModel" ⟨"FamilyKernelModel", "out", "(I)I"⟩ ⟨"FamilyKernelModel", "out", "(I)I"⟩ : Cond) ∈ vT := inR_47 _ (List.mem_of_getElem? (i := 31) rfl)
theorem vt_1912 : (.methodLink "FamilyKernelLaw" 84 ⟨"FamilyKernelModel", "count", "(I)I"⟩ : Cond) ∈ vT := inR_47 _ (List.mem_of_getElem? (i := 32) rfl)
theorem vt_1913 : (.instanceMethod ⟨"FamilyKernelModel", "count", "(I)I"⟩ : Cond) ∈ vT := inR_47 _ (List.mem_of_getElem? (i := 33) rfl)
theorem vt_1914 : (.selects "FamilyKernelModel" ⟨"FamilyKernelModel", "count", "(I)I"⟩ ⟨"FamilyKernelModel", "count", "(I)I"⟩ : Cond) ∈ vT := inR_47 _ (List.mem_of_getElem? (i := 34) rfl)
theorem vt_1915 : (.fieldLink "java/lang/String" 9 "java/lang/String" "value" "[B" : Cond) ∈ vT := inR_47 _ (List.mem_of_getElem? (i := 35) rfl)
theorem vt_1916 : (.fieldLink "java/lang/String" 15 "java/lang/String" "coder" "B" : Cond) ∈ vT := inR_47 _ (List.mem_of_getElem? (i := 36) rfl)
theorem vt_1917 : (.lays "java/lang/IllegalStateException" "java/lang/Throwable" "cause" "Ljava/lang/Throwable;" : Cond) ∈ vT := inR_47 _ (List.mem_of_getElem? (i := 37) rfl)
theorem vt_1918 : (.lays "java/lang/Throwable" "java/lang/Throwable" "cause" "Ljava/lang/Throwable;" : Cond) ∈ vT := inR_47 _ (List.mem_of_getElem? (i := 38) rfl)
theorem vt_1919 : (.lays "java/lang/IllegalStateException" "java/lang/Throwable" "stackTrace" "[Ljava/lang/StackTraceElement;" : Cond) ∈ vT := inR_47 _ (List.mem_of_getElem? (i := 39) rfl)
theorem vt_1920 : (.lays "java/lang/Throwable" "java/lang/Throwable" "stackTrace" "[Ljava/lang/StackTraceElement;" : Cond) ∈ vT := inR_48 _ (List.mem_of_getElem? (i := 0) rfl)
theorem vt_1921 : (.lays "java/lang/IllegalStateException" "java/lang/Throwable" "suppressedExceptions" "Ljava/util/List;" : Cond) ∈ vT := inR_48 _ (List.mem_of_getElem? (i := 1) rfl)
theorem vt_1922 : (.lays "java/lang/Throwable" "java/lang/Throwable" "suppressedExceptions" "Ljava/util/List;" : Cond) ∈ vT := inR_48 _ (List.mem_of_getElem? (i := 2) rfl)
theorem vt_1923 : (.lays "java/lang/IllegalStateException" "java/lang/Throwable" "detailMessage" "Ljava/lang/String;" : Cond) ∈ vT := inR_48 _ (List.mem_of_getElem? (i := 3) rfl)
theorem vt_1924 : (.lays "java/lang/Throwable" "java/lang/Throwable" "detailMessage" "Ljava/lang/String;" : Cond) ∈ vT := inR_48 _ (List.mem_of_getElem? (i := 4) rfl)
theorem vt_1925 : (.lays "java/lang/IllegalStateException" "java/lang/Throwable" "backtrace" "Ljava/lang/Object;" : Cond) ∈ vT := inR_48 _ (List.mem_of_getElem? (i := 5) rfl)
theorem vt_1926 : (.lays "java/lang/Throwable" "java/lang/Throwable" "backtrace" "Ljava/lang/Object;" : Cond) ∈ vT := inR_48 _ (List.mem_of_getElem? (i := 6) rfl)
theorem vt_1927 : (.superclass "java/lang/Throwable" "java/lang/Object" : Cond) ∈ vT := inR_48 _ (List.mem_of_getElem? (i := 7) rfl)
theorem vt_1928 : (.sameMethod "java/lang/Throwable" "java/lang/Throwable" "fillInStackTrace" "()Ljava/lang/Throwable;" : Cond) ∈ vT := inR_48 _ (List.mem_of_getElem? (i := 8) rfl)
theorem vt_1929 : (.codeSync ⟨"java/lang/Throwable", "fillInStackTrace", "()Ljava/lang/Throwable;"⟩ prog_27_method_18_code 1 (some (.object "java/lang/Throwable")) : Cond) ∈ vT := inR_48 _ (List.mem_of_getElem? (i := 9) rfl)
theorem vt_1930 : (.soleField "java/lang/Throwable" "backtrace" : Cond) ∈ vT := inR_48 _ (List.mem_of_getElem? (i := 10) rfl)
theorem vt_1931 : (.soleField "java/lang/Throwable" "detailMessage" : Cond) ∈ vT := inR_48 _ (List.mem_of_getElem? (i := 11) rfl)
theorem vt_1932 : (.soleField "java/lang/Throwable" "cause" : Cond) ∈ vT := inR_48 _ (List.mem_of_getElem? (i := 12) rfl)
theorem vt_1933 : (.soleField "java/lang/Throwable" "stackTrace" : Cond) ∈ vT := inR_48 _ (List.mem_of_getElem? (i := 13) rfl)
theorem vt_1934 : (.lays "java/lang/IllegalStateException" "java/lang/Throwable" "depth" "I" : Cond) ∈ vT := inR_48 _ (List.mem_of_getElem? (i := 14) rfl)
theorem vt_1935 : (.soleField "java/lang/Throwable" "depth" : Cond) ∈ vT := inR_48 _ (List.mem_of_getElem? (i := 15) rfl)
theorem vt_1936 : (.soleField "java/lang/Throwable" "suppressedExceptions" : Cond) ∈ vT := inR_48 _ (List.mem_of_getElem? (i := 16) rfl)
theorem vt_1937 : (.superclass "java/lang/IllegalStateException" "java/lang/RuntimeException" : Cond) ∈ vT := inR_48 _ (List.mem_of_getElem? (i := 17) rfl)
theorem vt_1938 : (.lays "java/lang/IllegalArgumentException" "java/lang/Throwable" "cause" "Ljava/lang/Throwable;" : Cond) ∈ vT := inR_48 _ (List.mem_of_getElem? (i := 18) rfl)
theorem vt_1939 : (.lays "java/lang/IllegalArgumentException" "java/lang/Throwable" "stackTrace" "[Ljava/lang/StackTraceElement;" : Cond) ∈ vT := inR_48 _ (List.mem_of_getElem? (i := 19) rfl)
theorem vt_1940 : (.lays "java/lang/IllegalArgumentException" "java/lang/Throwable" "suppressedExceptions" "Ljava/util/List;" : Cond) ∈ vT := inR_48 _ (List.mem_of_getElem? (i := 20) rfl)
theorem vt_1941 : (.lays "java/lang/IllegalArgumentException" "java/lang/Throwable" "detailMessage" "Ljava/lang/String;" : Cond) ∈ vT := inR_48 _ (List.mem_of_getElem? (i := 21) rfl)
theorem vt_1942 : (.lays "java/lang/IllegalArgumentException" "java/lang/Throwable" "backtrace" "Ljava/lang/Object;" : Cond) ∈ vT := inR_48 _ (List.mem_of_getElem? (i := 22) rfl)
theorem vt_1943 : (.lays "java/lang/IllegalArgumentException" "java/lang/Throwable" "depth" "I" : Cond) ∈ vT := inR_48 _ (List.mem_of_getElem? (i := 23) rfl)
theorem vt_1944 : (.superclass "java/lang/IllegalArgumentException" "java/lang/RuntimeException" : Cond) ∈ vT := inR_48 _ (List.mem_of_getElem? (i := 24) rfl)
theorem vt_1945 : (.lays "java/util/NoSuchElementException" "java/lang/Throwable" "cause" "Ljava/lang/Throwable;" : Cond) ∈ vT := inR_48 _ (List.mem_of_getElem? (i := 25) rfl)
theorem vt_1946 : (.lays "java/util/NoSuchElementException" "java/lang/Throwable" "stackTrace" "[Ljava/lang/StackTraceElement;" : Cond) ∈ vT := inR_48 _ (List.mem_of_getElem? (i := 26) rfl)
theorem vt_1947 : (.lays "java/util/NoSuchElementException" "java/lang/Throwable" "suppressedExceptions" "Ljava/util/List;" : Cond) ∈ vT := inR_48 _ (List.mem_of_getElem? (i := 27) rfl)
theorem vt_1948 : (.lays "java/util/NoSuchElementException" "java/lang/Throwable" "detailMessage" "Ljava/lang/String;" : Cond) ∈ vT := inR_48 _ (List.mem_of_getElem? (i := 28) rfl)
theorem vt_1949 : (.lays "java/util/NoSuchElementException" "java/lang/Throwable" "backtrace" "Ljava/lang/Object;" : Cond) ∈ vT := inR_48 _ (List.mem_of_getElem? (i := 29) rfl)
theorem vt_1950 : (.lays "java/util/NoSuchElementException" "java/lang/Throwable" "depth" "I" : Cond) ∈ vT := inR_48 _ (List.mem_of_getElem? (i := 30) rfl)
theorem vt_1951 : (.superclass "java/util/NoSuchElementException" "java/lang/RuntimeException" : Cond) ∈ vT := inR_48 _ (List.mem_of_getElem? (i := 31) rfl)
theorem vt_1952 : (.lays "java/lang/IndexOutOfBoundsException" "java/lang/Throwable" "cause" "Ljava/lang/Throwable;" : Cond) ∈ vT := inR_48 _ (List.mem_of_getElem? (i := 32) rfl)
theorem vt_1953 : (.lays "java/lang/IndexOutOfBoundsException" "java/lang/Throwable" "stackTrace" "[Ljava/lang/StackTraceElement;" : Cond) ∈ vT := inR_48 _ (List.mem_of_getElem? (i := 33) rfl)
theorem vt_1954 : (.lays "java/lang/IndexOutOfBoundsException" "java/lang/Throwable" "suppressedExceptions" "Ljava/util/List;" : Cond) ∈ vT := inR_48 _ (List.mem_of_getElem? (i := 34) rfl)
theorem vt_1955 : (.lays "java/lang/IndexOutOfBoundsException" "java/lang/Throwable" "detailMessage" "Ljava/lang/String;" : Cond) ∈ vT := inR_48 _ (List.mem_of_getElem? (i := 35) rfl)
theorem vt_1956 : (.lays "java/lang/IndexOutOfBoundsException" "java/lang/Throwable" "backtrace" "Ljava/lang/Object;" : Cond) ∈ vT := inR_48 _ (List.mem_of_getElem? (i := 36) rfl)
theorem vt_1957 : (.lays "java/lang/IndexOutOfBoundsException" "java/lang/Throwable" "depth" "I" : Cond) ∈ vT := inR_48 _ (List.mem_of_getElem? (i := 37) rfl)
theorem vt_1958 : (.superclass "java/lang/IndexOutOfBoundsException" "java/lang/RuntimeException" : Cond) ∈ vT := inR_48 _ (List.mem_of_getElem? (i := 38) rfl)
theorem vt_1959 : (.lays "FamilyKernelModel$Wrong" "java/lang/Throwable" "cause" "Ljava/lang/Throwable;" : Cond) ∈ vT := inR_48 _ (List.mem_of_getElem? (i := 39) rfl)
theorem vt_1960 : (.lays "FamilyKernelModel$Wrong" "java/lang/Throwable" "stackTrace" "[Ljava/lang/StackTraceElement;" : Cond) ∈ vT := inR_49 _ (List.mem_of_getElem? (i := 0) rfl)
theorem vt_1961 : (.lays "FamilyKernelModel$Wrong" "java/lang/Throwable" "suppressedExceptions" "Ljava/util/List;" : Cond) ∈ vT := inR_49 _ (List.mem_of_getElem? (i := 1) rfl)
theorem vt_1962 : (.lays "FamilyKernelModel$Wrong" "java/lang/Throwable" "detailMessage" "Ljava/lang/String;" : Cond) ∈ vT := inR_49 _ (List.mem_of_getElem? (i := 2) rfl)
theorem vt_1963 : (.lays "FamilyKernelModel$Wrong" "java/lang/Throwable" "backtrace" "Ljava/lang/Object;" : Cond) ∈ vT := inR_49 _ (List.mem_of_getElem? (i := 3) rfl)
theorem vt_1964 : (.laysFinal "FamilyKernelModel$Wrong" "FamilyKernelModel$Wrong" "kind" "I" : Cond) ∈ vT := inR_49 _ (List.mem_of_getElem? (i := 4) rfl)
theorem vt_1965 : (.soleField "FamilyKernelModel$Wrong" "kind" : Cond) ∈ vT := inR_49 _ (List.mem_of_getElem? (i := 5) rfl)
theorem vt_1966 : (.laysFinal "FamilyKernelModel$Wrong" "FamilyKernelModel$Wrong" "place" "I" : Cond) ∈ vT := inR_49 _ (List.mem_of_getElem? (i := 6) rfl)
theorem vt_1967 : (.soleField "FamilyKernelModel$Wrong" "place" : Cond) ∈ vT := inR_49 _ (List.mem_of_getElem? (i := 7) rfl)
theorem vt_1968 : (.lays "FamilyKernelModel$Wrong" "java/lang/Throwable" "depth" "I" : Cond) ∈ vT := inR_49 _ (List.mem_of_getElem? (i := 8) rfl)
theorem vt_1969 : (.superclass "FamilyKernelModel$Wrong" "java/lang/RuntimeException" : Cond) ∈ vT := inR_49 _ (List.mem_of_getElem? (i := 9) rfl)
theorem vt_1970 : (.sameMethod "java/lang/Throwable" "java/lang/Throwable" "fillInStackTrace" "(I)Ljava/lang/Throwable;" : Cond) ∈ vT := inR_49 _ (List.mem_of_getElem? (i := 10) rfl)
theorem vr_f {big : List Cond} (ws : List Cond) (ps : List Nat) (hp : ws = ps.filterMap (fun i => big[i]?)) : ∀ w ∈ ws, w ∈ big := by
  intro w hw
  rw [hp] at hw
  obtain ⟨i, -, hi⟩ := List.mem_filterMap.mp hw
  exact List.mem_of_getElem? hi
theorem tl_Row : ∀ w ∈ u_ws R_Row T_Row 3, w ∈ lw_tbl := vr_f _ [235, 237, 239] (by decide +kernel)
theorem gd_Row : (u_ws R_Row T_Row 3).all goodWord = true := by decide +kernel
theorem tl_Meter : ∀ w ∈ u_ws R_Meter T_Meter 4, w ∈ lw_tbl := vr_f _ [253, 255, 257, 259] (by decide +kernel)
theorem gd_Meter : (u_ws R_Meter T_Meter 4).all goodWord = true := by decide +kernel
theorem tl_Terms : ∀ w ∈ u_ws R_Terms T_Terms 10, w ∈ lw_tbl := vr_f _ [281, 283, 285, 287, 289, 291, 293, 295, 297, 299] (by decide +kernel)
theorem gd_Terms : (u_ws R_Terms T_Terms 10).all goodWord = true := by decide +kernel
theorem tl_Env : ∀ w ∈ u_ws R_Env T_Env 3, w ∈ lw_tbl := vr_f _ [315, 317, 319] (by decide +kernel)
theorem gd_Env : (u_ws R_Env T_Env 3).all goodWord = true := by decide +kernel
theorem tl_Lex : ∀ w ∈ u_ws R_Lex T_Lex 7, w ∈ lw_tbl := vr_f _ [338, 340, 342, 344, 346, 348, 350] (by decide +kernel)
theorem gd_Lex : (u_ws R_Lex T_Lex 7).all goodWord = true := by decide +kernel
theorem tl_Par : ∀ w ∈ u_ws R_Par T_Par 20, w ∈ lw_tbl := vr_f _ [382, 384, 386, 388, 390, 392, 394, 396, 398, 400, 402, 404, 406, 408, 410, 412, 414, 416, 418, 420] (by decide +kernel)
theorem gd_Par : (u_ws R_Par T_Par 20).all goodWord = true := by decide +kernel
theorem tl_Fra : ∀ w ∈ u_ws R_Fra T_Fra 3, w ∈ lw_tbl := vr_f _ [435, 437, 439] (by decide +kernel)
theorem gd_Fra : (u_ws R_Fra T_Fra 3).all goodWord = true := by decide +kernel
theorem tl_Red : ∀ w ∈ u_ws R_Red T_Red 5, w ∈ lw_tbl := vr_f _ [456, 458, 460, 462, 464] (by decide +kernel)
theorem gd_Red : (u_ws R_Red T_Red 5).all goodWord = true := by decide +kernel
theorem tl_Typ : ∀ w ∈ u_ws R_Typ T_Typ 4, w ∈ lw_tbl := vr_f _ [477, 479, 481, 483] (by decide +kernel)
theorem gd_Typ : (u_ws R_Typ T_Typ 4).all goodWord = true := by decide +kernel
theorem tl_Fam : ∀ w ∈ u_ws R_Fam T_Fam 18, w ∈ lw_tbl := vr_f _ [513, 515, 517, 519, 521, 523, 525, 527, 529, 531, 533, 535, 537, 539, 541, 543, 545, 547] (by decide +kernel)
theorem gd_Fam : (u_ws R_Fam T_Fam 18).all goodWord = true := by decide +kernel
theorem tl_Pri : ∀ w ∈ u_ws R_Pri T_Pri 4, w ∈ lw_tbl := vr_f _ [563, 565, 567, 569] (by decide +kernel)
theorem gd_Pri : (u_ws R_Pri T_Pri 4).all goodWord = true := by decide +kernel
theorem tl_Ker : ∀ w ∈ u_ws R_Ker T_Ker 14, w ∈ lw_tbl := vr_f _ [586, 588, 590, 592, 594, 596, 598, 600, 602, 604, 606, 608, 610, 612] (by decide +kernel)
theorem gd_Ker : (u_ws R_Ker T_Ker 14).all goodWord = true := by decide +kernel
theorem tl_Mod : ∀ w ∈ u_ws R_Mod T_Mod 76, w ∈ lw_tbl := vr_f _ [1950, 1952, 1954, 1956, 1958, 1960, 1962, 1964, 1966, 1968, 1970, 1972, 1974, 1976, 1978, 1980, 1982, 1984, 1986, 1988, 1990, 1992, 1994, 1996, 1998, 2000, 2002, 2004, 2006, 2008, 2010, 2012, 2014, 2016, 2018, 2020, 2022, 2024, 2026, 2028, 2030, 2032, 2034, 2036, 2038, 2040, 2042, 2044, 2046, 2048, 2050, 2052, 2054, 2056, 2058, 2060, 2062, 2064, 2066, 2068, 2070, 2072, 2074, 2076, 2078, 2080, 2082, 2084, 2086, 2088, 2090, 2092, 2094, 2096, 2098, 2100] (by decide +kernel)
theorem gd_Mod : (u_ws R_Mod T_Mod 76).all goodWord = true := by decide +kernel
theorem tl_Wro : ∀ w ∈ u_ws R_Wro T_Wro 8, w ∈ lw_tbl := vr_f _ [2193, 2194, 2195, 2196, 2197, 2214, 2216, 2218] (by decide +kernel)
theorem gd_Wro : (u_ws R_Wro T_Wro 8).all goodWord = true := by decide +kernel
set_option maxRecDepth 100000 in
theorem tr_0 : ∀ w ∈ vR_0, w ∈ lw_tbl := vr_f _ [222, 223, 224, 225, 190, 226, 227, 228, 229, 230, 572, 573, 243, 191, 244, 246, 247, 574, 262, 192, 263, 264, 265, 266, 575, 303, 193, 304, 305, 306, 307, 576, 322, 194, 323, 324, 325, 326, 577, 353] rfl
theorem gdr_0 : vR_0.all goodWord = true := by decide +kernel
set_option maxRecDepth 100000 in
theorem tr_1 : ∀ w ∈ vR_1, w ∈ lw_tbl := vr_f _ [195, 354, 355, 356, 357, 578, 423, 196, 424, 425, 426, 427, 579, 442, 197, 443, 444, 445, 446, 580, 467, 198, 468, 469, 470, 471, 581, 486, 199, 487, 488, 489, 490, 582, 550, 200, 551, 552, 553, 554] rfl
theorem gdr_1 : vR_1.all goodWord = true := by decide +kernel
set_option maxRecDepth 100000 in
theorem tr_2 : ∀ w ∈ vR_2, w ∈ lw_tbl := vr_f _ [583, 221, 231, 242, 233, 232, 248, 267, 271, 268, 269, 270, 272, 273, 274, 302, 275, 276, 277, 278, 279, 308, 309, 310, 311, 312, 313, 327, 331, 328, 329, 330, 332, 358, 362, 363, 364, 365, 366, 359] rfl
theorem gdr_2 : vR_2.all goodWord = true := by decide +kernel
set_option maxRecDepth 100000 in
theorem tr_3 : ∀ w ∈ vR_3, w ∈ lw_tbl := vr_f _ [360, 361, 367, 368, 369, 370, 428, 429, 430, 431, 432, 433, 447, 451, 452, 453, 454, 448, 449, 450, 455, 472, 473, 474, 475, 476, 491, 495, 496, 497, 498, 499, 492, 493, 494, 500, 501, 502, 503, 504] rfl
theorem gdr_3 : vR_3.all goodWord = true := by decide +kernel
set_option maxRecDepth 100000 in
theorem tr_4 : ∀ w ∈ vR_4, w ∈ lw_tbl := vr_f _ [555, 559, 560, 561, 556, 557, 558, 562, 620, 621, 622, 623, 624, 625, 626, 627, 766, 767, 768, 769, 770, 771, 772, 773, 775, 776, 777, 778, 779, 780, 781, 782, 783, 784, 785, 786, 787, 788, 789, 790] rfl
theorem gdr_4 : vR_4.all goodWord = true := by decide +kernel
set_option maxRecDepth 100000 in
theorem tr_5 : ∀ w ∈ vR_5, w ∈ lw_tbl := vr_f _ [1165, 189, 1167, 55, 1168, 1169, 1170, 1171, 1172, 1566, 1567, 1568, 1569, 1632, 1634, 90, 1635, 1725, 1726, 1727, 1728, 1714, 1581, 1582, 1583, 584, 1730, 1731, 1732, 1733, 585, 1734, 629, 630, 631, 618, 250, 251, 628, 333] rfl
theorem gdr_5 : vR_5.all goodWord = true := by decide +kernel
set_option maxRecDepth 100000 in
theorem tr_6 : ∀ w ∈ vR_6, w ∈ lw_tbl := vr_f _ [335, 632, 633, 635, 0, 636, 336, 337, 739, 740, 741, 742, 743, 744, 745, 334, 762, 763, 764, 765, 234, 637, 639, 1, 640, 645, 646, 647, 648, 641, 642, 643, 644, 649, 650, 651, 652, 654, 7, 655] rfl
theorem gdr_6 : vR_6.all goodWord = true := by decide +kernel
set_option maxRecDepth 100000 in
theorem tr_7 : ∀ w ∈ vR_7, w ∈ lw_tbl := vr_f _ [659, 660, 661, 731, 733, 10, 734, 735, 737, 11, 738, 656, 657, 658, 662, 664, 8, 665, 667, 669, 9, 670, 671, 210, 672, 673, 674, 681, 682, 683, 684, 746, 206, 747, 748, 749, 756, 207, 757, 758] rfl
theorem gdr_7 : vR_7.all goodWord = true := by decide +kernel
set_option maxRecDepth 100000 in
theorem tr_8 : ∀ w ∈ vR_8, w ∈ lw_tbl := vr_f _ [759, 208, 760, 774, 280, 249, 252, 791, 372, 374, 375, 792, 376, 377, 379, 380, 793, 795, 12, 796, 371, 946, 948, 21, 949, 958, 960, 23, 961, 1051, 1053, 36, 1054, 1055, 1057, 37, 1058, 1059, 1061, 38] rfl
theorem gdr_8 : vR_8.all goodWord = true := by decide +kernel
set_option maxRecDepth 100000 in
theorem tr_9 : ∀ w ∈ vR_9, w ∈ lw_tbl := vr_f _ [1062, 1071, 1073, 41, 1074, 1079, 1081, 42, 1082, 1123, 1125, 46, 1126, 1127, 1129, 47, 1130, 1131, 1133, 48, 1134, 1135, 1137, 49, 1138, 1139, 1141, 50, 1142, 1143, 1145, 51, 1146, 1147, 1149, 52, 1150, 1151, 1153, 53] rfl
theorem gdr_9 : vR_9.all goodWord = true := by decide +kernel
set_option maxRecDepth 100000 in
theorem tr_10 : ∀ w ∈ vR_10, w ∈ lw_tbl := vr_f _ [1154, 1160, 1162, 54, 1163, 903, 904, 905, 906, 1164, 381, 797, 798, 800, 13, 801, 874, 378, 875, 877, 15, 878, 942, 944, 20, 945, 933, 935, 18, 936, 802, 803, 804, 805, 806, 807, 205, 808, 850, 851] rfl
theorem gdr_10 : vR_10.all goodWord = true := by decide +kernel
set_option maxRecDepth 100000 in
theorem tr_11 : ∀ w ∈ vR_11, w ∈ lw_tbl := vr_f _ [852, 879, 881, 16, 882, 929, 931, 17, 932, 883, 884, 885, 886, 907, 908, 909, 910, 887, 888, 889, 890, 891, 893, 894, 895, 896, 892, 897, 898, 899, 900, 901, 902, 911, 912, 913, 914, 915, 916, 917] rfl
theorem gdr_11 : vR_11.all goodWord = true := by decide +kernel
set_option maxRecDepth 100000 in
theorem tr_12 : ∀ w ∈ vR_12, w ∈ lw_tbl := vr_f _ [918, 919, 920, 921, 922, 923, 924, 925, 926, 927, 928, 937, 939, 19, 940, 941, 373, 950, 951, 952, 953, 954, 956, 22, 957, 962, 964, 24, 965, 1025, 1027, 31, 1028, 1029, 1031, 32, 1032, 973, 974, 975] rfl
theorem gdr_12 : vR_12.all goodWord = true := by decide +kernel
set_option maxRecDepth 100000 in
theorem tr_13 : ∀ w ∈ vR_13, w ∈ lw_tbl := vr_f _ [976, 1038, 1040, 33, 1041, 1043, 1045, 34, 1046, 966, 968, 25, 969, 970, 971, 972, 977, 979, 26, 980, 984, 985, 986, 987, 988, 989, 990, 991, 992, 994, 27, 995, 996, 997, 998, 999, 1001, 28, 1002, 1003] rfl
theorem gdr_13 : vR_13.all goodWord = true := by decide +kernel
set_option maxRecDepth 100000 in
theorem tr_14 : ∀ w ∈ vR_14, w ∈ lw_tbl := vr_f _ [1004, 1005, 1006, 1008, 29, 1009, 1010, 1011, 1012, 1014, 30, 1015, 981, 982, 983, 1016, 1017, 1018, 1024, 1019, 1033, 1034, 1035, 1036, 1037, 1042, 1047, 1049, 35, 1050, 1063, 1065, 39, 1066, 1067, 1069, 40, 1070, 1075, 1076] rfl
theorem gdr_14 : vR_14.all goodWord = true := by decide +kernel
set_option maxRecDepth 100000 in
theorem tr_15 : ∀ w ∈ vR_15, w ∈ lw_tbl := vr_f _ [1077, 1078, 1083, 1084, 1085, 1086, 1087, 1118, 1119, 1121, 45, 1122, 1088, 1089, 1090, 1091, 1092, 1093, 1095, 43, 1096, 1097, 1099, 44, 1100, 1105, 1106, 1107, 1108, 1109, 1110, 1111, 1101, 1102, 1103, 1104, 1112, 1113, 1114, 1115] rfl
theorem gdr_15 : vR_15.all goodWord = true := by decide +kernel
set_option maxRecDepth 100000 in
theorem tr_16 : ∀ w ∈ vR_16, w ∈ lw_tbl := vr_f _ [1116, 1117, 1155, 1156, 1157, 1158, 1159, 1173, 1174, 1175, 1176, 1177, 1178, 1179, 1180, 1181, 1182, 1183, 1184, 1191, 1192, 1193, 1194, 1195, 1197, 1198, 1199, 1200, 1202, 1203, 1204, 1205, 1266, 1267, 1268, 1269, 1274, 1275, 1276, 1277] rfl
theorem gdr_16 : vR_16.all goodWord = true := by decide +kernel
set_option maxRecDepth 100000 in
theorem tr_17 : ∀ w ∈ vR_17, w ∈ lw_tbl := vr_f _ [1279, 1280, 1281, 1282, 1283, 1284, 1285, 1286, 1299, 1300, 1301, 1302, 1303, 1304, 1305, 1306, 1312, 1313, 1314, 1315, 1316, 1317, 1318, 1319, 1320, 1321, 1322, 1323, 1328, 1329, 1330, 1331, 1332, 1333, 1334, 1335, 1336, 1337, 1338, 1339] rfl
theorem gdr_17 : vR_17.all goodWord = true := by decide +kernel
set_option maxRecDepth 100000 in
theorem tr_18 : ∀ w ∈ vR_18, w ∈ lw_tbl := vr_f _ [1340, 1341, 1342, 1343, 1344, 1345, 1346, 1347, 1387, 1388, 1389, 1390, 1397, 1398, 1399, 1400, 1403, 1404, 1405, 1406, 1407, 1408, 1409, 1410, 1411, 1412, 1413, 1414, 1419, 1420, 1421, 1422, 1423, 1424, 1425, 1426, 1431, 1432, 1433, 1434] rfl
theorem gdr_18 : vR_18.all goodWord = true := by decide +kernel
set_option maxRecDepth 100000 in
theorem tr_19 : ∀ w ∈ vR_19, w ∈ lw_tbl := vr_f _ [1440, 1441, 1442, 1443, 1444, 1445, 1446, 1447, 1448, 1449, 1450, 1451, 1452, 1453, 1454, 1455, 1456, 1457, 1458, 1459, 1460, 1461, 1462, 1463, 1465, 1466, 1467, 1468, 1469, 1470, 1471, 1472, 1473, 1474, 1475, 1476, 1499, 1500, 1501, 1502] rfl
theorem gdr_19 : vR_19.all goodWord = true := by decide +kernel
set_option maxRecDepth 100000 in
theorem tr_20 : ∀ w ∈ vR_20, w ∈ lw_tbl := vr_f _ [1519, 1520, 1521, 1522, 1550, 1551, 1552, 1553, 1560, 1561, 1562, 1563, 1564, 1263, 1264, 1265, 1565, 1185, 1186, 1187, 1188, 1189, 1190, 1196, 1201, 1206, 1207, 1208, 1209, 1210, 1211, 1212, 1213, 1214, 1215, 1216, 1217, 1218, 1219, 1220] rfl
theorem gdr_20 : vR_20.all goodWord = true := by decide +kernel
set_option maxRecDepth 100000 in
theorem tr_21 : ∀ w ∈ vR_21, w ∈ lw_tbl := vr_f _ [1221, 1222, 1224, 56, 1225, 1232, 1247, 1248, 1250, 59, 1251, 1252, 1254, 60, 1255, 1258, 1259, 1260, 1261, 1226, 1227, 1229, 57, 1230, 1233, 1235, 58, 1236, 1231, 1237, 1238, 1239, 1240, 1241, 1242, 1243, 1244, 1245, 1246, 1256] rfl
theorem gdr_21 : vR_21.all goodWord = true := by decide +kernel
set_option maxRecDepth 100000 in
theorem tr_22 : ∀ w ∈ vR_22, w ∈ lw_tbl := vr_f _ [1257, 434, 1262, 1270, 1271, 1272, 1273, 1278, 1287, 1289, 61, 1290, 1291, 1292, 1293, 1294, 1295, 1297, 62, 1298, 1307, 1308, 1309, 1310, 1311, 1324, 1326, 63, 1327, 1348, 1349, 1350, 1351, 1352, 1353, 1354, 1355, 1356, 1357, 1359] rfl
theorem gdr_22 : vR_22.all goodWord = true := by decide +kernel
set_option maxRecDepth 100000 in
theorem tr_23 : ∀ w ∈ vR_23, w ∈ lw_tbl := vr_f _ [64, 1360, 1362, 1363, 1364, 1366, 65, 1367, 1375, 1377, 66, 1378, 1379, 1381, 1382, 1383, 1385, 67, 1386, 1361, 1368, 1369, 1370, 1371, 1372, 1373, 1374, 1380, 1391, 1392, 1394, 68, 1395, 1396, 1401, 1402, 1415, 1417, 69, 1418] rfl
theorem gdr_23 : vR_23.all goodWord = true := by decide +kernel
set_option maxRecDepth 100000 in
theorem tr_24 : ∀ w ∈ vR_24, w ∈ lw_tbl := vr_f _ [1427, 1429, 70, 1430, 1435, 1437, 71, 1438, 1439, 1464, 1477, 1478, 1479, 1480, 505, 1481, 1482, 1483, 1484, 506, 1485, 508, 507, 511, 1486, 1487, 1488, 1489, 1490, 509, 1491, 1492, 1493, 1495, 72, 1496, 1497, 1498, 1503, 1504] rfl
theorem gdr_24 : vR_24.all goodWord = true := by decide +kernel
set_option maxRecDepth 100000 in
theorem tr_25 : ∀ w ∈ vR_25, w ∈ lw_tbl := vr_f _ [1505, 1506, 1507, 1508, 1509, 1510, 1511, 1512, 1513, 1514, 1515, 1517, 73, 1518, 512, 1523, 1525, 74, 1526, 1534, 1536, 75, 1537, 1538, 1539, 1541, 76, 1542, 1549, 1527, 1528, 1529, 1530, 1531, 1532, 1533, 1543, 1544, 1545, 1547] rfl
theorem gdr_25 : vR_25.all goodWord = true := by decide +kernel
set_option maxRecDepth 100000 in
theorem tr_26 : ∀ w ∈ vR_26, w ∈ lw_tbl := vr_f _ [77, 1548, 1554, 1555, 1557, 78, 1558, 1559, 1570, 1572, 79, 1573, 1576, 1577, 1578, 1579, 1580, 1584, 1586, 80, 1587, 1600, 1602, 84, 1603, 1616, 1617, 1618, 1619, 1574, 1620, 1622, 88, 1623, 1624, 1626, 89, 1627, 1628, 1629] rfl
theorem gdr_26 : vR_26.all goodWord = true := by decide +kernel
set_option maxRecDepth 100000 in
theorem tr_27 : ∀ w ∈ vR_27, w ∈ lw_tbl := vr_f _ [1630, 1631, 1575, 1588, 1590, 81, 1591, 1592, 1594, 82, 1595, 1596, 1598, 83, 1599, 510, 1604, 1606, 85, 1607, 1608, 1610, 86, 1611, 1612, 1614, 87, 1615, 314, 1636, 1637, 1638, 1639, 1640, 1715, 1716, 1718, 100, 1719, 1641] rfl
theorem gdr_27 : vR_27.all goodWord = true := by decide +kernel
set_option maxRecDepth 100000 in
theorem tr_28 : ∀ w ∈ vR_28, w ∈ lw_tbl := vr_f _ [1642, 1644, 91, 1645, 1647, 1648, 1649, 1651, 92, 1652, 1666, 1667, 1668, 1669, 1646, 1670, 1672, 94, 1673, 1654, 1656, 93, 1657, 1658, 1659, 1674, 1675, 1677, 95, 1678, 1679, 1681, 96, 1682, 1685, 1687, 97, 1688, 1700, 1701] rfl
theorem gdr_28 : vR_28.all goodWord = true := by decide +kernel
set_option maxRecDepth 100000 in
theorem tr_29 : ∀ w ∈ vR_29, w ∈ lw_tbl := vr_f _ [1703, 98, 1704, 1707, 1709, 99, 1710, 1689, 1690, 1691, 1692, 1694, 1695, 1696, 1697, 1693, 1698, 1711, 1720, 1721, 1722, 1723, 1724, 1729, 1739, 1740, 1741, 1742, 1743, 1744, 1745, 1746, 1738, 1751, 1752, 1753, 1754, 1750, 1755, 1760] rfl
theorem gdr_29 : vR_29.all goodWord = true := by decide +kernel
set_option maxRecDepth 100000 in
theorem tr_30 : ∀ w ∈ vR_30, w ∈ lw_tbl := vr_f _ [1759, 1765, 1766, 1767, 1768, 1763, 619, 1769, 1770, 1772, 2, 1773, 1774, 1779, 1780, 1781, 1782, 1777, 1783, 209, 1784, 1792, 1793, 1794, 1802, 1803, 1804, 1805, 1800, 1806, 215, 1807, 1815, 1816, 1817, 1821, 1825, 1826, 1827, 1828] rfl
theorem gdr_30 : vR_30.all goodWord = true := by decide +kernel
set_option maxRecDepth 100000 in
theorem tr_31 : ∀ w ∈ vR_31, w ∈ lw_tbl := vr_f _ [1824, 1829, 1830, 1831, 1832, 1836, 1837, 1838, 1839, 1835, 1840, 1845, 1846, 1847, 1848, 1843, 1849, 216, 1850, 1858, 1859, 1860, 1864, 1870, 1871, 873, 1874, 1875, 1876, 1877, 1878, 1879, 1880, 1881, 1882, 1883, 1884, 1885, 1872, 1886] rfl
theorem gdr_31 : vR_31.all goodWord = true := by decide +kernel
set_option maxRecDepth 100000 in
theorem tr_32 : ∀ w ∈ vR_32, w ∈ lw_tbl := vr_f _ [1887, 1888, 1889, 1890, 1891, 1892, 1893, 1894, 1895, 1896, 1897, 1898, 1899, 1900, 1901, 1902, 1903, 1904, 1905, 1906, 1907, 1908, 1909, 1910, 1911, 1912, 1913, 1914, 2103, 1915, 1916, 1917, 1918, 1919, 1920, 1921, 1922, 1923, 1924, 1925] rfl
theorem gdr_32 : vR_32.all goodWord = true := by decide +kernel
set_option maxRecDepth 100000 in
theorem tr_33 : ∀ w ∈ vR_33, w ∈ lw_tbl := vr_f _ [1926, 1927, 1928, 1929, 1873, 1930, 1931, 1932, 1933, 1934, 1935, 1936, 1937, 1938, 1939, 1940, 1941, 1942, 1943, 1944, 1945, 1946, 1947, 1948, 1949, 1869, 2107, 2112, 2113, 201, 2115, 3, 2116, 2111, 2120, 2126, 2128, 4, 2129, 2147] rfl
theorem gdr_33 : vR_33.all goodWord = true := by decide +kernel
set_option maxRecDepth 100000 in
theorem tr_34 : ∀ w ∈ vR_34, w ∈ lw_tbl := vr_f _ [2149, 102, 2150, 2211, 2213, 2124, 2130, 2132, 5, 2133, 2134, 2135, 2136, 2137, 2138, 2139, 2140, 2142, 101, 2143, 2144, 2145, 2146, 2152, 2154, 103, 2155, 2158, 2160, 104, 2161, 2431, 2433, 160, 2434, 2492, 2494, 175, 2495, 2496] rfl
theorem gdr_34 : vR_34.all goodWord = true := by decide +kernel
set_option maxRecDepth 100000 in
theorem tr_35 : ∀ w ∈ vR_35, w ∈ lw_tbl := vr_f _ [2498, 176, 2499, 2186, 2188, 108, 2189, 2156, 2157, 2162, 2164, 105, 2165, 2166, 2168, 106, 2169, 2231, 2233, 111, 2234, 2235, 2237, 112, 2238, 2302, 2304, 128, 2305, 2306, 2308, 129, 2309, 2330, 2332, 135, 2333, 2375, 2377, 146] rfl
theorem gdr_35 : vR_35.all goodWord = true := by decide +kernel
set_option maxRecDepth 100000 in
theorem tr_36 : ∀ w ∈ vR_36, w ∈ lw_tbl := vr_f _ [2378, 2423, 2425, 158, 2426, 2427, 2429, 159, 2430, 2170, 2172, 107, 2173, 2220, 2222, 109, 2223, 2125, 214, 2190, 2198, 2199, 2200, 2228, 2229, 2230, 2201, 204, 2202, 2203, 2210, 2212, 2224, 2226, 110, 2227, 2239, 2241, 113, 2242] rfl
theorem gdr_36 : vR_36.all goodWord = true := by decide +kernel
set_option maxRecDepth 100000 in
theorem tr_37 : ∀ w ∈ vR_37, w ∈ lw_tbl := vr_f _ [2266, 2268, 119, 2269, 2274, 2276, 121, 2277, 2251, 2253, 116, 2254, 2247, 2249, 115, 2250, 2255, 2257, 117, 2258, 2262, 2264, 118, 2265, 2243, 2245, 114, 2246, 2259, 2260, 2261, 2270, 2272, 120, 2273, 2278, 2280, 122, 2281, 2294] rfl
theorem gdr_37 : vR_37.all goodWord = true := by decide +kernel
set_option maxRecDepth 100000 in
theorem tr_38 : ∀ w ∈ vR_38, w ∈ lw_tbl := vr_f _ [2296, 126, 2297, 2298, 2300, 127, 2301, 2282, 2284, 123, 2285, 2286, 2288, 124, 2289, 2290, 2292, 125, 2293, 2310, 2312, 130, 2313, 2314, 2316, 131, 2317, 2318, 2320, 132, 2321, 2322, 2324, 133, 2325, 2326, 2328, 134, 2329, 2334] rfl
theorem gdr_38 : vR_38.all goodWord = true := by decide +kernel
set_option maxRecDepth 100000 in
theorem tr_39 : ∀ w ∈ vR_39, w ∈ lw_tbl := vr_f _ [2336, 136, 2337, 2387, 2389, 149, 2390, 2338, 2340, 137, 2341, 2342, 2344, 138, 2345, 2347, 2349, 139, 2350, 2351, 2353, 140, 2354, 2367, 2369, 144, 2370, 2419, 2421, 157, 2422, 2346, 2355, 2357, 141, 2358, 2359, 2361, 142, 2362] rfl
theorem gdr_39 : vR_39.all goodWord = true := by decide +kernel
set_option maxRecDepth 100000 in
theorem tr_40 : ∀ w ∈ vR_40, w ∈ lw_tbl := vr_f _ [2363, 2365, 143, 2366, 2371, 2373, 145, 2374, 2379, 2381, 147, 2382, 2383, 2385, 148, 2386, 2415, 2417, 156, 2418, 2391, 2393, 150, 2394, 2395, 2397, 151, 2398, 2399, 2401, 152, 2402, 2403, 2405, 153, 2406, 2407, 2409, 154, 2410] rfl
theorem gdr_40 : vR_40.all goodWord = true := by decide +kernel
set_option maxRecDepth 100000 in
theorem tr_41 : ∀ w ∈ vR_41, w ∈ lw_tbl := vr_f _ [2411, 2413, 155, 2414, 2435, 2437, 161, 2438, 2439, 2441, 162, 2442, 2451, 2453, 165, 2454, 2455, 2457, 166, 2458, 2443, 2445, 163, 2446, 2447, 2449, 164, 2450, 2459, 2461, 167, 2462, 2463, 2465, 168, 2466, 2472, 2474, 170, 2475] rfl
theorem gdr_41 : vR_41.all goodWord = true := by decide +kernel
set_option maxRecDepth 100000 in
theorem tr_42 : ∀ w ∈ vR_42, w ∈ lw_tbl := vr_f _ [2484, 2486, 173, 2487, 2488, 2490, 174, 2491, 2467, 2469, 169, 2470, 2471, 2476, 2478, 171, 2479, 2480, 2482, 172, 2483, 2500, 2502, 177, 2503, 2504, 2506, 178, 2507, 2508, 2510, 179, 2511, 2525, 2527, 183, 2528, 2512, 2514, 180] rfl
theorem gdr_42 : vR_42.all goodWord = true := by decide +kernel
set_option maxRecDepth 100000 in
theorem tr_43 : ∀ w ∈ vR_43, w ∈ lw_tbl := vr_f _ [2515, 2516, 2518, 181, 2519, 2521, 2523, 182, 2524, 2530, 2532, 184, 2533, 2534, 2536, 185, 2537, 2538, 2540, 186, 2541, 2543, 2545, 187, 2546, 2558, 2562, 2567, 2569, 6, 2570, 2566, 2574, 2578, 2582, 2586, 761, 188, 202, 203] rfl
theorem gdr_43 : vR_43.all goodWord = true := by decide +kernel
set_option maxRecDepth 100000 in
theorem tr_44 : ∀ w ∈ vR_44, w ∈ lw_tbl := vr_f _ [211, 212, 213, 217, 218, 219, 220, 615, 616, 617, 675, 676, 677, 678, 679, 685, 686, 687, 688, 689, 690, 691, 692, 693, 694, 695, 697, 698, 699, 700, 701, 702, 703, 704, 705, 706, 707, 708, 709, 710] rfl
theorem gdr_44 : vR_44.all goodWord = true := by decide +kernel
set_option maxRecDepth 100000 in
theorem tr_45 : ∀ w ∈ vR_45, w ∈ lw_tbl := vr_f _ [711, 712, 713, 715, 717, 751, 752, 753, 755, 816, 817, 828, 830, 831, 832, 833, 835, 837, 838, 840, 841, 842, 843, 845, 847, 848, 849, 853, 854, 855, 856, 857, 858, 859, 861, 862, 863, 864, 1021, 1023] rfl
theorem gdr_45 : vR_45.all goodWord = true := by decide +kernel
set_option maxRecDepth 100000 in
theorem tr_46 : ∀ w ∈ vR_46, w ∈ lw_tbl := vr_f _ [1735, 1736, 1737, 1747, 1748, 1749, 1756, 1757, 1758, 1761, 1762, 1764, 1775, 1776, 1778, 1786, 1795, 1798, 1799, 1801, 1809, 1818, 1822, 1823, 1833, 1834, 1841, 1842, 1844, 1852, 1861, 1865, 1866, 1867, 1868, 2104, 2105, 2106, 2108, 2109] rfl
theorem gdr_46 : vR_46.all goodWord = true := by decide +kernel
set_option maxRecDepth 100000 in
theorem tr_47 : ∀ w ∈ vR_47, w ∈ lw_tbl := vr_f _ [2110, 2117, 2118, 2119, 2121, 2122, 2123, 2192, 2204, 2205, 2206, 2207, 2208, 2209, 2555, 2556, 2557, 2559, 2560, 2561, 2563, 2564, 2565, 2571, 2572, 2573, 2575, 2576, 2577, 2579, 2580, 2581, 2583, 2584, 2585, 2588, 2589, 818, 819, 820] rfl
theorem gdr_47 : vR_47.all goodWord = true := by decide +kernel
set_option maxRecDepth 100000 in
theorem tr_48 : ∀ w ∈ vR_48, w ∈ lw_tbl := vr_f _ [821, 822, 823, 824, 825, 826, 827, 829, 839, 844, 865, 866, 867, 868, 869, 870, 871, 872, 1787, 1788, 1789, 1790, 1791, 1796, 1797, 1810, 1811, 1812, 1813, 1814, 1819, 1820, 1853, 1854, 1855, 1856, 1857, 1862, 1863, 2193] rfl
theorem gdr_48 : vR_48.all goodWord = true := by decide +kernel
set_option maxRecDepth 100000 in
theorem tr_49 : ∀ w ∈ vR_49, w ∈ lw_tbl := vr_f _ [2194, 2195, 2196, 2197, 2214, 2215, 2216, 2217, 2218, 2219, 2587] rfl
theorem gdr_49 : vR_49.all goodWord = true := by decide +kernel
theorem vT_in : ∀ w ∈ vT, w ∈ lw_tbl := (fun w h => (List.mem_append.mp h).elim (tl_Row w) ((fun w h => (List.mem_append.mp h).elim (tl_Meter w) ((fun w h => (List.mem_append.mp h).elim (tl_Terms w) ((fun w h => (List.mem_append.mp h).elim (tl_Env w) ((fun w h => (List.mem_append.mp h).elim (tl_Lex w) ((fun w h => (List.mem_append.mp h).elim (tl_Par w) ((fun w h => (List.mem_append.mp h).elim (tl_Fra w) ((fun w h => (List.mem_append.mp h).elim (tl_Red w) ((fun w h => (List.mem_append.mp h).elim (tl_Typ w) ((fun w h => (List.mem_append.mp h).elim (tl_Fam w) ((fun w h => (List.mem_append.mp h).elim (tl_Pri w) ((fun w h => (List.mem_append.mp h).elim (tl_Ker w) ((fun w h => (List.mem_append.mp h).elim (tl_Mod w) ((fun w h => (List.mem_append.mp h).elim (tl_Wro w) ((fun w h => (List.mem_append.mp h).elim (tr_0 w) ((fun w h => (List.mem_append.mp h).elim (tr_1 w) ((fun w h => (List.mem_append.mp h).elim (tr_2 w) ((fun w h => (List.mem_append.mp h).elim (tr_3 w) ((fun w h => (List.mem_append.mp h).elim (tr_4 w) ((fun w h => (List.mem_append.mp h).elim (tr_5 w) ((fun w h => (List.mem_append.mp h).elim (tr_6 w) ((fun w h => (List.mem_append.mp h).elim (tr_7 w) ((fun w h => (List.mem_append.mp h).elim (tr_8 w) ((fun w h => (List.mem_append.mp h).elim (tr_9 w) ((fun w h => (List.mem_append.mp h).elim (tr_10 w) ((fun w h => (List.mem_append.mp h).elim (tr_11 w) ((fun w h => (List.mem_append.mp h).elim (tr_12 w) ((fun w h => (List.mem_append.mp h).elim (tr_13 w) ((fun w h => (List.mem_append.mp h).elim (tr_14 w) ((fun w h => (List.mem_append.mp h).elim (tr_15 w) ((fun w h => (List.mem_append.mp h).elim (tr_16 w) ((fun w h => (List.mem_append.mp h).elim (tr_17 w) ((fun w h => (List.mem_append.mp h).elim (tr_18 w) ((fun w h => (List.mem_append.mp h).elim (tr_19 w) ((fun w h => (List.mem_append.mp h).elim (tr_20 w) ((fun w h => (List.mem_append.mp h).elim (tr_21 w) ((fun w h => (List.mem_append.mp h).elim (tr_22 w) ((fun w h => (List.mem_append.mp h).elim (tr_23 w) ((fun w h => (List.mem_append.mp h).elim (tr_24 w) ((fun w h => (List.mem_append.mp h).elim (tr_25 w) ((fun w h => (List.mem_append.mp h).elim (tr_26 w) ((fun w h => (List.mem_append.mp h).elim (tr_27 w) ((fun w h => (List.mem_append.mp h).elim (tr_28 w) ((fun w h => (List.mem_append.mp h).elim (tr_29 w) ((fun w h => (List.mem_append.mp h).elim (tr_30 w) ((fun w h => (List.mem_append.mp h).elim (tr_31 w) ((fun w h => (List.mem_append.mp h).elim (tr_32 w) ((fun w h => (List.mem_append.mp h).elim (tr_33 w) ((fun w h => (List.mem_append.mp h).elim (tr_34 w) ((fun w h => (List.mem_append.mp h).elim (tr_35 w) ((fun w h => (List.mem_append.mp h).elim (tr_36 w) ((fun w h => (List.mem_append.mp h).elim (tr_37 w) ((fun w h => (List.mem_append.mp h).elim (tr_38 w) ((fun w h => (List.mem_append.mp h).elim (tr_39 w) ((fun w h => (List.mem_append.mp h).elim (tr_40 w) ((fun w h => (List.mem_append.mp h).elim (tr_41 w) ((fun w h => (List.mem_append.mp h).elim (tr_42 w) ((fun w h => (List.mem_append.mp h).elim (tr_43 w) ((fun w h => (List.mem_append.mp h).elim (tr_44 w) ((fun w h => (List.mem_append.mp h).elim (tr_45 w) ((fun w h => (List.mem_append.mp h).elim (tr_46 w) ((fun w h => (List.mem_append.mp h).elim (tr_47 w) ((fun w h => (List.mem_append.mp h).elim (tr_48 w) (tr_49 w)) w)) w)) w)) w)) w)) w)) w)) w)) w)) w)) w)) w)) w)) w)) w)) w)) w)) w)) w)) w)) w)) w)) w)) w)) w)) w)) w)) w)) w)) w)) w)) w)) w)) w)) w)) w)) w)) w)) w)) w)) w)) w)) w)) w)) w)) w)) w)) w)) w)) w)) w)) w)) w)) w)) w)) w)) w)) w)) w)) w)) w)) w))
theorem ga {l : List Cond} (h : l.all goodWord = true) : ∀ w ∈ l, goodWord w = true := List.all_eq_true.mp h
theorem vT_good : ∀ w ∈ vT, goodWord w = true := (fun w h => (List.mem_append.mp h).elim ((ga gd_Row) w) ((fun w h => (List.mem_append.mp h).elim ((ga gd_Meter) w) ((fun w h => (List.mem_append.mp h).elim ((ga gd_Terms) w) ((fun w h => (List.mem_append.mp h).elim ((ga gd_Env) w) ((fun w h => (List.mem_append.mp h).elim ((ga gd_Lex) w) ((fun w h => (List.mem_append.mp h).elim ((ga gd_Par) w) ((fun w h => (List.mem_append.mp h).elim ((ga gd_Fra) w) ((fun w h => (List.mem_append.mp h).elim ((ga gd_Red) w) ((fun w h => (List.mem_append.mp h).elim ((ga gd_Typ) w) ((fun w h => (List.mem_append.mp h).elim ((ga gd_Fam) w) ((fun w h => (List.mem_append.mp h).elim ((ga gd_Pri) w) ((fun w h => (List.mem_append.mp h).elim ((ga gd_Ker) w) ((fun w h => (List.mem_append.mp h).elim ((ga gd_Mod) w) ((fun w h => (List.mem_append.mp h).elim ((ga gd_Wro) w) ((fun w h => (List.mem_append.mp h).elim ((ga gdr_0) w) ((fun w h => (List.mem_append.mp h).elim ((ga gdr_1) w) ((fun w h => (List.mem_append.mp h).elim ((ga gdr_2) w) ((fun w h => (List.mem_append.mp h).elim ((ga gdr_3) w) ((fun w h => (List.mem_append.mp h).elim ((ga gdr_4) w) ((fun w h => (List.mem_append.mp h).elim ((ga gdr_5) w) ((fun w h => (List.mem_append.mp h).elim ((ga gdr_6) w) ((fun w h => (List.mem_append.mp h).elim ((ga gdr_7) w) ((fun w h => (List.mem_append.mp h).elim ((ga gdr_8) w) ((fun w h => (List.mem_append.mp h).elim ((ga gdr_9) w) ((fun w h => (List.mem_append.mp h).elim ((ga gdr_10) w) ((fun w h => (List.mem_append.mp h).elim ((ga gdr_11) w) ((fun w h => (List.mem_append.mp h).elim ((ga gdr_12) w) ((fun w h => (List.mem_append.mp h).elim ((ga gdr_13) w) ((fun w h => (List.mem_append.mp h).elim ((ga gdr_14) w) ((fun w h => (List.mem_append.mp h).elim ((ga gdr_15) w) ((fun w h => (List.mem_append.mp h).elim ((ga gdr_16) w) ((fun w h => (List.mem_append.mp h).elim ((ga gdr_17) w) ((fun w h => (List.mem_append.mp h).elim ((ga gdr_18) w) ((fun w h => (List.mem_append.mp h).elim ((ga gdr_19) w) ((fun w h => (List.mem_append.mp h).elim ((ga gdr_20) w) ((fun w h => (List.mem_append.mp h).elim ((ga gdr_21) w) ((fun w h => (List.mem_append.mp h).elim ((ga gdr_22) w) ((fun w h => (List.mem_append.mp h).elim ((ga gdr_23) w) ((fun w h => (List.mem_append.mp h).elim ((ga gdr_24) w) ((fun w h => (List.mem_append.mp h).elim ((ga gdr_25) w) ((fun w h => (List.mem_append.mp h).elim ((ga gdr_26) w) ((fun w h => (List.mem_append.mp h).elim ((ga gdr_27) w) ((fun w h => (List.mem_append.mp h).elim ((ga gdr_28) w) ((fun w h => (List.mem_append.mp h).elim ((ga gdr_29) w) ((fun w h => (List.mem_append.mp h).elim ((ga gdr_30) w) ((fun w h => (List.mem_append.mp h).elim ((ga gdr_31) w) ((fun w h => (List.mem_append.mp h).elim ((ga gdr_32) w) ((fun w h => (List.mem_append.mp h).elim ((ga gdr_33) w) ((fun w h => (List.mem_append.mp h).elim ((ga gdr_34) w) ((fun w h => (List.mem_append.mp h).elim ((ga gdr_35) w) ((fun w h => (List.mem_append.mp h).elim ((ga gdr_36) w) ((fun w h => (List.mem_append.mp h).elim ((ga gdr_37) w) ((fun w h => (List.mem_append.mp h).elim ((ga gdr_38) w) ((fun w h => (List.mem_append.mp h).elim ((ga gdr_39) w) ((fun w h => (List.mem_append.mp h).elim ((ga gdr_40) w) ((fun w h => (List.mem_append.mp h).elim ((ga gdr_41) w) ((fun w h => (List.mem_append.mp h).elim ((ga gdr_42) w) ((fun w h => (List.mem_append.mp h).elim ((ga gdr_43) w) ((fun w h => (List.mem_append.mp h).elim ((ga gdr_44) w) ((fun w h => (List.mem_append.mp h).elim ((ga gdr_45) w) ((fun w h => (List.mem_append.mp h).elim ((ga gdr_46) w) ((fun w h => (List.mem_append.mp h).elim ((ga gdr_47) w) ((fun w h => (List.mem_append.mp h).elim ((ga gdr_48) w) ((ga gdr_49) w)) w)) w)) w)) w)) w)) w)) w)) w)) w)) w)) w)) w)) w)) w)) w)) w)) w)) w)) w)) w)) w)) w)) w)) w)) w)) w)) w)) w)) w)) w)) w)) w)) w)) w)) w)) w)) w)) w)) w)) w)) w)) w)) w)) w)) w)) w)) w)) w)) w)) w)) w)) w)) w)) w)) w)) w)) w)) w)) w)) w)) w)) w))
abbrev b_Ker_init : ByteArray := prog_1_method_1_code
abbrev y_Ker_init : MethodName := ⟨"FamilyKernel", "<init>", "()V"⟩
abbrev w_Ker_init : List Cond := .code y_Ker_init b_Ker_init 1 none :: vT
abbrev b_Row_init : ByteArray := prog_10_method_1_code
abbrev y_Row_init : MethodName := ⟨"FamilyKernel$Row", "<init>", "(II)V"⟩
abbrev w_Row_init : List Cond := .code y_Row_init b_Row_init 3 none :: vT
abbrev b_Meter_init : ByteArray := prog_6_method_1_code
abbrev y_Meter_init : MethodName := ⟨"FamilyKernel$Meter", "<init>", "()V"⟩
abbrev w_Meter_init : List Cond := .code y_Meter_init b_Meter_init 1 none :: vT
abbrev b_Terms_init : ByteArray := prog_11_method_1_code
abbrev y_Terms_init : MethodName := ⟨"FamilyKernel$Terms", "<init>", "(LFamilyKernel$Meter;)V"⟩
abbrev w_Terms_init : List Cond := .code y_Terms_init b_Terms_init 2 none :: vT
abbrev b_Env_init : ByteArray := prog_2_method_1_code
abbrev y_Env_init : MethodName := ⟨"FamilyKernel$Environment", "<init>", "()V"⟩
abbrev w_Env_init : List Cond := .code y_Env_init b_Env_init 1 none :: vT
abbrev b_Lex_init : ByteArray := prog_5_method_1_code
abbrev y_Lex_init : MethodName := ⟨"FamilyKernel$Lexer", "<init>", "(LFamilyKernel$Row;)V"⟩
abbrev w_Lex_init : List Cond := .code y_Lex_init b_Lex_init 2 none :: vT
abbrev b_Par_init : ByteArray := prog_7_method_1_code
abbrev y_Par_init : MethodName := ⟨"FamilyKernel$Parser", "<init>", "(LFamilyKernel$Row;LFamilyKernel$Lexer;LFamilyKernel$Meter;LFamilyKernel$Terms;LFamilyKernel$Environment;)V"⟩
abbrev w_Par_init : List Cond := .code y_Par_init b_Par_init 6 none :: vT
abbrev b_Fra_init : ByteArray := prog_4_method_1_code
abbrev y_Fra_init : MethodName := ⟨"FamilyKernel$Frames", "<init>", "()V"⟩
abbrev w_Fra_init : List Cond := .code y_Fra_init b_Fra_init 1 none :: vT
abbrev b_Red_init : ByteArray := prog_9_method_1_code
abbrev y_Red_init : MethodName := ⟨"FamilyKernel$Reducer", "<init>", "(LFamilyKernel$Frames;LFamilyKernel$Meter;LFamilyKernel$Terms;LFamilyKernel$Environment;)V"⟩
abbrev w_Red_init : List Cond := .code y_Red_init b_Red_init 5 none :: vT
abbrev b_Typ_init : ByteArray := prog_12_method_1_code
abbrev y_Typ_init : MethodName := ⟨"FamilyKernel$Typer", "<init>", "(LFamilyKernel$Frames;LFamilyKernel$Meter;LFamilyKernel$Terms;LFamilyKernel$Environment;)V"⟩
abbrev w_Typ_init : List Cond := .code y_Typ_init b_Typ_init 5 none :: vT
abbrev b_Fam_init : ByteArray := prog_3_method_1_code
abbrev y_Fam_init : MethodName := ⟨"FamilyKernel$Families", "<init>", "(LFamilyKernel$Frames;LFamilyKernel$Meter;LFamilyKernel$Terms;LFamilyKernel$Environment;LFamilyKernel$Parser;)V"⟩
abbrev w_Fam_init : List Cond := .code y_Fam_init b_Fam_init 6 none :: vT
abbrev b_Pri_init : ByteArray := prog_8_method_1_code
abbrev y_Pri_init : MethodName := ⟨"FamilyKernel$Printer", "<init>", "(LFamilyKernel$Row;LFamilyKernel$Terms;LFamilyKernel$Environment;)V"⟩
abbrev w_Pri_init : List Cond := .code y_Pri_init b_Pri_init 4 none :: vT
abbrev b_Ker_read : ByteArray := prog_1_method_5_code
abbrev y_Ker_read : MethodName := ⟨"FamilyKernel", "read", "()I"⟩
abbrev w_Ker_read : List Cond := .codeWith y_Ker_read b_Ker_read 6 (some .int) [(65, 104, 107, 108)] :: vT
abbrev b_Meter_forget : ByteArray := prog_6_method_2_code
abbrev y_Meter_forget : MethodName := ⟨"FamilyKernel$Meter", "forget", "()V"⟩
abbrev w_Meter_forget : List Cond := .code y_Meter_forget b_Meter_forget 1 none :: vT
abbrev b_Lex_begin : ByteArray := prog_5_method_2_code
abbrev y_Lex_begin : MethodName := ⟨"FamilyKernel$Lexer", "begin", "()V"⟩
abbrev w_Lex_begin : List Cond := .code y_Lex_begin b_Lex_begin 2 none :: vT
abbrev b_Row_cut : ByteArray := prog_10_method_7_code
abbrev y_Row_cut : MethodName := ⟨"FamilyKernel$Row", "cut", "(I)V"⟩
abbrev w_Row_cut : List Cond := .code y_Row_cut b_Row_cut 2 none :: vT
abbrev b_Lex_scan : ByteArray := prog_5_method_14_code
abbrev y_Lex_scan : MethodName := ⟨"FamilyKernel$Lexer", "scan", "()V"⟩
abbrev w_Lex_scan : List Cond := .code y_Lex_scan b_Lex_scan 2 none :: vT
abbrev b_Lex_skip : ByteArray := prog_5_method_15_code
abbrev y_Lex_skip : MethodName := ⟨"FamilyKernel$Lexer", "skip", "()V"⟩
abbrev w_Lex_skip : List Cond := .code y_Lex_skip b_Lex_skip 3 none :: vT
abbrev b_Row_size : ByteArray := prog_10_method_2_code
abbrev y_Row_size : MethodName := ⟨"FamilyKernel$Row", "size", "()I"⟩
abbrev w_Row_size : List Cond := .code y_Row_size b_Row_size 1 (some .int) :: vT
abbrev b_Row_at : ByteArray := prog_10_method_3_code
abbrev y_Row_at : MethodName := ⟨"FamilyKernel$Row", "at", "(I)I"⟩
abbrev w_Row_at : List Cond := .code y_Row_at b_Row_at 2 (some .int) :: vT
abbrev b_Lex_isLetter : ByteArray := prog_5_method_16_code
abbrev y_Lex_isLetter : MethodName := ⟨"FamilyKernel$Lexer", "isLetter", "(I)Z"⟩
abbrev w_Lex_isLetter : List Cond := .code y_Lex_isLetter b_Lex_isLetter 1 (some .boolean) :: vT
abbrev b_Lex_scanWord : ByteArray := prog_5_method_19_code
abbrev y_Lex_scanWord : MethodName := ⟨"FamilyKernel$Lexer", "scanWord", "()V"⟩
abbrev w_Lex_scanWord : List Cond := .code y_Lex_scanWord b_Lex_scanWord 2 none :: vT
abbrev b_Lex_isInWord : ByteArray := prog_5_method_18_code
abbrev y_Lex_isInWord : MethodName := ⟨"FamilyKernel$Lexer", "isInWord", "(I)Z"⟩
abbrev w_Lex_isInWord : List Cond := .code y_Lex_isInWord b_Lex_isInWord 1 (some .boolean) :: vT
abbrev b_Lex_isDigit : ByteArray := prog_5_method_17_code
abbrev y_Lex_isDigit : MethodName := ⟨"FamilyKernel$Lexer", "isDigit", "(I)Z"⟩
abbrev w_Lex_isDigit : List Cond := .code y_Lex_isDigit b_Lex_isDigit 1 (some .boolean) :: vT
abbrev b_Lex_wordKind : ByteArray := prog_5_method_22_code
abbrev y_Lex_wordKind : MethodName := ⟨"FamilyKernel$Lexer", "wordKind", "()I"⟩
abbrev w_Lex_wordKind : List Cond := .code y_Lex_wordKind b_Lex_wordKind 1 (some .int) :: vT
abbrev b_Lex_reads : ByteArray := prog_5_method_23_code
abbrev y_Lex_reads : MethodName := ⟨"FamilyKernel$Lexer", "reads", "(Ljava/lang/String;)Z"⟩
abbrev w_Lex_reads : List Cond := .code y_Lex_reads b_Lex_reads 4 (some .boolean) :: vT
abbrev b_Str_length : ByteArray := prog_23_method_54_code
abbrev y_Str_length : MethodName := ⟨"java/lang/String", "length", "()I"⟩
abbrev w_Str_length : List Cond := .code y_Str_length b_Str_length 1 (some .int) :: vT
abbrev b_Str_coder : ByteArray := prog_23_method_152_code
abbrev y_Str_coder : MethodName := ⟨"java/lang/String", "coder", "()B"⟩
abbrev w_Str_coder : List Cond := .code y_Str_coder b_Str_coder 1 (some .byte) :: vT
abbrev b_Str_charAt : ByteArray := prog_23_method_56_code
abbrev y_Str_charAt : MethodName := ⟨"java/lang/String", "charAt", "(I)C"⟩
abbrev w_Str_charAt : List Cond := .code y_Str_charAt b_Str_charAt 2 (some .char) :: vT
abbrev b_Str_isLatin1 : ByteArray := prog_23_method_154_code
abbrev y_Str_isLatin1 : MethodName := ⟨"java/lang/String", "isLatin1", "()Z"⟩
abbrev w_Str_isLatin1 : List Cond := .code y_Str_isLatin1 b_Str_isLatin1 1 (some .boolean) :: vT
abbrev b_Lat_charAt : ByteArray := prog_24_method_2_code
abbrev y_Lat_charAt : MethodName := ⟨"java/lang/StringLatin1", "charAt", "([BI)C"⟩
abbrev w_Lat_charAt : List Cond := .code y_Lat_charAt b_Lat_charAt 2 (some .char) :: vT
abbrev b_Str_checkIndex : ByteArray := prog_23_method_155_code
abbrev y_Str_checkIndex : MethodName := ⟨"java/lang/String", "checkIndex", "(II)V"⟩
abbrev w_Str_checkIndex : List Cond := .code y_Str_checkIndex b_Str_checkIndex 2 none :: vT
abbrev b_Prc_checkIndex : ByteArray := prog_30_method_11_code
abbrev y_Prc_checkIndex : MethodName := ⟨"jdk/internal/util/Preconditions", "checkIndex", "(IILjava/util/function/BiFunction;)I"⟩
abbrev w_Prc_checkIndex : List Cond := .code y_Prc_checkIndex b_Prc_checkIndex 3 (some .int) :: vT
abbrev b_Lex_scanNumber : ByteArray := prog_5_method_20_code
abbrev y_Lex_scanNumber : MethodName := ⟨"FamilyKernel$Lexer", "scanNumber", "()V"⟩
abbrev w_Lex_scanNumber : List Cond := .code y_Lex_scanNumber b_Lex_scanNumber 2 none :: vT
abbrev b_Lex_scanSign : ByteArray := prog_5_method_21_code
abbrev y_Lex_scanSign : MethodName := ⟨"FamilyKernel$Lexer", "scanSign", "(II)V"⟩
abbrev w_Lex_scanSign : List Cond := .code y_Lex_scanSign b_Lex_scanSign 4 none :: vT
abbrev b_Lex_named : ByteArray := prog_5_method_7_code
abbrev y_Lex_named : MethodName := ⟨"FamilyKernel$Lexer", "named", "(II)I"⟩
abbrev w_Lex_named : List Cond := .code y_Lex_named b_Lex_named 2 (some .int) :: vT
abbrev b_Row_push : ByteArray := prog_10_method_5_code
abbrev y_Row_push : MethodName := ⟨"FamilyKernel$Row", "push", "(I)V"⟩
abbrev w_Row_push : List Cond := .code y_Row_push b_Row_push 2 none :: vT
abbrev b_Arr_copyOf_0 : ByteArray := prog_28_method_123_code
abbrev y_Arr_copyOf_0 : MethodName := ⟨"java/util/Arrays", "copyOf", "([II)[I"⟩
abbrev w_Arr_copyOf_0 : List Cond := .code y_Arr_copyOf_0 b_Arr_copyOf_0 3 (some (.array .int)) :: vT
abbrev b_Mth_min : ByteArray := prog_21_method_69_code
abbrev y_Mth_min : MethodName := ⟨"java/lang/Math", "min", "(II)I"⟩
abbrev w_Mth_min : List Cond := .code y_Mth_min b_Mth_min 2 (some .int) :: vT
abbrev b_Lex_advance : ByteArray := prog_5_method_3_code
abbrev y_Lex_advance : MethodName := ⟨"FamilyKernel$Lexer", "advance", "()V"⟩
abbrev w_Lex_advance : List Cond := .code y_Lex_advance b_Lex_advance 2 none :: vT
abbrev b_Lex_kind : ByteArray := prog_5_method_4_code
abbrev y_Lex_kind : MethodName := ⟨"FamilyKernel$Lexer", "kind", "()I"⟩
abbrev w_Lex_kind : List Cond := .code y_Lex_kind b_Lex_kind 1 (some .int) :: vT
abbrev b_Env_length : ByteArray := prog_2_method_2_code
abbrev y_Env_length : MethodName := ⟨"FamilyKernel$Environment", "length", "()I"⟩
abbrev w_Env_length : List Cond := .code y_Env_length b_Env_length 1 (some .int) :: vT
abbrev b_Terms_length : ByteArray := prog_11_method_2_code
abbrev y_Terms_length : MethodName := ⟨"FamilyKernel$Terms", "length", "()I"⟩
abbrev w_Terms_length : List Cond := .code y_Terms_length b_Terms_length 1 (some .int) :: vT
abbrev b_Lex_start : ByteArray := prog_5_method_5_code
abbrev y_Lex_start : MethodName := ⟨"FamilyKernel$Lexer", "start", "()I"⟩
abbrev w_Lex_start : List Cond := .code y_Lex_start b_Lex_start 1 (some .int) :: vT
abbrev b_Meter_begin : ByteArray := prog_6_method_3_code
abbrev y_Meter_begin : MethodName := ⟨"FamilyKernel$Meter", "begin", "(I)V"⟩
abbrev w_Meter_begin : List Cond := .code y_Meter_begin b_Meter_begin 2 none :: vT
abbrev b_Par_declaration : ByteArray := prog_7_method_10_code
abbrev y_Par_declaration : MethodName := ⟨"FamilyKernel$Parser", "declaration", "()V"⟩
abbrev w_Par_declaration : List Cond := .code y_Par_declaration b_Par_declaration 2 none :: vT
abbrev b_Par_begin : ByteArray := prog_7_method_11_code
abbrev y_Par_begin : MethodName := ⟨"FamilyKernel$Parser", "begin", "()V"⟩
abbrev w_Par_begin : List Cond := .code y_Par_begin b_Par_begin 2 none :: vT
abbrev b_Par_refuse : ByteArray := prog_7_method_14_code
abbrev y_Par_refuse : MethodName := ⟨"FamilyKernel$Parser", "refuse", "()V"⟩
abbrev w_Par_refuse : List Cond := .code y_Par_refuse b_Par_refuse 1 none :: vT
abbrev b_Meter_failAt : ByteArray := prog_6_method_9_code
abbrev y_Meter_failAt : MethodName := ⟨"FamilyKernel$Meter", "failAt", "(II)V"⟩
abbrev w_Meter_failAt : List Cond := .code y_Meter_failAt b_Meter_failAt 3 none :: vT
abbrev b_Par_beginConstant : ByteArray := prog_7_method_12_code
abbrev y_Par_beginConstant : MethodName := ⟨"FamilyKernel$Parser", "beginConstant", "(I)V"⟩
abbrev w_Par_beginConstant : List Cond := .code y_Par_beginConstant b_Par_beginConstant 2 none :: vT
abbrev b_Par_takeNewName : ByteArray := prog_7_method_16_code
abbrev y_Par_takeNewName : MethodName := ⟨"FamilyKernel$Parser", "takeNewName", "(I)I"⟩
abbrev w_Par_takeNewName : List Cond := .code y_Par_takeNewName b_Par_takeNewName 3 (some .int) :: vT
abbrev b_Env_find : ByteArray := prog_2_method_10_code
abbrev y_Env_find : MethodName := ⟨"FamilyKernel$Environment", "find", "(LFamilyKernel$Lexer;I)I"⟩
abbrev w_Env_find : List Cond := .code y_Env_find b_Env_find 4 (some .int) :: vT
abbrev b_Env_fact : ByteArray := prog_2_method_6_code
abbrev y_Env_fact : MethodName := ⟨"FamilyKernel$Environment", "fact", "(II)I"⟩
abbrev w_Env_fact : List Cond := .code y_Env_fact b_Env_fact 3 (some .int) :: vT
abbrev b_Lex_standsAt : ByteArray := prog_5_method_13_code
abbrev y_Lex_standsAt : MethodName := ⟨"FamilyKernel$Lexer", "standsAt", "(LFamilyKernel$Row;I)Z"⟩
abbrev w_Lex_standsAt : List Cond := .code y_Lex_standsAt b_Lex_standsAt 5 (some .boolean) :: vT
abbrev b_Lex_lengthOf : ByteArray := prog_5_method_9_code
abbrev y_Lex_lengthOf : MethodName := ⟨"FamilyKernel$Lexer", "lengthOf", "(I)I"⟩
abbrev w_Lex_lengthOf : List Cond := .code y_Lex_lengthOf b_Lex_lengthOf 1 (some .int) :: vT
abbrev b_Lex_startOf : ByteArray := prog_5_method_8_code
abbrev y_Lex_startOf : MethodName := ⟨"FamilyKernel$Lexer", "startOf", "(I)I"⟩
abbrev w_Lex_startOf : List Cond := .code y_Lex_startOf b_Lex_startOf 1 (some .int) :: vT
abbrev b_Meter_fail : ByteArray := prog_6_method_8_code
abbrev y_Meter_fail : MethodName := ⟨"FamilyKernel$Meter", "fail", "(I)V"⟩
abbrev w_Meter_fail : List Cond := .code y_Meter_fail b_Meter_fail 2 none :: vT
abbrev b_Env_add : ByteArray := prog_2_method_8_code
abbrev y_Env_add : MethodName := ⟨"FamilyKernel$Environment", "add", "(ILFamilyKernel$Lexer;)I"⟩
abbrev w_Env_add : List Cond := .code y_Env_add b_Env_add 6 (some .int) :: vT
abbrev b_Lex_length : ByteArray := prog_5_method_6_code
abbrev y_Lex_length : MethodName := ⟨"FamilyKernel$Lexer", "length", "()I"⟩
abbrev w_Lex_length : List Cond := .code y_Lex_length b_Lex_length 1 (some .int) :: vT
abbrev b_Lex_sign : ByteArray := prog_5_method_11_code
abbrev y_Lex_sign : MethodName := ⟨"FamilyKernel$Lexer", "sign", "(I)I"⟩
abbrev w_Lex_sign : List Cond := .code y_Lex_sign b_Lex_sign 2 (some .int) :: vT
abbrev b_Env_fix : ByteArray := prog_2_method_7_code
abbrev y_Env_fix : MethodName := ⟨"FamilyKernel$Environment", "fix", "(III)V"⟩
abbrev w_Env_fix : List Cond := .code y_Env_fix b_Env_fix 4 none :: vT
abbrev b_Row_put : ByteArray := prog_10_method_4_code
abbrev y_Row_put : MethodName := ⟨"FamilyKernel$Row", "put", "(II)V"⟩
abbrev w_Row_put : List Cond := .code y_Row_put b_Row_put 3 none :: vT
abbrev b_Par_expect : ByteArray := prog_7_method_15_code
abbrev y_Par_expect : MethodName := ⟨"FamilyKernel$Parser", "expect", "(I)V"⟩
abbrev w_Par_expect : List Cond := .code y_Par_expect b_Par_expect 2 none :: vT
abbrev b_Par_await : ByteArray := prog_7_method_18_code
abbrev y_Par_await : MethodName := ⟨"FamilyKernel$Parser", "await", "(III)V"⟩
abbrev w_Par_await : List Cond := .code y_Par_await b_Par_await 4 none :: vT
abbrev b_Par_hold : ByteArray := prog_7_method_17_code
abbrev y_Par_hold : MethodName := ⟨"FamilyKernel$Parser", "hold", "(III)V"⟩
abbrev w_Par_hold : List Cond := .code y_Par_hold b_Par_hold 4 none :: vT
abbrev b_Par_beginFamily : ByteArray := prog_7_method_13_code
abbrev y_Par_beginFamily : MethodName := ⟨"FamilyKernel$Parser", "beginFamily", "()V"⟩
abbrev w_Par_beginFamily : List Cond := .code y_Par_beginFamily b_Par_beginFamily 1 none :: vT
abbrev b_Par_startTerm : ByteArray := prog_7_method_24_code
abbrev y_Par_startTerm : MethodName := ⟨"FamilyKernel$Parser", "startTerm", "()V"⟩
abbrev w_Par_startTerm : List Cond := .code y_Par_startTerm b_Par_startTerm 3 none :: vT
abbrev b_Lex_word : ByteArray := prog_5_method_10_code
abbrev y_Lex_word : MethodName := ⟨"FamilyKernel$Lexer", "word", "()I"⟩
abbrev w_Lex_word : List Cond := .code y_Lex_word b_Lex_word 1 (some .int) :: vT
abbrev b_Par_nest : ByteArray := prog_7_method_19_code
abbrev y_Par_nest : MethodName := ⟨"FamilyKernel$Parser", "nest", "(III)V"⟩
abbrev w_Par_nest : List Cond := .code y_Par_nest b_Par_nest 4 none :: vT
abbrev b_Par_takeAtom : ByteArray := prog_7_method_25_code
abbrev y_Par_takeAtom : MethodName := ⟨"FamilyKernel$Parser", "takeAtom", "()V"⟩
abbrev w_Par_takeAtom : List Cond := .code y_Par_takeAtom b_Par_takeAtom 2 none :: vT
abbrev b_Par_resolve : ByteArray := prog_7_method_28_code
abbrev y_Par_resolve : MethodName := ⟨"FamilyKernel$Parser", "resolve", "()I"⟩
abbrev w_Par_resolve : List Cond := .code y_Par_resolve b_Par_resolve 3 (some .int) :: vT
abbrev b_Par_boundAt : ByteArray := prog_7_method_27_code
abbrev y_Par_boundAt : MethodName := ⟨"FamilyKernel$Parser", "boundAt", "()I"⟩
abbrev w_Par_boundAt : List Cond := .code y_Par_boundAt b_Par_boundAt 2 (some .int) :: vT
abbrev b_Terms_make : ByteArray := prog_11_method_13_code
abbrev y_Terms_make : MethodName := ⟨"FamilyKernel$Terms", "make", "(III)I"⟩
abbrev w_Terms_make : List Cond := .code y_Terms_make b_Terms_make 10 (some .int) :: vT
abbrev b_Terms_slot : ByteArray := prog_11_method_14_code
abbrev y_Terms_slot : MethodName := ⟨"FamilyKernel$Terms", "slot", "(III)I"⟩
abbrev w_Terms_slot : List Cond := .code y_Terms_slot b_Terms_slot 5 (some .int) :: vT
abbrev b_Terms_kind : ByteArray := prog_11_method_3_code
abbrev y_Terms_kind : MethodName := ⟨"FamilyKernel$Terms", "kind", "(I)I"⟩
abbrev w_Terms_kind : List Cond := .code y_Terms_kind b_Terms_kind 2 (some .int) :: vT
abbrev b_Terms_size : ByteArray := prog_11_method_4_code
abbrev y_Terms_size : MethodName := ⟨"FamilyKernel$Terms", "size", "(I)I"⟩
abbrev w_Terms_size : List Cond := .code y_Terms_size b_Terms_size 2 (some .int) :: vT
abbrev b_Terms_depth : ByteArray := prog_11_method_5_code
abbrev y_Terms_depth : MethodName := ⟨"FamilyKernel$Terms", "depth", "(I)I"⟩
abbrev w_Terms_depth : List Cond := .code y_Terms_depth b_Terms_depth 2 (some .int) :: vT
abbrev b_Mth_max : ByteArray := prog_21_method_65_code
abbrev y_Mth_max : MethodName := ⟨"java/lang/Math", "max", "(II)I"⟩
abbrev w_Mth_max : List Cond := .code y_Mth_max b_Mth_max 2 (some .int) :: vT
abbrev b_Terms_loose : ByteArray := prog_11_method_6_code
abbrev y_Terms_loose : MethodName := ⟨"FamilyKernel$Terms", "loose", "(I)I"⟩
abbrev w_Terms_loose : List Cond := .code y_Terms_loose b_Terms_loose 2 (some .int) :: vT
abbrev b_Terms_binds : ByteArray := prog_11_method_15_code
abbrev y_Terms_binds : MethodName := ⟨"FamilyKernel$Terms", "binds", "(I)I"⟩
abbrev w_Terms_binds : List Cond := .code y_Terms_binds b_Terms_binds 1 (some .int) :: vT
abbrev b_Terms_free : ByteArray := prog_11_method_7_code
abbrev y_Terms_free : MethodName := ⟨"FamilyKernel$Terms", "free", "(I)I"⟩
abbrev w_Terms_free : List Cond := .code y_Terms_free b_Terms_free 2 (some .int) :: vT
abbrev b_Terms_grow : ByteArray := prog_11_method_16_code
abbrev y_Terms_grow : MethodName := ⟨"FamilyKernel$Terms", "grow", "()V"⟩
abbrev w_Terms_grow : List Cond := .code y_Terms_grow b_Terms_grow 4 none :: vT
abbrev b_Arr_copyOf_1 : ByteArray := prog_28_method_124_code
abbrev y_Arr_copyOf_1 : MethodName := ⟨"java/util/Arrays", "copyOf", "([JI)[J"⟩
abbrev w_Arr_copyOf_1 : List Cond := .code y_Arr_copyOf_1 b_Arr_copyOf_1 3 (some (.array .long)) :: vT
abbrev b_Par_apply : ByteArray := prog_7_method_26_code
abbrev y_Par_apply : MethodName := ⟨"FamilyKernel$Parser", "apply", "(I)V"⟩
abbrev w_Par_apply : List Cond := .code y_Par_apply b_Par_apply 2 none :: vT
abbrev b_Par_takeSort : ByteArray := prog_7_method_30_code
abbrev y_Par_takeSort : MethodName := ⟨"FamilyKernel$Parser", "takeSort", "()I"⟩
abbrev w_Par_takeSort : List Cond := .code y_Par_takeSort b_Par_takeSort 2 (some .int) :: vT
abbrev b_Lex_value : ByteArray := prog_5_method_12_code
abbrev y_Lex_value : MethodName := ⟨"FamilyKernel$Lexer", "value", "()I"⟩
abbrev w_Lex_value : List Cond := .code y_Lex_value b_Lex_value 3 (some .int) :: vT
abbrev b_Par_takeRecursor : ByteArray := prog_7_method_29_code
abbrev y_Par_takeRecursor : MethodName := ⟨"FamilyKernel$Parser", "takeRecursor", "()I"⟩
abbrev w_Par_takeRecursor : List Cond := .code y_Par_takeRecursor b_Par_takeRecursor 3 (some .int) :: vT
abbrev b_Par_beWhole : ByteArray := prog_7_method_23_code
abbrev y_Par_beWhole : MethodName := ⟨"FamilyKernel$Parser", "beWhole", "(I)V"⟩
abbrev w_Par_beWhole : List Cond := .code y_Par_beWhole b_Par_beWhole 2 none :: vT
abbrev b_Par_held : ByteArray := prog_7_method_20_code
abbrev y_Par_held : MethodName := ⟨"FamilyKernel$Parser", "held", "(I)I"⟩
abbrev w_Par_held : List Cond := .code y_Par_held b_Par_held 2 (some .int) :: vT
abbrev b_Par_startGroup : ByteArray := prog_7_method_31_code
abbrev y_Par_startGroup : MethodName := ⟨"FamilyKernel$Parser", "startGroup", "()V"⟩
abbrev w_Par_startGroup : List Cond := .code y_Par_startGroup b_Par_startGroup 2 none :: vT
abbrev b_Par_takeMember : ByteArray := prog_7_method_44_code
abbrev y_Par_takeMember : MethodName := ⟨"FamilyKernel$Parser", "takeMember", "()V"⟩
abbrev w_Par_takeMember : List Cond := .code y_Par_takeMember b_Par_takeMember 2 none :: vT
abbrev b_Par_endParen : ByteArray := prog_7_method_35_code
abbrev y_Par_endParen : MethodName := ⟨"FamilyKernel$Parser", "endParen", "()V"⟩
abbrev w_Par_endParen : List Cond := .code y_Par_endParen b_Par_endParen 3 none :: vT
abbrev b_Par_unnest : ByteArray := prog_7_method_22_code
abbrev y_Par_unnest : MethodName := ⟨"FamilyKernel$Parser", "unnest", "()V"⟩
abbrev w_Par_unnest : List Cond := .code y_Par_unnest b_Par_unnest 1 none :: vT
abbrev b_Par_drop : ByteArray := prog_7_method_21_code
abbrev y_Par_drop : MethodName := ⟨"FamilyKernel$Parser", "drop", "()V"⟩
abbrev w_Par_drop : List Cond := .code y_Par_drop b_Par_drop 1 none :: vT
abbrev b_Par_endArrow : ByteArray := prog_7_method_36_code
abbrev y_Par_endArrow : MethodName := ⟨"FamilyKernel$Parser", "endArrow", "()V"⟩
abbrev w_Par_endArrow : List Cond := .code y_Par_endArrow b_Par_endArrow 2 none :: vT
abbrev b_Row_pop : ByteArray := prog_10_method_6_code
abbrev y_Row_pop : MethodName := ⟨"FamilyKernel$Row", "pop", "()I"⟩
abbrev w_Row_pop : List Cond := .code y_Row_pop b_Row_pop 1 (some .int) :: vT
abbrev b_Par_endGroup : ByteArray := prog_7_method_32_code
abbrev y_Par_endGroup : MethodName := ⟨"FamilyKernel$Parser", "endGroup", "()V"⟩
abbrev w_Par_endGroup : List Cond := .code y_Par_endGroup b_Par_endGroup 4 none :: vT
abbrev b_Terms_rewrite : ByteArray := prog_11_method_18_code
abbrev y_Terms_rewrite : MethodName := ⟨"FamilyKernel$Terms", "rewrite", "(III)I"⟩
abbrev w_Terms_rewrite : List Cond := .code y_Terms_rewrite b_Terms_rewrite 9 (some .int) :: vT
abbrev b_Terms_isUntouched : ByteArray := prog_11_method_19_code
abbrev y_Terms_isUntouched : MethodName := ⟨"FamilyKernel$Terms", "isUntouched", "(IIII)Z"⟩
abbrev w_Terms_isUntouched : List Cond := .code y_Terms_isUntouched b_Terms_isUntouched 5 (some .boolean) :: vT
abbrev b_Terms_changedName : ByteArray := prog_11_method_21_code
abbrev y_Terms_changedName : MethodName := ⟨"FamilyKernel$Terms", "changedName", "(IIII)I"⟩
abbrev w_Terms_changedName : List Cond := .code y_Terms_changedName b_Terms_changedName 6 (some .int) :: vT
abbrev b_Terms_left : ByteArray := prog_11_method_8_code
abbrev y_Terms_left : MethodName := ⟨"FamilyKernel$Terms", "left", "(I)I"⟩
abbrev w_Terms_left : List Cond := .code y_Terms_left b_Terms_left 2 (some .int) :: vT
abbrev b_Terms_right : ByteArray := prog_11_method_9_code
abbrev y_Terms_right : MethodName := ⟨"FamilyKernel$Terms", "right", "(I)I"⟩
abbrev w_Terms_right : List Cond := .code y_Terms_right b_Terms_right 2 (some .int) :: vT
abbrev b_Terms_changedKind : ByteArray := prog_11_method_20_code
abbrev y_Terms_changedKind : MethodName := ⟨"FamilyKernel$Terms", "changedKind", "(II)I"⟩
abbrev w_Terms_changedKind : List Cond := .code y_Terms_changedKind b_Terms_changedKind 2 (some .int) :: vT
abbrev b_Meter_charge : ByteArray := prog_6_method_7_code
abbrev y_Meter_charge : MethodName := ⟨"FamilyKernel$Meter", "charge", "(I)V"⟩
abbrev w_Meter_charge : List Cond := .code y_Meter_charge b_Meter_charge 2 none :: vT
abbrev b_Par_startBody : ByteArray := prog_7_method_33_code
abbrev y_Par_startBody : MethodName := ⟨"FamilyKernel$Parser", "startBody", "()V"⟩
abbrev w_Par_startBody : List Cond := .code y_Par_startBody b_Par_startBody 1 none :: vT
abbrev b_Par_endBody : ByteArray := prog_7_method_34_code
abbrev y_Par_endBody : MethodName := ⟨"FamilyKernel$Parser", "endBody", "()V"⟩
abbrev w_Par_endBody : List Cond := .code y_Par_endBody b_Par_endBody 3 none :: vT
abbrev b_Par_endLetType : ByteArray := prog_7_method_37_code
abbrev y_Par_endLetType : MethodName := ⟨"FamilyKernel$Parser", "endLetType", "()V"⟩
abbrev w_Par_endLetType : List Cond := .code y_Par_endLetType b_Par_endLetType 2 none :: vT
abbrev b_Par_endLetValue : ByteArray := prog_7_method_38_code
abbrev y_Par_endLetValue : MethodName := ⟨"FamilyKernel$Parser", "endLetValue", "()V"⟩
abbrev w_Par_endLetValue : List Cond := .code y_Par_endLetValue b_Par_endLetValue 3 none :: vT
abbrev b_Par_endLetBody : ByteArray := prog_7_method_39_code
abbrev y_Par_endLetBody : MethodName := ⟨"FamilyKernel$Parser", "endLetBody", "()V"⟩
abbrev w_Par_endLetBody : List Cond := .code y_Par_endLetBody b_Par_endLetBody 2 none :: vT
abbrev b_Par_endType : ByteArray := prog_7_method_40_code
abbrev y_Par_endType : MethodName := ⟨"FamilyKernel$Parser", "endType", "()V"⟩
abbrev w_Par_endType : List Cond := .code y_Par_endType b_Par_endType 2 none :: vT
abbrev b_Par_endValue : ByteArray := prog_7_method_41_code
abbrev y_Par_endValue : MethodName := ⟨"FamilyKernel$Parser", "endValue", "()V"⟩
abbrev w_Par_endValue : List Cond := .code y_Par_endValue b_Par_endValue 1 none :: vT
abbrev b_Par_endChecked : ByteArray := prog_7_method_42_code
abbrev y_Par_endChecked : MethodName := ⟨"FamilyKernel$Parser", "endChecked", "()V"⟩
abbrev w_Par_endChecked : List Cond := .code y_Par_endChecked b_Par_endChecked 1 none :: vT
abbrev b_Par_endFamilyType : ByteArray := prog_7_method_43_code
abbrev y_Par_endFamilyType : MethodName := ⟨"FamilyKernel$Parser", "endFamilyType", "()V"⟩
abbrev w_Par_endFamilyType : List Cond := .code y_Par_endFamilyType b_Par_endFamilyType 2 none :: vT
abbrev b_Par_overParameters : ByteArray := prog_7_method_9_code
abbrev y_Par_overParameters : MethodName := ⟨"FamilyKernel$Parser", "overParameters", "(I)I"⟩
abbrev w_Par_overParameters : List Cond := .code y_Par_overParameters b_Par_overParameters 4 (some .int) :: vT
abbrev b_Par_endMember : ByteArray := prog_7_method_45_code
abbrev y_Par_endMember : MethodName := ⟨"FamilyKernel$Parser", "endMember", "()V"⟩
abbrev w_Par_endMember : List Cond := .code y_Par_endMember b_Par_endMember 1 none :: vT
abbrev b_Ker_work : ByteArray := prog_1_method_6_code
abbrev y_Ker_work : MethodName := ⟨"FamilyKernel", "work", "()V"⟩
abbrev w_Ker_work : List Cond := .code y_Ker_work b_Ker_work 2 none :: vT
abbrev b_Par_task : ByteArray := prog_7_method_2_code
abbrev y_Par_task : MethodName := ⟨"FamilyKernel$Parser", "task", "()I"⟩
abbrev w_Par_task : List Cond := .code y_Par_task b_Par_task 1 (some .int) :: vT
abbrev b_Par_type : ByteArray := prog_7_method_4_code
abbrev y_Par_type : MethodName := ⟨"FamilyKernel$Parser", "type", "()I"⟩
abbrev w_Par_type : List Cond := .code y_Par_type b_Par_type 1 (some .int) :: vT
abbrev b_Par_value : ByteArray := prog_7_method_5_code
abbrev y_Par_value : MethodName := ⟨"FamilyKernel$Parser", "value", "()I"⟩
abbrev w_Par_value : List Cond := .code y_Par_value b_Par_value 1 (some .int) :: vT
abbrev b_Fra_begin : ByteArray := prog_4_method_2_code
abbrev y_Fra_begin : MethodName := ⟨"FamilyKernel$Frames", "begin", "(III)V"⟩
abbrev w_Fra_begin : List Cond := .code y_Fra_begin b_Fra_begin 4 none :: vT
abbrev b_Fra_push : ByteArray := prog_4_method_4_code
abbrev y_Fra_push : MethodName := ⟨"FamilyKernel$Frames", "push", "(IIII)V"⟩
abbrev w_Fra_push : List Cond := .code y_Fra_push b_Fra_push 5 none :: vT
abbrev b_Fra_isEmpty : ByteArray := prog_4_method_3_code
abbrev y_Fra_isEmpty : MethodName := ⟨"FamilyKernel$Frames", "isEmpty", "()Z"⟩
abbrev w_Fra_isEmpty : List Cond := .code y_Fra_isEmpty b_Fra_isEmpty 1 (some .boolean) :: vT
abbrev b_Fra_top : ByteArray := prog_4_method_6_code
abbrev y_Fra_top : MethodName := ⟨"FamilyKernel$Frames", "top", "(I)I"⟩
abbrev w_Fra_top : List Cond := .code y_Fra_top b_Fra_top 2 (some .int) :: vT
abbrev b_Red_whnf : ByteArray := prog_9_method_2_code
abbrev y_Red_whnf : MethodName := ⟨"FamilyKernel$Reducer", "whnf", "()V"⟩
abbrev w_Red_whnf : List Cond := .code y_Red_whnf b_Red_whnf 6 none :: vT
abbrev b_Terms_head : ByteArray := prog_11_method_10_code
abbrev y_Terms_head : MethodName := ⟨"FamilyKernel$Terms", "head", "(I)I"⟩
abbrev w_Terms_head : List Cond := .code y_Terms_head b_Terms_head 4 (some .int) :: vT
abbrev b_Terms_behind : ByteArray := prog_11_method_11_code
abbrev y_Terms_behind : MethodName := ⟨"FamilyKernel$Terms", "behind", "(I)I"⟩
abbrev w_Terms_behind : List Cond := .code y_Terms_behind b_Terms_behind 4 (some .int) :: vT
abbrev b_Terms_fromLast : ByteArray := prog_11_method_12_code
abbrev y_Terms_fromLast : MethodName := ⟨"FamilyKernel$Terms", "fromLast", "(II)I"⟩
abbrev w_Terms_fromLast : List Cond := .code y_Terms_fromLast b_Terms_fromLast 5 (some .int) :: vT
abbrev b_Red_step : ByteArray := prog_9_method_5_code
abbrev y_Red_step : MethodName := ⟨"FamilyKernel$Reducer", "step", "(II)V"⟩
abbrev w_Red_step : List Cond := .code y_Red_step b_Red_step 3 none :: vT
abbrev b_Red_giveLast : ByteArray := prog_9_method_6_code
abbrev y_Red_giveLast : MethodName := ⟨"FamilyKernel$Reducer", "giveLast", "(II)I"⟩
abbrev w_Red_giveLast : List Cond := .code y_Red_giveLast b_Red_giveLast 5 (some .int) :: vT
abbrev b_Red_applyGiven : ByteArray := prog_9_method_7_code
abbrev y_Red_applyGiven : MethodName := ⟨"FamilyKernel$Reducer", "applyGiven", "(I)V"⟩
abbrev w_Red_applyGiven : List Cond := .code y_Red_applyGiven b_Red_applyGiven 3 none :: vT
abbrev b_Fra_set : ByteArray := prog_4_method_7_code
abbrev y_Fra_set : MethodName := ⟨"FamilyKernel$Frames", "set", "(II)V"⟩
abbrev w_Fra_set : List Cond := .code y_Fra_set b_Fra_set 3 none :: vT
abbrev b_Red_majorPlace : ByteArray := prog_9_method_3_code
abbrev y_Red_majorPlace : MethodName := ⟨"FamilyKernel$Reducer", "majorPlace", "(I)I"⟩
abbrev w_Red_majorPlace : List Cond := .code y_Red_majorPlace b_Red_majorPlace 2 (some .int) :: vT
abbrev b_Red_askMajor : ByteArray := prog_9_method_4_code
abbrev y_Red_askMajor : MethodName := ⟨"FamilyKernel$Reducer", "askMajor", "(II)V"⟩
abbrev w_Red_askMajor : List Cond := .code y_Red_askMajor b_Red_askMajor 4 none :: vT
abbrev b_Fra_give : ByteArray := prog_4_method_8_code
abbrev y_Fra_give : MethodName := ⟨"FamilyKernel$Frames", "give", "(I)V"⟩
abbrev w_Fra_give : List Cond := .code y_Fra_give b_Fra_give 2 none :: vT
abbrev b_Fra_pop : ByteArray := prog_4_method_5_code
abbrev y_Fra_pop : MethodName := ⟨"FamilyKernel$Frames", "pop", "()V"⟩
abbrev w_Fra_pop : List Cond := .code y_Fra_pop b_Fra_pop 1 none :: vT
abbrev b_Red_whnfMajor : ByteArray := prog_9_method_8_code
abbrev y_Red_whnfMajor : MethodName := ⟨"FamilyKernel$Reducer", "whnfMajor", "()V"⟩
abbrev w_Red_whnfMajor : List Cond := .code y_Red_whnfMajor b_Red_whnfMajor 12 none :: vT
abbrev b_Fra_result : ByteArray := prog_4_method_9_code
abbrev y_Fra_result : MethodName := ⟨"FamilyKernel$Frames", "result", "()I"⟩
abbrev w_Fra_result : List Cond := .code y_Fra_result b_Fra_result 1 (some .int) :: vT
abbrev b_Red_conv : ByteArray := prog_9_method_9_code
abbrev y_Red_conv : MethodName := ⟨"FamilyKernel$Reducer", "conv", "()V"⟩
abbrev w_Red_conv : List Cond := .code y_Red_conv b_Red_conv 1 none :: vT
abbrev b_Red_convLeft : ByteArray := prog_9_method_10_code
abbrev y_Red_convLeft : MethodName := ⟨"FamilyKernel$Reducer", "convLeft", "()V"⟩
abbrev w_Red_convLeft : List Cond := .code y_Red_convLeft b_Red_convLeft 1 none :: vT
abbrev b_Red_convRight : ByteArray := prog_9_method_11_code
abbrev y_Red_convRight : MethodName := ⟨"FamilyKernel$Reducer", "convRight", "()V"⟩
abbrev w_Red_convRight : List Cond := .code y_Red_convRight b_Red_convRight 7 none :: vT
abbrev b_Red_convWithin : ByteArray := prog_9_method_12_code
abbrev y_Red_convWithin : MethodName := ⟨"FamilyKernel$Reducer", "convWithin", "(II)V"⟩
abbrev w_Red_convWithin : List Cond := .code y_Red_convWithin b_Red_convWithin 3 none :: vT
abbrev b_Fra_newVariable : ByteArray := prog_4_method_10_code
abbrev y_Fra_newVariable : MethodName := ⟨"FamilyKernel$Frames", "newVariable", "(I)I"⟩
abbrev w_Fra_newVariable : List Cond := .code y_Fra_newVariable b_Fra_newVariable 2 (some .int) :: vT
abbrev b_Red_convHeads : ByteArray := prog_9_method_13_code
abbrev y_Red_convHeads : MethodName := ⟨"FamilyKernel$Reducer", "convHeads", "(II)V"⟩
abbrev w_Red_convHeads : List Cond := .code y_Red_convHeads b_Red_convHeads 4 none :: vT
abbrev b_Red_convBodies : ByteArray := prog_9_method_14_code
abbrev y_Red_convBodies : MethodName := ⟨"FamilyKernel$Reducer", "convBodies", "()V"⟩
abbrev w_Red_convBodies : List Cond := .code y_Red_convBodies b_Red_convBodies 6 none :: vT
abbrev b_Red_convLeave : ByteArray := prog_9_method_15_code
abbrev y_Red_convLeave : MethodName := ⟨"FamilyKernel$Reducer", "convLeave", "()V"⟩
abbrev w_Red_convLeave : List Cond := .code y_Red_convLeave b_Red_convLeave 1 none :: vT
abbrev b_Fra_dropVariable : ByteArray := prog_4_method_11_code
abbrev y_Fra_dropVariable : MethodName := ⟨"FamilyKernel$Frames", "dropVariable", "()I"⟩
abbrev w_Fra_dropVariable : List Cond := .code y_Fra_dropVariable b_Fra_dropVariable 1 (some .int) :: vT
abbrev b_Red_convArguments : ByteArray := prog_9_method_16_code
abbrev y_Red_convArguments : MethodName := ⟨"FamilyKernel$Reducer", "convArguments", "()V"⟩
abbrev w_Red_convArguments : List Cond := .code y_Red_convArguments b_Red_convArguments 2 none :: vT
abbrev b_Red_normal : ByteArray := prog_9_method_17_code
abbrev y_Red_normal : MethodName := ⟨"FamilyKernel$Reducer", "normal", "()V"⟩
abbrev w_Red_normal : List Cond := .code y_Red_normal b_Red_normal 1 none :: vT
abbrev b_Red_normalSplit : ByteArray := prog_9_method_18_code
abbrev y_Red_normalSplit : MethodName := ⟨"FamilyKernel$Reducer", "normalSplit", "()V"⟩
abbrev w_Red_normalSplit : List Cond := .code y_Red_normalSplit b_Red_normalSplit 3 none :: vT
abbrev b_Red_normalWithin : ByteArray := prog_9_method_19_code
abbrev y_Red_normalWithin : MethodName := ⟨"FamilyKernel$Reducer", "normalWithin", "(I)V"⟩
abbrev w_Red_normalWithin : List Cond := .code y_Red_normalWithin b_Red_normalWithin 2 none :: vT
abbrev b_Red_normalBody : ByteArray := prog_9_method_20_code
abbrev y_Red_normalBody : MethodName := ⟨"FamilyKernel$Reducer", "normalBody", "()V"⟩
abbrev w_Red_normalBody : List Cond := .code y_Red_normalBody b_Red_normalBody 2 none :: vT
abbrev b_Red_normalClose : ByteArray := prog_9_method_21_code
abbrev y_Red_normalClose : MethodName := ⟨"FamilyKernel$Reducer", "normalClose", "()V"⟩
abbrev w_Red_normalClose : List Cond := .code y_Red_normalClose b_Red_normalClose 3 none :: vT
abbrev b_Red_normalArgument : ByteArray := prog_9_method_22_code
abbrev y_Red_normalArgument : MethodName := ⟨"FamilyKernel$Reducer", "normalArgument", "()V"⟩
abbrev w_Red_normalArgument : List Cond := .code y_Red_normalArgument b_Red_normalArgument 2 none :: vT
abbrev b_Red_normalApply : ByteArray := prog_9_method_23_code
abbrev y_Red_normalApply : MethodName := ⟨"FamilyKernel$Reducer", "normalApply", "()V"⟩
abbrev w_Red_normalApply : List Cond := .code y_Red_normalApply b_Red_normalApply 2 none :: vT
abbrev b_Typ_infer : ByteArray := prog_12_method_2_code
abbrev y_Typ_infer : MethodName := ⟨"FamilyKernel$Typer", "infer", "()V"⟩
abbrev w_Typ_infer : List Cond := .code y_Typ_infer b_Typ_infer 2 none :: vT
abbrev b_Fra_typeOf : ByteArray := prog_4_method_13_code
abbrev y_Fra_typeOf : MethodName := ⟨"FamilyKernel$Frames", "typeOf", "(I)I"⟩
abbrev w_Fra_typeOf : List Cond := .code y_Fra_typeOf b_Fra_typeOf 2 (some .int) :: vT
abbrev b_Typ_inferSort : ByteArray := prog_12_method_3_code
abbrev y_Typ_inferSort : MethodName := ⟨"FamilyKernel$Typer", "inferSort", "(I)V"⟩
abbrev w_Typ_inferSort : List Cond := .code y_Typ_inferSort b_Typ_inferSort 2 none :: vT
abbrev b_Typ_inferRecursor : ByteArray := prog_12_method_4_code
abbrev y_Typ_inferRecursor : MethodName := ⟨"FamilyKernel$Typer", "inferRecursor", "(II)V"⟩
abbrev w_Typ_inferRecursor : List Cond := .code y_Typ_inferRecursor b_Typ_inferRecursor 4 none :: vT
abbrev b_Env_allows : ByteArray := prog_2_method_13_code
abbrev y_Env_allows : MethodName := ⟨"FamilyKernel$Environment", "allows", "(II)Z"⟩
abbrev w_Env_allows : List Cond := .code y_Env_allows b_Env_allows 3 (some .boolean) :: vT
abbrev b_Typ_sortWithin : ByteArray := prog_12_method_6_code
abbrev y_Typ_sortWithin : MethodName := ⟨"FamilyKernel$Typer", "sortWithin", "(II)V"⟩
abbrev w_Typ_sortWithin : List Cond := .code y_Typ_sortWithin b_Typ_sortWithin 4 none :: vT
abbrev b_Typ_inferWithin : ByteArray := prog_12_method_5_code
abbrev y_Typ_inferWithin : MethodName := ⟨"FamilyKernel$Typer", "inferWithin", "(I)V"⟩
abbrev w_Typ_inferWithin : List Cond := .code y_Typ_inferWithin b_Typ_inferWithin 2 none :: vT
abbrev b_Typ_piBody : ByteArray := prog_12_method_12_code
abbrev y_Typ_piBody : MethodName := ⟨"FamilyKernel$Typer", "piBody", "()V"⟩
abbrev w_Typ_piBody : List Cond := .code y_Typ_piBody b_Typ_piBody 1 none :: vT
abbrev b_Typ_openBody : ByteArray := prog_12_method_11_code
abbrev y_Typ_openBody : MethodName := ⟨"FamilyKernel$Typer", "openBody", "(I)I"⟩
abbrev w_Typ_openBody : List Cond := .code y_Typ_openBody b_Typ_openBody 3 (some .int) :: vT
abbrev b_Typ_piEnd : ByteArray := prog_12_method_13_code
abbrev y_Typ_piEnd : MethodName := ⟨"FamilyKernel$Typer", "piEnd", "()V"⟩
abbrev w_Typ_piEnd : List Cond := .code y_Typ_piEnd b_Typ_piEnd 2 none :: vT
abbrev b_Typ_lamBody : ByteArray := prog_12_method_14_code
abbrev y_Typ_lamBody : MethodName := ⟨"FamilyKernel$Typer", "lamBody", "()V"⟩
abbrev w_Typ_lamBody : List Cond := .code y_Typ_lamBody b_Typ_lamBody 1 none :: vT
abbrev b_Typ_lamEnd : ByteArray := prog_12_method_15_code
abbrev y_Typ_lamEnd : MethodName := ⟨"FamilyKernel$Typer", "lamEnd", "()V"⟩
abbrev w_Typ_lamEnd : List Cond := .code y_Typ_lamEnd b_Typ_lamEnd 2 none :: vT
abbrev b_Typ_letValue : ByteArray := prog_12_method_16_code
abbrev y_Typ_letValue : MethodName := ⟨"FamilyKernel$Typer", "letValue", "()V"⟩
abbrev w_Typ_letValue : List Cond := .code y_Typ_letValue b_Typ_letValue 2 none :: vT
abbrev b_Typ_checkWithin : ByteArray := prog_12_method_7_code
abbrev y_Typ_checkWithin : MethodName := ⟨"FamilyKernel$Typer", "checkWithin", "(III)V"⟩
abbrev w_Typ_checkWithin : List Cond := .code y_Typ_checkWithin b_Typ_checkWithin 5 none :: vT
abbrev b_Typ_letBody : ByteArray := prog_12_method_17_code
abbrev y_Typ_letBody : MethodName := ⟨"FamilyKernel$Typer", "letBody", "()V"⟩
abbrev w_Typ_letBody : List Cond := .code y_Typ_letBody b_Typ_letBody 2 none :: vT
abbrev b_Typ_appType : ByteArray := prog_12_method_18_code
abbrev y_Typ_appType : MethodName := ⟨"FamilyKernel$Typer", "appType", "()V"⟩
abbrev w_Typ_appType : List Cond := .code y_Typ_appType b_Typ_appType 1 none :: vT
abbrev b_Typ_askFunction : ByteArray := prog_12_method_19_code
abbrev y_Typ_askFunction : MethodName := ⟨"FamilyKernel$Typer", "askFunction", "(I)V"⟩
abbrev w_Typ_askFunction : List Cond := .code y_Typ_askFunction b_Typ_askFunction 2 none :: vT
abbrev b_Typ_appArgument : ByteArray := prog_12_method_20_code
abbrev y_Typ_appArgument : MethodName := ⟨"FamilyKernel$Typer", "appArgument", "()V"⟩
abbrev w_Typ_appArgument : List Cond := .code y_Typ_appArgument b_Typ_appArgument 2 none :: vT
abbrev b_Typ_nextArgument : ByteArray := prog_12_method_21_code
abbrev y_Typ_nextArgument : MethodName := ⟨"FamilyKernel$Typer", "nextArgument", "()I"⟩
abbrev w_Typ_nextArgument : List Cond := .code y_Typ_nextArgument b_Typ_nextArgument 1 (some .int) :: vT
abbrev b_Typ_appOpen : ByteArray := prog_12_method_22_code
abbrev y_Typ_appOpen : MethodName := ⟨"FamilyKernel$Typer", "appOpen", "()V"⟩
abbrev w_Typ_appOpen : List Cond := .code y_Typ_appOpen b_Typ_appOpen 4 none :: vT
abbrev b_Typ_sortType : ByteArray := prog_12_method_8_code
abbrev y_Typ_sortType : MethodName := ⟨"FamilyKernel$Typer", "sortType", "()V"⟩
abbrev w_Typ_sortType : List Cond := .code y_Typ_sortType b_Typ_sortType 1 none :: vT
abbrev b_Typ_sortEnd : ByteArray := prog_12_method_9_code
abbrev y_Typ_sortEnd : MethodName := ⟨"FamilyKernel$Typer", "sortEnd", "()V"⟩
abbrev w_Typ_sortEnd : List Cond := .code y_Typ_sortEnd b_Typ_sortEnd 1 none :: vT
abbrev b_Typ_checkType : ByteArray := prog_12_method_10_code
abbrev y_Typ_checkType : MethodName := ⟨"FamilyKernel$Typer", "checkType", "()V"⟩
abbrev w_Typ_checkType : List Cond := .code y_Typ_checkType b_Typ_checkType 2 none :: vT
abbrev b_Typ_declare : ByteArray := prog_12_method_23_code
abbrev y_Typ_declare : MethodName := ⟨"FamilyKernel$Typer", "declare", "()V"⟩
abbrev w_Typ_declare : List Cond := .code y_Typ_declare b_Typ_declare 1 none :: vT
abbrev b_Typ_declareValue : ByteArray := prog_12_method_24_code
abbrev y_Typ_declareValue : MethodName := ⟨"FamilyKernel$Typer", "declareValue", "()V"⟩
abbrev w_Typ_declareValue : List Cond := .code y_Typ_declareValue b_Typ_declareValue 1 none :: vT
abbrev b_Typ_eval : ByteArray := prog_12_method_25_code
abbrev y_Typ_eval : MethodName := ⟨"FamilyKernel$Typer", "eval", "()V"⟩
abbrev w_Typ_eval : List Cond := .code y_Typ_eval b_Typ_eval 1 none :: vT
abbrev b_Typ_evalTyped : ByteArray := prog_12_method_26_code
abbrev y_Typ_evalTyped : MethodName := ⟨"FamilyKernel$Typer", "evalTyped", "()V"⟩
abbrev w_Typ_evalTyped : List Cond := .code y_Typ_evalTyped b_Typ_evalTyped 1 none :: vT
abbrev b_Fam_family : ByteArray := prog_3_method_2_code
abbrev y_Fam_family : MethodName := ⟨"FamilyKernel$Families", "family", "()V"⟩
abbrev w_Fam_family : List Cond := .code y_Fam_family b_Fam_family 2 none :: vT
abbrev b_Par_declared : ByteArray := prog_7_method_3_code
abbrev y_Par_declared : MethodName := ⟨"FamilyKernel$Parser", "declared", "()I"⟩
abbrev w_Par_declared : List Cond := .code y_Par_declared b_Par_declared 1 (some .int) :: vT
abbrev b_Par_parameters : ByteArray := prog_7_method_7_code
abbrev y_Par_parameters : MethodName := ⟨"FamilyKernel$Parser", "parameters", "()I"⟩
abbrev w_Par_parameters : List Cond := .code y_Par_parameters b_Par_parameters 1 (some .int) :: vT
abbrev b_Fam_sortOf : ByteArray := prog_3_method_3_code
abbrev y_Fam_sortOf : MethodName := ⟨"FamilyKernel$Families", "sortOf", "(II)V"⟩
abbrev w_Fam_sortOf : List Cond := .code y_Fam_sortOf b_Fam_sortOf 3 none :: vT
abbrev b_Fam_member : ByteArray := prog_3_method_6_code
abbrev y_Fam_member : MethodName := ⟨"FamilyKernel$Families", "member", "()V"⟩
abbrev w_Fam_member : List Cond := .code y_Fam_member b_Fam_member 2 none :: vT
abbrev b_Fra_dropVariables : ByteArray := prog_4_method_12_code
abbrev y_Fra_dropVariables : MethodName := ⟨"FamilyKernel$Frames", "dropVariables", "()V"⟩
abbrev w_Fra_dropVariables : List Cond := .code y_Fra_dropVariables b_Fra_dropVariables 1 none :: vT
abbrev b_Par_parameterType : ByteArray := prog_7_method_8_code
abbrev y_Par_parameterType : MethodName := ⟨"FamilyKernel$Parser", "parameterType", "(I)I"⟩
abbrev w_Par_parameterType : List Cond := .code y_Par_parameterType b_Par_parameterType 2 (some .int) :: vT
abbrev b_Fam_memberTerm : ByteArray := prog_3_method_5_code
abbrev y_Fam_memberTerm : MethodName := ⟨"FamilyKernel$Families", "memberTerm", "(I)I"⟩
abbrev w_Fam_memberTerm : List Cond := .code y_Fam_memberTerm b_Fam_memberTerm 2 (some .int) :: vT
abbrev b_Fam_argument : ByteArray := prog_3_method_7_code
abbrev y_Fam_argument : MethodName := ⟨"FamilyKernel$Families", "argument", "()V"⟩
abbrev w_Fam_argument : List Cond := .code y_Fam_argument b_Fam_argument 1 none :: vT
abbrev b_Fam_endsInFamily : ByteArray := prog_3_method_11_code
abbrev y_Fam_endsInFamily : MethodName := ⟨"FamilyKernel$Families", "endsInFamily", "(I)Z"⟩
abbrev w_Fam_endsInFamily : List Cond := .code y_Fam_endsInFamily b_Fam_endsInFamily 7 (some .boolean) :: vT
abbrev b_Terms_has : ByteArray := prog_11_method_22_code
abbrev y_Terms_has : MethodName := ⟨"FamilyKernel$Terms", "has", "(III)Z"⟩
abbrev w_Terms_has : List Cond := .code y_Terms_has b_Terms_has 8 (some .boolean) :: vT
abbrev b_Fam_constantAt : ByteArray := prog_3_method_4_code
abbrev y_Fam_constantAt : MethodName := ⟨"FamilyKernel$Families", "constantAt", "()I"⟩
abbrev w_Fam_constantAt : List Cond := .code y_Fam_constantAt b_Fam_constantAt 1 (some .int) :: vT
abbrev b_Fam_isDetermined : ByteArray := prog_3_method_12_code
abbrev y_Fam_isDetermined : MethodName := ⟨"FamilyKernel$Families", "isDetermined", "()Z"⟩
abbrev w_Fam_isDetermined : List Cond := .code y_Fam_isDetermined b_Fam_isDetermined 2 (some .boolean) :: vT
abbrev b_Fam_isIndex : ByteArray := prog_3_method_13_code
abbrev y_Fam_isIndex : MethodName := ⟨"FamilyKernel$Families", "isIndex", "(I)Z"⟩
abbrev w_Fam_isIndex : List Cond := .code y_Fam_isIndex b_Fam_isIndex 3 (some .boolean) :: vT
abbrev b_Fam_argumentTested : ByteArray := prog_3_method_8_code
abbrev y_Fam_argumentTested : MethodName := ⟨"FamilyKernel$Families", "argumentTested", "()V"⟩
abbrev w_Fam_argumentTested : List Cond := .code y_Fam_argumentTested b_Fam_argumentTested 4 none :: vT
abbrev b_Fam_isRecursive : ByteArray := prog_3_method_10_code
abbrev y_Fam_isRecursive : MethodName := ⟨"FamilyKernel$Families", "isRecursive", "(I)Z"⟩
abbrev w_Fam_isRecursive : List Cond := .code y_Fam_isRecursive b_Fam_isRecursive 4 (some .boolean) :: vT
abbrev b_Fam_memberTyped : ByteArray := prog_3_method_9_code
abbrev y_Fam_memberTyped : MethodName := ⟨"FamilyKernel$Families", "memberTyped", "()V"⟩
abbrev w_Fam_memberTyped : List Cond := .code y_Fam_memberTyped b_Fam_memberTyped 1 none :: vT
abbrev b_Fam_build : ByteArray := prog_3_method_14_code
abbrev y_Fam_build : MethodName := ⟨"FamilyKernel$Families", "build", "()V"⟩
abbrev w_Fam_build : List Cond := .code y_Fam_build b_Fam_build 6 none :: vT
abbrev b_Fam_payOpenings : ByteArray := prog_3_method_15_code
abbrev y_Fam_payOpenings : MethodName := ⟨"FamilyKernel$Families", "payOpenings", "()V"⟩
abbrev w_Fam_payOpenings : List Cond := .code y_Fam_payOpenings b_Fam_payOpenings 4 none :: vT
abbrev b_Par_nodes : ByteArray := prog_7_method_6_code
abbrev y_Par_nodes : MethodName := ⟨"FamilyKernel$Parser", "nodes", "()I"⟩
abbrev w_Par_nodes : List Cond := .code y_Par_nodes b_Par_nodes 1 (some .int) :: vT
abbrev b_Terms_release : ByteArray := prog_11_method_17_code
abbrev y_Terms_release : MethodName := ⟨"FamilyKernel$Terms", "release", "(I)V"⟩
abbrev w_Terms_release : List Cond := .code y_Terms_release b_Terms_release 3 none :: vT
abbrev b_Fam_buildMotive : ByteArray := prog_3_method_21_code
abbrev y_Fam_buildMotive : MethodName := ⟨"FamilyKernel$Families", "buildMotive", "()V"⟩
abbrev w_Fam_buildMotive : List Cond := .code y_Fam_buildMotive b_Fam_buildMotive 4 none :: vT
abbrev b_Fam_split : ByteArray := prog_3_method_20_code
abbrev y_Fam_split : MethodName := ⟨"FamilyKernel$Families", "split", "(ILFamilyKernel$Row;)I"⟩
abbrev w_Fam_split : List Cond := .code y_Fam_split b_Fam_split 5 (some .int) :: vT
abbrev b_Fam_applied : ByteArray := prog_3_method_17_code
abbrev y_Fam_applied : MethodName := ⟨"FamilyKernel$Families", "applied", "(IIII)I"⟩
abbrev w_Fam_applied : List Cond := .code y_Fam_applied b_Fam_applied 8 (some .int) :: vT
abbrev b_Fam_bound : ByteArray := prog_3_method_19_code
abbrev y_Fam_bound : MethodName := ⟨"FamilyKernel$Families", "bound", "(ILFamilyKernel$Row;I)I"⟩
abbrev w_Fam_bound : List Cond := .code y_Fam_bound b_Fam_bound 6 (some .int) :: vT
abbrev b_Fam_minor : ByteArray := prog_3_method_22_code
abbrev y_Fam_minor : MethodName := ⟨"FamilyKernel$Families", "minor", "(I)I"⟩
abbrev w_Fam_minor : List Cond := .code y_Fam_minor b_Fam_minor 8 (some .int) :: vT
abbrev b_Fam_hypothesis : ByteArray := prog_3_method_23_code
abbrev y_Fam_hypothesis : MethodName := ⟨"FamilyKernel$Families", "hypothesis", "(IIII)I"⟩
abbrev w_Fam_hypothesis : List Cond := .code y_Fam_hypothesis b_Fam_hypothesis 10 (some .int) :: vT
abbrev b_Fam_variable : ByteArray := prog_3_method_16_code
abbrev y_Fam_variable : MethodName := ⟨"FamilyKernel$Families", "variable", "(II)I"⟩
abbrev w_Fam_variable : List Cond := .code y_Fam_variable b_Fam_variable 3 (some .int) :: vT
abbrev b_Fam_withIndices : ByteArray := prog_3_method_18_code
abbrev y_Fam_withIndices : MethodName := ⟨"FamilyKernel$Families", "withIndices", "(III)I"⟩
abbrev w_Fam_withIndices : List Cond := .code y_Fam_withIndices b_Fam_withIndices 7 (some .int) :: vT
abbrev b_Env_sizes : ByteArray := prog_2_method_3_code
abbrev y_Env_sizes : MethodName := ⟨"FamilyKernel$Environment", "sizes", "()I"⟩
abbrev w_Env_sizes : List Cond := .code y_Env_sizes b_Env_sizes 1 (some .int) :: vT
abbrev b_Fam_recursorType : ByteArray := prog_3_method_24_code
abbrev y_Fam_recursorType : MethodName := ⟨"FamilyKernel$Families", "recursorType", "()I"⟩
abbrev w_Fam_recursorType : List Cond := .code y_Fam_recursorType b_Fam_recursorType 7 (some .int) :: vT
abbrev b_Fam_rule : ByteArray := prog_3_method_25_code
abbrev y_Fam_rule : MethodName := ⟨"FamilyKernel$Families", "rule", "(I)I"⟩
abbrev w_Fam_rule : List Cond := .code y_Fam_rule b_Fam_rule 8 (some .int) :: vT
abbrev b_Env_addSizes : ByteArray := prog_2_method_4_code
abbrev y_Env_addSizes : MethodName := ⟨"FamilyKernel$Environment", "addSizes", "(I)V"⟩
abbrev w_Env_addSizes : List Cond := .code y_Env_addSizes b_Env_addSizes 2 none :: vT
abbrev b_Ker_keep : ByteArray := prog_1_method_7_code
abbrev y_Ker_keep : MethodName := ⟨"FamilyKernel", "keep", "(I)V"⟩
abbrev w_Ker_keep : List Cond := .code y_Ker_keep b_Ker_keep 2 none :: vT
abbrev b_Pri_print : ByteArray := prog_8_method_3_code
abbrev y_Pri_print : MethodName := ⟨"FamilyKernel$Printer", "print", "(II)V"⟩
abbrev w_Pri_print : List Cond := .code y_Pri_print b_Pri_print 7 none :: vT
abbrev b_Pri_later : ByteArray := prog_8_method_4_code
abbrev y_Pri_later : MethodName := ⟨"FamilyKernel$Printer", "later", "(III)V"⟩
abbrev w_Pri_later : List Cond := .code y_Pri_later b_Pri_later 4 none :: vT
abbrev b_Pri_piece : ByteArray := prog_8_method_10_code
abbrev y_Pri_piece : MethodName := ⟨"FamilyKernel$Printer", "piece", "(I)V"⟩
abbrev w_Pri_piece : List Cond := .code y_Pri_piece b_Pri_piece 2 none :: vT
abbrev b_Pri_text : ByteArray := prog_8_method_6_code
abbrev y_Pri_text : MethodName := ⟨"FamilyKernel$Printer", "text", "(Ljava/lang/String;)V"⟩
abbrev w_Pri_text : List Cond := .code y_Pri_text b_Pri_text 3 none :: vT
abbrev b_Pri_needsBrackets : ByteArray := prog_8_method_5_code
abbrev y_Pri_needsBrackets : MethodName := ⟨"FamilyKernel$Printer", "needsBrackets", "(II)Z"⟩
abbrev w_Pri_needsBrackets : List Cond := .code y_Pri_needsBrackets b_Pri_needsBrackets 2 (some .boolean) :: vT
abbrev b_Pri_write : ByteArray := prog_8_method_11_code
abbrev y_Pri_write : MethodName := ⟨"FamilyKernel$Printer", "write", "(III)V"⟩
abbrev w_Pri_write : List Cond := .code y_Pri_write b_Pri_write 5 none :: vT
abbrev b_Pri_number : ByteArray := prog_8_method_7_code
abbrev y_Pri_number : MethodName := ⟨"FamilyKernel$Printer", "number", "(I)V"⟩
abbrev w_Pri_number : List Cond := .code y_Pri_number b_Pri_number 3 none :: vT
abbrev b_Pri_sort : ByteArray := prog_8_method_9_code
abbrev y_Pri_sort : MethodName := ⟨"FamilyKernel$Printer", "sort", "(I)V"⟩
abbrev w_Pri_sort : List Cond := .code y_Pri_sort b_Pri_sort 2 none :: vT
abbrev b_Pri_name : ByteArray := prog_8_method_8_code
abbrev y_Pri_name : MethodName := ⟨"FamilyKernel$Printer", "name", "(I)V"⟩
abbrev w_Pri_name : List Cond := .code y_Pri_name b_Pri_name 3 none :: vT
abbrev b_Env_nameLength : ByteArray := prog_2_method_11_code
abbrev y_Env_nameLength : MethodName := ⟨"FamilyKernel$Environment", "nameLength", "(I)I"⟩
abbrev w_Env_nameLength : List Cond := .code y_Env_nameLength b_Env_nameLength 2 (some .int) :: vT
abbrev b_Env_nameByte : ByteArray := prog_2_method_12_code
abbrev y_Env_nameByte : MethodName := ⟨"FamilyKernel$Environment", "nameByte", "(II)I"⟩
abbrev w_Env_nameByte : List Cond := .code y_Env_nameByte b_Env_nameByte 3 (some .int) :: vT
abbrev b_Pri_writeLet : ByteArray := prog_8_method_13_code
abbrev y_Pri_writeLet : MethodName := ⟨"FamilyKernel$Printer", "writeLet", "(II)V"⟩
abbrev w_Pri_writeLet : List Cond := .code y_Pri_writeLet b_Pri_writeLet 4 none :: vT
abbrev b_Pri_writeBinder : ByteArray := prog_8_method_12_code
abbrev y_Pri_writeBinder : MethodName := ⟨"FamilyKernel$Printer", "writeBinder", "(II)V"⟩
abbrev w_Pri_writeBinder : List Cond := .code y_Pri_writeBinder b_Pri_writeBinder 5 none :: vT
abbrev b_Ker_keepConstant : ByteArray := prog_1_method_8_code
abbrev y_Ker_keepConstant : MethodName := ⟨"FamilyKernel", "keepConstant", "()V"⟩
abbrev w_Ker_keepConstant : List Cond := .code y_Ker_keepConstant b_Ker_keepConstant 4 none :: vT
abbrev b_Env_cut : ByteArray := prog_2_method_9_code
abbrev y_Env_cut : MethodName := ⟨"FamilyKernel$Environment", "cut", "(I)V"⟩
abbrev w_Env_cut : List Cond := .code y_Env_cut b_Env_cut 2 none :: vT
abbrev b_Meter_work : ByteArray := prog_6_method_4_code
abbrev y_Meter_work : MethodName := ⟨"FamilyKernel$Meter", "work", "()I"⟩
abbrev w_Meter_work : List Cond := .code y_Meter_work b_Meter_work 1 (some .int) :: vT
abbrev b_Ker_fault : ByteArray := prog_1_method_9_code
abbrev y_Ker_fault : MethodName := ⟨"FamilyKernel", "fault", "(I)I"⟩
abbrev w_Ker_fault : List Cond := .code y_Ker_fault b_Ker_fault 2 (some .int) :: vT
abbrev b_Meter_code : ByteArray := prog_6_method_5_code
abbrev y_Meter_code : MethodName := ⟨"FamilyKernel$Meter", "code", "()I"⟩
abbrev w_Meter_code : List Cond := .code y_Meter_code b_Meter_code 1 (some .int) :: vT
abbrev b_Meter_place : ByteArray := prog_6_method_6_code
abbrev y_Meter_place : MethodName := ⟨"FamilyKernel$Meter", "place", "()I"⟩
abbrev w_Meter_place : List Cond := .code y_Meter_place b_Meter_place 1 (some .int) :: vT
abbrev b_Ker_reset : ByteArray := prog_1_method_10_code
abbrev y_Ker_reset : MethodName := ⟨"FamilyKernel", "reset", "()I"⟩
abbrev w_Ker_reset : List Cond := .code y_Ker_reset b_Ker_reset 2 (some .int) :: vT
abbrev b_Env_clear : ByteArray := prog_2_method_5_code
abbrev y_Env_clear : MethodName := ⟨"FamilyKernel$Environment", "clear", "()V"⟩
abbrev w_Env_clear : List Cond := .code y_Env_clear b_Env_clear 1 none :: vT
abbrev b_Ker_count : ByteArray := prog_1_method_15_code
abbrev y_Ker_count : MethodName := ⟨"FamilyKernel", "count", "(I)I"⟩
abbrev w_Ker_count : List Cond := .code y_Ker_count b_Ker_count 2 (some .int) :: vT
abbrev b_Law_feed : ByteArray := method_3_code
abbrev y_Law_feed : MethodName := ⟨"FamilyKernelLaw", "feed", "(LFamilyKernel;IIIII[J)I"⟩
abbrev w_Law_feed : List Cond := .codeWith y_Law_feed b_Law_feed 8 (some .int) [(0, 16, 19, 13)] :: vT
abbrev b_Ker_feed : ByteArray := prog_1_method_2_code
abbrev y_Ker_feed : MethodName := ⟨"FamilyKernel", "feed", "(IIIII)I"⟩
abbrev w_Ker_feed : List Cond := .code y_Ker_feed b_Ker_feed 6 (some .int) :: vT
abbrev b_Ker_takeBytes : ByteArray := prog_1_method_3_code
abbrev y_Ker_takeBytes : MethodName := ⟨"FamilyKernel", "takeBytes", "(I)V"⟩
abbrev w_Ker_takeBytes : List Cond := .code y_Ker_takeBytes b_Ker_takeBytes 3 none :: vT
abbrev b_Law_end : ByteArray := method_4_code
abbrev y_Law_end : MethodName := ⟨"FamilyKernelLaw", "end", "(LFamilyKernel;I[J)I"⟩
abbrev w_Law_end : List Cond := .codeWith y_Law_end b_Law_end 4 (some .int) [(0, 9, 12, 19)] :: vT
abbrev b_Ker_end : ByteArray := prog_1_method_4_code
abbrev y_Ker_end : MethodName := ⟨"FamilyKernel", "end", "(I)I"⟩
abbrev w_Ker_end : List Cond := .code y_Ker_end b_Ker_end 2 (some .int) :: vT
abbrev b_Law_constant : ByteArray := method_5_code
abbrev y_Law_constant : MethodName := ⟨"FamilyKernelLaw", "constant", "(LFamilyKernel;II[J)I"⟩
abbrev w_Law_constant : List Cond := .codeWith y_Law_constant b_Law_constant 5 (some .int) [(0, 10, 13, 25), (0, 10, 17, 19)] :: vT
abbrev b_Ker_constant : ByteArray := prog_1_method_11_code
abbrev y_Ker_constant : MethodName := ⟨"FamilyKernel", "constant", "(II)I"⟩
abbrev w_Ker_constant : List Cond := .code y_Ker_constant b_Ker_constant 4 (some .int) :: vT
abbrev b_Law_show : ByteArray := method_6_code
abbrev y_Law_show : MethodName := ⟨"FamilyKernelLaw", "show", "(LFamilyKernel;II[J)I"⟩
abbrev w_Law_show : List Cond := .codeWith y_Law_show b_Law_show 5 (some .int) [(0, 10, 13, 25), (0, 10, 17, 19)] :: vT
abbrev b_Ker_show : ByteArray := prog_1_method_12_code
abbrev y_Ker_show : MethodName := ⟨"FamilyKernel", "show", "(II)I"⟩
abbrev w_Ker_show : List Cond := .code y_Ker_show b_Ker_show 3 (some .int) :: vT
abbrev b_Pri_printName : ByteArray := prog_8_method_2_code
abbrev y_Pri_printName : MethodName := ⟨"FamilyKernel$Printer", "printName", "(I)V"⟩
abbrev w_Pri_printName : List Cond := .code y_Pri_printName b_Pri_printName 2 none :: vT
abbrev b_Law_showRec : ByteArray := method_7_code
abbrev y_Law_showRec : MethodName := ⟨"FamilyKernelLaw", "showRec", "(LFamilyKernel;II[J)I"⟩
abbrev w_Law_showRec : List Cond := .codeWith y_Law_showRec b_Law_showRec 5 (some .int) [(0, 10, 13, 25)] :: vT
abbrev b_Ker_showRec : ByteArray := prog_1_method_13_code
abbrev y_Ker_showRec : MethodName := ⟨"FamilyKernel", "showRec", "(II)I"⟩
abbrev w_Ker_showRec : List Cond := .code y_Ker_showRec b_Ker_showRec 4 (some .int) :: vT
abbrev b_Law_out : ByteArray := method_8_code
abbrev y_Law_out : MethodName := ⟨"FamilyKernelLaw", "out", "(LFamilyKernel;I[J)I"⟩
abbrev w_Law_out : List Cond := .codeWith y_Law_out b_Law_out 4 (some .int) [(0, 9, 12, 36)] :: vT
abbrev b_Ker_out : ByteArray := prog_1_method_14_code
abbrev y_Ker_out : MethodName := ⟨"FamilyKernel", "out", "(I)I"⟩
abbrev w_Ker_out : List Cond := .code y_Ker_out b_Ker_out 2 (some .int) :: vT
abbrev b_Mod_init : ByteArray := prog_14_method_2_code
abbrev y_Mod_init : MethodName := ⟨"FamilyKernelModel", "<init>", "()V"⟩
abbrev w_Mod_init : List Cond := .code y_Mod_init b_Mod_init 1 none :: vT
abbrev b_Mod_thrown : ByteArray := prog_14_method_3_code
abbrev y_Mod_thrown : MethodName := ⟨"FamilyKernelModel", "thrown", "()I"⟩
abbrev w_Mod_thrown : List Cond := .code y_Mod_thrown b_Mod_thrown 1 (some .int) :: vT
abbrev b_Mod_feed : ByteArray := prog_14_method_5_code
abbrev y_Mod_feed : MethodName := ⟨"FamilyKernelModel", "feed", "(IIIII)I"⟩
abbrev w_Mod_feed : List Cond := .code y_Mod_feed b_Mod_feed 8 (some .int) :: vT
abbrev b_Mod_refuse : ByteArray := prog_14_method_4_code
abbrev y_Mod_refuse : MethodName := ⟨"FamilyKernelModel", "refuse", "(IZ)Z"⟩
abbrev w_Mod_refuse : List Cond := .code y_Mod_refuse b_Mod_refuse 3 (some .boolean) :: vT
abbrev b_Mod_end : ByteArray := prog_14_method_6_code
abbrev y_Mod_end : MethodName := ⟨"FamilyKernelModel", "end", "(I)I"⟩
abbrev w_Mod_end : List Cond := .code y_Mod_end b_Mod_end 2 (some .int) :: vT
abbrev b_Mod_read : ByteArray := prog_14_method_69_code
abbrev y_Mod_read : MethodName := ⟨"FamilyKernelModel", "read", "()I"⟩
abbrev w_Mod_read : List Cond := .codeWith y_Mod_read b_Mod_read 7 (some .int) [(49, 114, 117, 1)] :: vT
abbrev b_Mod_peek : ByteArray := prog_14_method_11_code
abbrev y_Mod_peek : MethodName := ⟨"FamilyKernelModel", "peek", "()I"⟩
abbrev w_Mod_peek : List Cond := .code y_Mod_peek b_Mod_peek 2 (some .int) :: vT
abbrev b_Mod_parts : ByteArray := prog_14_method_10_code
abbrev y_Mod_parts : MethodName := ⟨"FamilyKernelModel", "parts", "()V"⟩
abbrev w_Mod_parts : List Cond := .code y_Mod_parts b_Mod_parts 2 none :: vT
abbrev b_Mod_letter : ByteArray := prog_14_method_8_code
abbrev y_Mod_letter : MethodName := ⟨"FamilyKernelModel", "letter", "(I)Z"⟩
abbrev w_Mod_letter : List Cond := .code y_Mod_letter b_Mod_letter 1 (some .boolean) :: vT
abbrev b_Mod_digit : ByteArray := prog_14_method_7_code
abbrev y_Mod_digit : MethodName := ⟨"FamilyKernelModel", "digit", "(I)Z"⟩
abbrev w_Mod_digit : List Cond := .code y_Mod_digit b_Mod_digit 1 (some .boolean) :: vT
abbrev b_Mod_byteAt : ByteArray := prog_14_method_9_code
abbrev y_Mod_byteAt : MethodName := ⟨"FamilyKernelModel", "byteAt", "(I)I"⟩
abbrev w_Mod_byteAt : List Cond := .code y_Mod_byteAt b_Mod_byteAt 2 (some .int) :: vT
abbrev b_Mod_sign : ByteArray := prog_14_method_12_code
abbrev y_Mod_sign : MethodName := ⟨"FamilyKernelModel", "sign", "(II)I"⟩
abbrev w_Mod_sign : List Cond := .code y_Mod_sign b_Mod_sign 2 (some .int) :: vT
abbrev b_Mod_declaration : ByteArray := prog_14_method_70_code
abbrev y_Mod_declaration : MethodName := ⟨"FamilyKernelModel", "declaration", "()V"⟩
abbrev w_Mod_declaration : List Cond := .code y_Mod_declaration b_Mod_declaration 1 none :: vT
abbrev b_Mod_is : ByteArray := prog_14_method_16_code
abbrev y_Mod_is : MethodName := ⟨"FamilyKernelModel", "is", "(Ljava/lang/String;)Z"⟩
abbrev w_Mod_is : List Cond := .code y_Mod_is b_Mod_is 3 (some .boolean) :: vT
abbrev b_Mod_stated : ByteArray := prog_14_method_72_code
abbrev y_Mod_stated : MethodName := ⟨"FamilyKernelModel", "stated", "(I)V"⟩
abbrev w_Mod_stated : List Cond := .code y_Mod_stated b_Mod_stated 5 none :: vT
abbrev b_Mod_take : ByteArray := prog_14_method_13_code
abbrev y_Mod_take : MethodName := ⟨"FamilyKernelModel", "take", "()V"⟩
abbrev w_Mod_take : List Cond := .code y_Mod_take b_Mod_take 1 none :: vT
abbrev b_Mod_newName : ByteArray := prog_14_method_41_code
abbrev y_Mod_newName : MethodName := ⟨"FamilyKernelModel", "newName", "()V"⟩
abbrev w_Mod_newName : List Cond := .code y_Mod_newName b_Mod_newName 2 none :: vT
abbrev b_Mod_reserved : ByteArray := prog_14_method_18_code
abbrev y_Mod_reserved : MethodName := ⟨"FamilyKernelModel", "reserved", "()Z"⟩
abbrev w_Mod_reserved : List Cond := .code y_Mod_reserved b_Mod_reserved 1 (some .boolean) :: vT
abbrev b_Mod_cant : ByteArray := prog_14_method_14_code
abbrev y_Mod_cant : MethodName := ⟨"FamilyKernelModel", "cant", "()LFamilyKernelModel$Wrong;"⟩
abbrev w_Mod_cant : List Cond := .code y_Mod_cant b_Mod_cant 1 (some (.object "FamilyKernelModel$Wrong")) :: vT
abbrev b_Wro_init : ByteArray := prog_15_method_1_code
abbrev y_Wro_init : MethodName := ⟨"FamilyKernelModel$Wrong", "<init>", "(II)V"⟩
abbrev w_Wro_init : List Cond := .code y_Wro_init b_Wro_init 3 none :: vT
abbrev b_Mod_constant_1 : ByteArray := prog_14_method_39_code
abbrev y_Mod_constant_1 : MethodName := ⟨"FamilyKernelModel", "constant", "(I)I"⟩
abbrev w_Mod_constant_1 : List Cond := .code y_Mod_constant_1 b_Mod_constant_1 3 (some .int) :: vT
abbrev b_Mod_spelled : ByteArray := prog_14_method_37_code
abbrev y_Mod_spelled : MethodName := ⟨"FamilyKernelModel", "spelled", "(II[B)Z"⟩
abbrev w_Mod_spelled : List Cond := .code y_Mod_spelled b_Mod_spelled 5 (some .boolean) :: vT
abbrev b_Mod_fails : ByteArray := prog_14_method_1_code
abbrev y_Mod_fails : MethodName := ⟨"FamilyKernelModel", "fails", "(I)LFamilyKernelModel$Wrong;"⟩
abbrev w_Mod_fails : List Cond := .code y_Mod_fails b_Mod_fails 1 (some (.object "FamilyKernelModel$Wrong")) :: vT
abbrev b_Mod_must : ByteArray := prog_14_method_15_code
abbrev y_Mod_must : MethodName := ⟨"FamilyKernelModel", "must", "(I)V"⟩
abbrev w_Mod_must : List Cond := .code y_Mod_must b_Mod_must 2 none :: vT
abbrev b_Mod_term : ByteArray := prog_14_method_42_code
abbrev y_Mod_term : MethodName := ⟨"FamilyKernelModel", "term", "(I)I"⟩
abbrev w_Mod_term : List Cond := .code y_Mod_term b_Mod_term 4 (some .int) :: vT
abbrev b_Mod_binding : ByteArray := prog_14_method_44_code
abbrev y_Mod_binding : MethodName := ⟨"FamilyKernelModel", "binding", "(II)I"⟩
abbrev w_Mod_binding : List Cond := .code y_Mod_binding b_Mod_binding 7 (some .int) :: vT
abbrev b_Mod_binders : ByteArray := prog_14_method_43_code
abbrev y_Mod_binders : MethodName := ⟨"FamilyKernelModel", "binders", "(I)I"⟩
abbrev w_Mod_binders : List Cond := .code y_Mod_binders b_Mod_binders 9 (some .int) :: vT
abbrev b_Mod_nest : ByteArray := prog_14_method_19_code
abbrev y_Mod_nest : MethodName := ⟨"FamilyKernelModel", "nest", "(I)I"⟩
abbrev w_Mod_nest : List Cond := .code y_Mod_nest b_Mod_nest 2 (some .int) :: vT
abbrev b_Mod_bindName : ByteArray := prog_14_method_40_code
abbrev y_Mod_bindName : MethodName := ⟨"FamilyKernelModel", "bindName", "(II)V"⟩
abbrev w_Mod_bindName : List Cond := .code y_Mod_bindName b_Mod_bindName 3 none :: vT
abbrev b_Mod_node : ByteArray := prog_14_method_20_code
abbrev y_Mod_node : MethodName := ⟨"FamilyKernelModel", "node", "(IIII)I"⟩
abbrev w_Mod_node : List Cond := .code y_Mod_node b_Mod_node 6 (some .int) :: vT
abbrev b_Mod_fits : ByteArray := prog_14_method_24_code
abbrev y_Mod_fits : MethodName := ⟨"FamilyKernelModel", "fits", "(I)I"⟩
abbrev w_Mod_fits : List Cond := .code y_Mod_fits b_Mod_fits 2 (some .int) :: vT
abbrev b_Mod_letting : ByteArray := prog_14_method_45_code
abbrev y_Mod_letting : MethodName := ⟨"FamilyKernelModel", "letting", "(I)I"⟩
abbrev w_Mod_letting : List Cond := .code y_Mod_letting b_Mod_letting 7 (some .int) :: vT
abbrev b_Mod_mustBe : ByteArray := prog_14_method_17_code
abbrev y_Mod_mustBe : MethodName := ⟨"FamilyKernelModel", "mustBe", "(Ljava/lang/String;)V"⟩
abbrev w_Mod_mustBe : List Cond := .code y_Mod_mustBe b_Mod_mustBe 2 none :: vT
abbrev b_Mod_applied : ByteArray := prog_14_method_47_code
abbrev y_Mod_applied : MethodName := ⟨"FamilyKernelModel", "applied", "(I)I"⟩
abbrev w_Mod_applied : List Cond := .code y_Mod_applied b_Mod_applied 3 (some .int) :: vT
abbrev b_Mod_atom : ByteArray := prog_14_method_48_code
abbrev y_Mod_atom : MethodName := ⟨"FamilyKernelModel", "atom", "(I)I"⟩
abbrev w_Mod_atom : List Cond := .code y_Mod_atom b_Mod_atom 3 (some .int) :: vT
abbrev b_Mod_sortHere : ByteArray := prog_14_method_49_code
abbrev y_Mod_sortHere : MethodName := ⟨"FamilyKernelModel", "sortHere", "()I"⟩
abbrev w_Mod_sortHere : List Cond := .code y_Mod_sortHere b_Mod_sortHere 3 (some .int) :: vT
abbrev b_Mod_sort : ByteArray := prog_14_method_21_code
abbrev y_Mod_sort : MethodName := ⟨"FamilyKernelModel", "sort", "(I)I"⟩
abbrev w_Mod_sort : List Cond := .code y_Mod_sort b_Mod_sort 2 (some .int) :: vT
abbrev b_Mod_constant_0 : ByteArray := prog_14_method_38_code
abbrev y_Mod_constant_0 : MethodName := ⟨"FamilyKernelModel", "constant", "()I"⟩
abbrev w_Mod_constant_0 : List Cond := .code y_Mod_constant_0 b_Mod_constant_0 1 (some .int) :: vT
abbrev b_Mod_atomHere : ByteArray := prog_14_method_46_code
abbrev y_Mod_atomHere : MethodName := ⟨"FamilyKernelModel", "atomHere", "()Z"⟩
abbrev w_Mod_atomHere : List Cond := .code y_Mod_atomHere b_Mod_atomHere 1 (some .boolean) :: vT
abbrev b_Mod_apply : ByteArray := prog_14_method_22_code
abbrev y_Mod_apply : MethodName := ⟨"FamilyKernelModel", "apply", "(II)I"⟩
abbrev w_Mod_apply : List Cond := .code y_Mod_apply b_Mod_apply 3 (some .int) :: vT
abbrev b_Mod_together : ByteArray := prog_14_method_73_code
abbrev y_Mod_together : MethodName := ⟨"FamilyKernelModel", "together", "(I)V"⟩
abbrev w_Mod_together : List Cond := .code y_Mod_together b_Mod_together 2 none :: vT
abbrev b_Mod_alone : ByteArray := prog_14_method_71_code
abbrev y_Mod_alone : MethodName := ⟨"FamilyKernelModel", "alone", "(I)I"⟩
abbrev w_Mod_alone : List Cond := .code y_Mod_alone b_Mod_alone 2 (some .int) :: vT
abbrev b_Mod_whole : ByteArray := prog_14_method_29_code
abbrev y_Mod_whole : MethodName := ⟨"FamilyKernelModel", "whole", "(III)I"⟩
abbrev w_Mod_whole : List Cond := .code y_Mod_whole b_Mod_whole 4 (some .int) :: vT
abbrev b_Mod_mapped : ByteArray := prog_14_method_28_code
abbrev y_Mod_mapped : MethodName := ⟨"FamilyKernelModel", "mapped", "(IIIII)I"⟩
abbrev w_Mod_mapped : List Cond := .code y_Mod_mapped b_Mod_mapped 6 (some .int) :: vT
abbrev b_Mod_map : ByteArray := prog_14_method_26_code
abbrev y_Mod_map : MethodName := ⟨"FamilyKernelModel", "map", "(II)I"⟩
abbrev w_Mod_map : List Cond := .code y_Mod_map b_Mod_map 9 (some .int) :: vT
abbrev b_Mod_leaf : ByteArray := prog_14_method_27_code
abbrev y_Mod_leaf : MethodName := ⟨"FamilyKernelModel", "leaf", "(II)I"⟩
abbrev w_Mod_leaf : List Cond := .code y_Mod_leaf b_Mod_leaf 4 (some .int) :: vT
abbrev b_Mod_free : ByteArray := prog_14_method_23_code
abbrev y_Mod_free : MethodName := ⟨"FamilyKernelModel", "free", "(I)I"⟩
abbrev w_Mod_free : List Cond := .code y_Mod_free b_Mod_free 2 (some .int) :: vT
abbrev b_Mod_sortOf : ByteArray := prog_14_method_66_code
abbrev y_Mod_sortOf : MethodName := ⟨"FamilyKernelModel", "sortOf", "(II)I"⟩
abbrev w_Mod_sortOf : List Cond := .code y_Mod_sortOf b_Mod_sortOf 4 (some .int) :: vT
abbrev b_Mod_infer : ByteArray := prog_14_method_64_code
abbrev y_Mod_infer : MethodName := ⟨"FamilyKernelModel", "infer", "(II)I"⟩
abbrev w_Mod_infer : List Cond := .code y_Mod_infer b_Mod_infer 8 (some .int) :: vT
abbrev b_Mod_leveled : ByteArray := prog_14_method_33_code
abbrev y_Mod_leveled : MethodName := ⟨"FamilyKernelModel", "leveled", "(II)I"⟩
abbrev w_Mod_leveled : List Cond := .code y_Mod_leveled b_Mod_leveled 3 (some .int) :: vT
abbrev b_Mod_costs : ByteArray := prog_14_method_50_code
abbrev y_Mod_costs : MethodName := ⟨"FamilyKernelModel", "costs", "(I)V"⟩
abbrev w_Mod_costs : List Cond := .code y_Mod_costs b_Mod_costs 2 none :: vT
abbrev b_Mod_fresh : ByteArray := prog_14_method_51_code
abbrev y_Mod_fresh : MethodName := ⟨"FamilyKernelModel", "fresh", "(I)I"⟩
abbrev w_Mod_fresh : List Cond := .code y_Mod_fresh b_Mod_fresh 2 (some .int) :: vT
abbrev b_Mod_open : ByteArray := prog_14_method_53_code
abbrev y_Mod_open : MethodName := ⟨"FamilyKernelModel", "open", "(II)I"⟩
abbrev w_Mod_open : List Cond := .code y_Mod_open b_Mod_open 4 (some .int) :: vT
abbrev b_Mod_opened : ByteArray := prog_14_method_52_code
abbrev y_Mod_opened : MethodName := ⟨"FamilyKernelModel", "opened", "(II)I"⟩
abbrev w_Mod_opened : List Cond := .code y_Mod_opened b_Mod_opened 3 (some .int) :: vT
abbrev b_Mod_sizeWith : ByteArray := prog_14_method_34_code
abbrev y_Mod_sizeWith : MethodName := ⟨"FamilyKernelModel", "sizeWith", "(III)I"⟩
abbrev w_Mod_sizeWith : List Cond := .code y_Mod_sizeWith b_Mod_sizeWith 6 (some .int) :: vT
abbrev b_Mod_put : ByteArray := prog_14_method_30_code
abbrev y_Mod_put : MethodName := ⟨"FamilyKernelModel", "put", "(II)I"⟩
abbrev w_Mod_put : List Cond := .code y_Mod_put b_Mod_put 3 (some .int) :: vT
abbrev b_Mod_close : ByteArray := prog_14_method_54_code
abbrev y_Mod_close : MethodName := ⟨"FamilyKernelModel", "close", "(II)I"⟩
abbrev w_Mod_close : List Cond := .code y_Mod_close b_Mod_close 4 (some .int) :: vT
abbrev b_Mod_back : ByteArray := prog_14_method_31_code
abbrev y_Mod_back : MethodName := ⟨"FamilyKernelModel", "back", "(II)I"⟩
abbrev w_Mod_back : List Cond := .code y_Mod_back b_Mod_back 3 (some .int) :: vT
abbrev b_Mod_check : ByteArray := prog_14_method_67_code
abbrev y_Mod_check : MethodName := ⟨"FamilyKernelModel", "check", "(III)V"⟩
abbrev w_Mod_check : List Cond := .code y_Mod_check b_Mod_check 4 none :: vT
abbrev b_Mod_conv : ByteArray := prog_14_method_62_code
abbrev y_Mod_conv : MethodName := ⟨"FamilyKernelModel", "conv", "(III)Z"⟩
abbrev w_Mod_conv : List Cond := .code y_Mod_conv b_Mod_conv 10 (some .boolean) :: vT
abbrev b_Mod_same : ByteArray := prog_14_method_25_code
abbrev y_Mod_same : MethodName := ⟨"FamilyKernelModel", "same", "(II)Z"⟩
abbrev w_Mod_same : List Cond := .code y_Mod_same b_Mod_same 5 (some .boolean) :: vT
abbrev b_Mod_whnf : ByteArray := prog_14_method_59_code
abbrev y_Mod_whnf : MethodName := ⟨"FamilyKernelModel", "whnf", "(I)I"⟩
abbrev w_Mod_whnf : List Cond := .code y_Mod_whnf b_Mod_whnf 4 (some .int) :: vT
abbrev b_Mod_step : ByteArray := prog_14_method_60_code
abbrev y_Mod_step : MethodName := ⟨"FamilyKernelModel", "step", "(I)I"⟩
abbrev w_Mod_step : List Cond := .code y_Mod_step b_Mod_step 4 (some .int) :: vT
abbrev b_Mod_head : ByteArray := prog_14_method_55_code
abbrev y_Mod_head : MethodName := ⟨"FamilyKernelModel", "head", "(I)I"⟩
abbrev w_Mod_head : List Cond := .code y_Mod_head b_Mod_head 3 (some .int) :: vT
abbrev b_Mod_behind : ByteArray := prog_14_method_56_code
abbrev y_Mod_behind : MethodName := ⟨"FamilyKernelModel", "behind", "(I)I"⟩
abbrev w_Mod_behind : List Cond := .code y_Mod_behind b_Mod_behind 4 (some .int) :: vT
abbrev b_Mod_nth : ByteArray := prog_14_method_57_code
abbrev y_Mod_nth : MethodName := ⟨"FamilyKernelModel", "nth", "(III)I"⟩
abbrev w_Mod_nth : List Cond := .code y_Mod_nth b_Mod_nth 6 (some .int) :: vT
abbrev b_Mod_with : ByteArray := prog_14_method_58_code
abbrev y_Mod_with : MethodName := ⟨"FamilyKernelModel", "with", "(IIII)I"⟩
abbrev w_Mod_with : List Cond := .code y_Mod_with b_Mod_with 7 (some .int) :: vT
abbrev b_Mod_recursion : ByteArray := prog_14_method_61_code
abbrev y_Mod_recursion : MethodName := ⟨"FamilyKernelModel", "recursion", "(III)I"⟩
abbrev w_Mod_recursion : List Cond := .code y_Mod_recursion b_Mod_recursion 12 (some .int) :: vT
abbrev b_Mod_alike : ByteArray := prog_14_method_63_code
abbrev y_Mod_alike : MethodName := ⟨"FamilyKernelModel", "alike", "(III)Z"⟩
abbrev w_Mod_alike : List Cond := .code y_Mod_alike b_Mod_alike 8 (some .boolean) :: vT
abbrev b_Mod_inferApplied : ByteArray := prog_14_method_65_code
abbrev y_Mod_inferApplied : MethodName := ⟨"FamilyKernelModel", "inferApplied", "(II)I"⟩
abbrev w_Mod_inferApplied : List Cond := .code y_Mod_inferApplied b_Mod_inferApplied 8 (some .int) :: vT
abbrev b_Mod_room : ByteArray := prog_14_method_74_code
abbrev y_Mod_room : MethodName := ⟨"FamilyKernelModel", "room", "(I)V"⟩
abbrev w_Mod_room : List Cond := .code y_Mod_room b_Mod_room 2 none :: vT
abbrev b_Mod_keep : ByteArray := prog_14_method_75_code
abbrev y_Mod_keep : MethodName := ⟨"FamilyKernelModel", "keep", "(I)I"⟩
abbrev w_Mod_keep : List Cond := .code y_Mod_keep b_Mod_keep 4 (some .int) :: vT
abbrev b_Mod_inductive : ByteArray := prog_14_method_78_code
abbrev y_Mod_inductive : MethodName := ⟨"FamilyKernelModel", "inductive", "()V"⟩
abbrev w_Mod_inductive : List Cond := .code y_Mod_inductive b_Mod_inductive 11 none :: vT
abbrev b_Mod_telescope : ByteArray := prog_14_method_79_code
abbrev y_Mod_telescope : MethodName := ⟨"FamilyKernelModel", "telescope", "(II)I"⟩
abbrev w_Mod_telescope : List Cond := .code y_Mod_telescope b_Mod_telescope 5 (some .int) :: vT
abbrev b_Mod_constructor : ByteArray := prog_14_method_81_code
abbrev y_Mod_constructor : MethodName := ⟨"FamilyKernelModel", "constructor", "(IIIIII)V"⟩
abbrev w_Mod_constructor : List Cond := .code y_Mod_constructor b_Mod_constructor 13 none :: vT
abbrev b_Mod_has : ByteArray := prog_14_method_35_code
abbrev y_Mod_has : MethodName := ⟨"FamilyKernelModel", "has", "(II)Z"⟩
abbrev w_Mod_has : List Cond := .code y_Mod_has b_Mod_has 4 (some .boolean) :: vT
abbrev b_Mod_isFamily : ByteArray := prog_14_method_80_code
abbrev y_Mod_isFamily : MethodName := ⟨"FamilyKernelModel", "isFamily", "(IIII)Z"⟩
abbrev w_Mod_isFamily : List Cond := .code y_Mod_isFamily b_Mod_isFamily 8 (some .boolean) :: vT
abbrev b_Mod_small : ByteArray := prog_14_method_82_code
abbrev y_Mod_small : MethodName := ⟨"FamilyKernelModel", "small", "(II)Z"⟩
abbrev w_Mod_small : List Cond := .code y_Mod_small b_Mod_small 8 (some .boolean) :: vT
abbrev b_Mod_made : ByteArray := prog_14_method_85_code
abbrev y_Mod_made : MethodName := ⟨"FamilyKernelModel", "made", "(IIIIII)V"⟩
abbrev w_Mod_made : List Cond := .code y_Mod_made b_Mod_made 16 none :: vT
abbrev b_Mod_of : ByteArray := prog_14_method_84_code
abbrev y_Mod_of : MethodName := ⟨"FamilyKernelModel", "of", "(III)I"⟩
abbrev w_Mod_of : List Cond := .code y_Mod_of b_Mod_of 6 (some .int) :: vT
abbrev b_Mod_chain : ByteArray := prog_14_method_83_code
abbrev y_Mod_chain : MethodName := ⟨"FamilyKernelModel", "chain", "(III)I"⟩
abbrev w_Mod_chain : List Cond := .code y_Mod_chain b_Mod_chain 6 (some .int) :: vT
abbrev b_Mod_under : ByteArray := prog_14_method_32_code
abbrev y_Mod_under : MethodName := ⟨"FamilyKernelModel", "under", "(III)I"⟩
abbrev w_Mod_under : List Cond := .code y_Mod_under b_Mod_under 4 (some .int) :: vT
abbrev b_Mod_minor : ByteArray := prog_14_method_89_code
abbrev y_Mod_minor : MethodName := ⟨"FamilyKernelModel", "minor", "(IIIII)I"⟩
abbrev w_Mod_minor : List Cond := .code y_Mod_minor b_Mod_minor 13 (some .int) :: vT
abbrev b_Mod_ended : ByteArray := prog_14_method_87_code
abbrev y_Mod_ended : MethodName := ⟨"FamilyKernelModel", "ended", "(I)I"⟩
abbrev w_Mod_ended : List Cond := .code y_Mod_ended b_Mod_ended 4 (some .int) :: vT
abbrev b_Mod_applied2 : ByteArray := prog_14_method_88_code
abbrev y_Mod_applied2 : MethodName := ⟨"FamilyKernelModel", "applied2", "(I)I"⟩
abbrev w_Mod_applied2 : List Cond := .code y_Mod_applied2 b_Mod_applied2 4 (some .int) :: vT
abbrev b_Mod_heads : ByteArray := prog_14_method_86_code
abbrev y_Mod_heads : MethodName := ⟨"FamilyKernelModel", "heads", "(III)V"⟩
abbrev w_Mod_heads : List Cond := .code y_Mod_heads b_Mod_heads 5 none :: vT
abbrev b_Mod_ruleOf : ByteArray := prog_14_method_90_code
abbrev y_Mod_ruleOf : MethodName := ⟨"FamilyKernelModel", "ruleOf", "(IIIIII)I"⟩
abbrev w_Mod_ruleOf : List Cond := .code y_Mod_ruleOf b_Mod_ruleOf 15 (some .int) :: vT
abbrev b_Mod_checked : ByteArray := prog_14_method_76_code
abbrev y_Mod_checked : MethodName := ⟨"FamilyKernelModel", "checked", "()V"⟩
abbrev w_Mod_checked : List Cond := .code y_Mod_checked b_Mod_checked 3 none :: vT
abbrev b_Mod_evaluated : ByteArray := prog_14_method_77_code
abbrev y_Mod_evaluated : MethodName := ⟨"FamilyKernelModel", "evaluated", "()V"⟩
abbrev w_Mod_evaluated : List Cond := .code y_Mod_evaluated b_Mod_evaluated 3 none :: vT
abbrev b_Mod_normal : ByteArray := prog_14_method_68_code
abbrev y_Mod_normal : MethodName := ⟨"FamilyKernelModel", "normal", "(II)I"⟩
abbrev w_Mod_normal : List Cond := .code y_Mod_normal b_Mod_normal 7 (some .int) :: vT
abbrev b_Mod_say_1 : ByteArray := prog_14_method_102_code
abbrev y_Mod_say_1 : MethodName := ⟨"FamilyKernelModel", "say", "(II)V"⟩
abbrev w_Mod_say_1 : List Cond := .code y_Mod_say_1 b_Mod_say_1 7 none :: vT
abbrev b_Mod_saySort : ByteArray := prog_14_method_99_code
abbrev y_Mod_saySort : MethodName := ⟨"FamilyKernelModel", "saySort", "(I)V"⟩
abbrev w_Mod_saySort : List Cond := .code y_Mod_saySort b_Mod_saySort 2 none :: vT
abbrev b_Mod_say_2 : ByteArray := prog_14_method_96_code
abbrev y_Mod_say_2 : MethodName := ⟨"FamilyKernelModel", "say", "(Ljava/lang/String;)V"⟩
abbrev w_Mod_say_2 : List Cond := .code y_Mod_say_2 b_Mod_say_2 3 none :: vT
abbrev b_Mod_say_0 : ByteArray := prog_14_method_95_code
abbrev y_Mod_say_0 : MethodName := ⟨"FamilyKernelModel", "say", "(I)V"⟩
abbrev w_Mod_say_0 : List Cond := .code y_Mod_say_0 b_Mod_say_0 2 none :: vT
abbrev b_Mod_sayNumber : ByteArray := prog_14_method_97_code
abbrev y_Mod_sayNumber : MethodName := ⟨"FamilyKernelModel", "sayNumber", "(I)V"⟩
abbrev w_Mod_sayNumber : List Cond := .code y_Mod_sayNumber b_Mod_sayNumber 2 none :: vT
abbrev b_Mod_sayName : ByteArray := prog_14_method_98_code
abbrev y_Mod_sayName : MethodName := ⟨"FamilyKernelModel", "sayName", "(I)V"⟩
abbrev w_Mod_sayName : List Cond := .code y_Mod_sayName b_Mod_sayName 3 none :: vT
abbrev b_Mod_binds : ByteArray := prog_14_method_101_code
abbrev y_Mod_binds : MethodName := ⟨"FamilyKernelModel", "binds", "(I)Z"⟩
abbrev w_Mod_binds : List Cond := .code y_Mod_binds b_Mod_binds 2 (some .boolean) :: vT
abbrev b_Mod_sayIn : ByteArray := prog_14_method_100_code
abbrev y_Mod_sayIn : MethodName := ⟨"FamilyKernelModel", "sayIn", "(IIZ)V"⟩
abbrev w_Mod_sayIn : List Cond := .code y_Mod_sayIn b_Mod_sayIn 4 none :: vT
abbrev b_Mod_bound : ByteArray := prog_14_method_36_code
abbrev y_Mod_bound : MethodName := ⟨"FamilyKernelModel", "bound", "(II)Z"⟩
abbrev w_Mod_bound : List Cond := .code y_Mod_bound b_Mod_bound 4 (some .boolean) :: vT
abbrev b_Mod_sayBinder : ByteArray := prog_14_method_103_code
abbrev y_Mod_sayBinder : MethodName := ⟨"FamilyKernelModel", "sayBinder", "(Ljava/lang/String;II)V"⟩
abbrev w_Mod_sayBinder : List Cond := .code y_Mod_sayBinder b_Mod_sayBinder 4 none :: vT
abbrev b_Mod_fault : ByteArray := prog_14_method_91_code
abbrev y_Mod_fault : MethodName := ⟨"FamilyKernelModel", "fault", "(I)I"⟩
abbrev w_Mod_fault : List Cond := .code y_Mod_fault b_Mod_fault 2 (some .int) :: vT
abbrev b_Mod_reset : ByteArray := prog_14_method_92_code
abbrev y_Mod_reset : MethodName := ⟨"FamilyKernelModel", "reset", "()I"⟩
abbrev w_Mod_reset : List Cond := .code y_Mod_reset b_Mod_reset 2 (some .int) :: vT
abbrev b_Mod_constant_2 : ByteArray := prog_14_method_94_code
abbrev y_Mod_constant_2 : MethodName := ⟨"FamilyKernelModel", "constant", "(II)I"⟩
abbrev w_Mod_constant_2 : List Cond := .code y_Mod_constant_2 b_Mod_constant_2 4 (some .int) :: vT
abbrev b_Mod_none : ByteArray := prog_14_method_93_code
abbrev y_Mod_none : MethodName := ⟨"FamilyKernelModel", "none", "(I)Z"⟩
abbrev w_Mod_none : List Cond := .code y_Mod_none b_Mod_none 2 (some .boolean) :: vT
abbrev b_Mod_show : ByteArray := prog_14_method_104_code
abbrev y_Mod_show : MethodName := ⟨"FamilyKernelModel", "show", "(II)I"⟩
abbrev w_Mod_show : List Cond := .code y_Mod_show b_Mod_show 3 (some .int) :: vT
abbrev b_Mod_showRec : ByteArray := prog_14_method_105_code
abbrev y_Mod_showRec : MethodName := ⟨"FamilyKernelModel", "showRec", "(II)I"⟩
abbrev w_Mod_showRec : List Cond := .code y_Mod_showRec b_Mod_showRec 4 (some .int) :: vT
abbrev b_Mod_out : ByteArray := prog_14_method_106_code
abbrev y_Mod_out : MethodName := ⟨"FamilyKernelModel", "out", "(I)I"⟩
abbrev w_Mod_out : List Cond := .code y_Mod_out b_Mod_out 2 (some .int) :: vT
abbrev b_Mod_count : ByteArray := prog_14_method_107_code
abbrev y_Mod_count : MethodName := ⟨"FamilyKernelModel", "count", "(I)I"⟩
abbrev w_Mod_count : List Cond := .code y_Mod_count b_Mod_count 2 (some .int) :: vT
