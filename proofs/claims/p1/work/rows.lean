section
def TX12 : u_T := fun k => match k with
  | 0 => ("LoanHouse", "text", "[B", true)
  | 1 => ("LoanHouse", "textLength", "I", false)
  | 2 => ("LoanHouse", "given", "[J", true)
  | 3 => ("LoanHouse", "givenTotal", "I", false)
  | 4 => ("LoanHouse", "tree", "LLoanHouse$Tree;", true)
  | 5 => ("LoanHouse", "reader", "LLoanHouse$Reader;", true)
  | 6 => ("LoanHouse", "checker", "LLoanHouse$Checker;", true)
  | 7 => ("LoanHouse", "emitter", "LLoanHouse$Emitter;", true)
  | 8 => ("LoanHouse", "ways", "LLoanHouse$Ways;", true)
  | 9 => ("LoanHouse", "machine", "LLoanHouse$Machine;", true)
  | 10 => ("LoanHouse", "program", "LLoanHouse$Program;", false)
  | 11 => ("LoanHouse", "next", "LLoanHouse$Program;", false)
  | 12 => ("LoanHouse", "hasProgram", "Z", false)
  | 13 => ("LoanHouse", "hasRun", "Z", false)
  | 14 => ("LoanHouse", "faultKind", "I", false)
  | 15 => ("LoanHouse", "faultPlace", "I", false)
  | _ => ("LoanHouse", "faultOther", "I", false)
def tyX12 : Nat → FieldType := fun k => match k with
  | 0 => .array .byte
  | 1 => .int
  | 2 => .array .long
  | 3 => .int
  | 4 => .object "LoanHouse$Tree"
  | 5 => .object "LoanHouse$Reader"
  | 6 => .object "LoanHouse$Checker"
  | 7 => .object "LoanHouse$Emitter"
  | 8 => .object "LoanHouse$Ways"
  | 9 => .object "LoanHouse$Machine"
  | 10 => .object "LoanHouse$Program"
  | 11 => .object "LoanHouse$Program"
  | 12 => .boolean
  | 13 => .boolean
  | 14 => .int
  | 15 => .int
  | _ => .int
abbrev wsX120 : List Cond := u_ws "LoanHouse" TX12 17
theorem nmX12 : ∀ a, a < 17 → ∀ b, b < 17 → a ≠ b → (TX12 a).2.1 ≠ (TX12 b).2.1 := by decide +kernel
theorem tyX12_ok : ∀ k, k < 17 → parseFieldDescriptor (TX12 k).2.2.1 = some (tyX12 k) := by decide +kernel
def TX8 : u_T := fun k => match k with
  | 0 => ("LoanHouse$Tree", "kind", "[I", true)
  | 1 => ("LoanHouse$Tree", "pos", "[I", true)
  | 2 => ("LoanHouse$Tree", "from", "[I", true)
  | 3 => ("LoanHouse$Tree", "name", "[I", true)
  | 4 => ("LoanHouse$Tree", "a", "[I", true)
  | 5 => ("LoanHouse$Tree", "b", "[I", true)
  | 6 => ("LoanHouse$Tree", "c", "[I", true)
  | 7 => ("LoanHouse$Tree", "next", "[I", true)
  | 8 => ("LoanHouse$Tree", "value", "[J", true)
  | 9 => ("LoanHouse$Tree", "type", "[I", true)
  | 10 => ("LoanHouse$Tree", "ref", "[I", true)
  | _ => ("LoanHouse$Tree", "total", "I", false)
def tyX8 : Nat → FieldType := fun k => match k with
  | 0 => .array .int
  | 1 => .array .int
  | 2 => .array .int
  | 3 => .array .int
  | 4 => .array .int
  | 5 => .array .int
  | 6 => .array .int
  | 7 => .array .int
  | 8 => .array .long
  | 9 => .array .int
  | 10 => .array .int
  | _ => .int
abbrev wsX80 : List Cond := u_ws "LoanHouse$Tree" TX8 12
theorem nmX8 : ∀ a, a < 12 → ∀ b, b < 12 → a ≠ b → (TX8 a).2.1 ≠ (TX8 b).2.1 := by decide +kernel
theorem tyX8_ok : ∀ k, k < 12 → parseFieldDescriptor (TX8 k).2.2.1 = some (tyX8 k) := by decide +kernel
def TX6 : u_T := fun k => match k with
  | 0 => ("LoanHouse$Reader", "tree", "LLoanHouse$Tree;", true)
  | 1 => ("LoanHouse$Reader", "pool", "[B", true)
  | 2 => ("LoanHouse$Reader", "nameStart", "[I", true)
  | 3 => ("LoanHouse$Reader", "nameLength", "[I", true)
  | 4 => ("LoanHouse$Reader", "nameNext", "[I", true)
  | 5 => ("LoanHouse$Reader", "heads", "[I", true)
  | 6 => ("LoanHouse$Reader", "names", "I", false)
  | 7 => ("LoanHouse$Reader", "at", "I", false)
  | 8 => ("LoanHouse$Reader", "end", "I", false)
  | 9 => ("LoanHouse$Reader", "tokenKind", "[I", true)
  | 10 => ("LoanHouse$Reader", "tokenPos", "[I", true)
  | 11 => ("LoanHouse$Reader", "tokenValue", "[J", true)
  | 12 => ("LoanHouse$Reader", "tokens", "I", false)
  | 13 => ("LoanHouse$Reader", "current", "I", false)
  | 14 => ("LoanHouse$Reader", "kind", "I", false)
  | 15 => ("LoanHouse$Reader", "pos", "I", false)
  | 16 => ("LoanHouse$Reader", "open", "I", false)
  | _ => ("LoanHouse$Reader", "wrong", "I", false)
def tyX6 : Nat → FieldType := fun k => match k with
  | 0 => .object "LoanHouse$Tree"
  | 1 => .array .byte
  | 2 => .array .int
  | 3 => .array .int
  | 4 => .array .int
  | 5 => .array .int
  | 6 => .int
  | 7 => .int
  | 8 => .int
  | 9 => .array .int
  | 10 => .array .int
  | 11 => .array .long
  | 12 => .int
  | 13 => .int
  | 14 => .int
  | 15 => .int
  | 16 => .int
  | _ => .int
abbrev wsX60 : List Cond := u_ws "LoanHouse$Reader" TX6 18
theorem nmX6 : ∀ a, a < 18 → ∀ b, b < 18 → a ≠ b → (TX6 a).2.1 ≠ (TX6 b).2.1 := by decide +kernel
theorem tyX6_ok : ∀ k, k < 18 → parseFieldDescriptor (TX6 k).2.2.1 = some (tyX6 k) := by decide +kernel
def TX0 : u_T := fun k => match k with
  | 0 => ("LoanHouse$Checker", "tree", "LLoanHouse$Tree;", true)
  | 1 => ("LoanHouse$Checker", "types", "LLoanHouse$Types;", false)
  | 2 => ("LoanHouse$Checker", "functions", "LLoanHouse$Functions;", false)
  | 3 => ("LoanHouse$Checker", "variables", "LLoanHouse$Variables;", false)
  | 4 => ("LoanHouse$Checker", "places", "LLoanHouse$Places;", false)
  | 5 => ("LoanHouse$Checker", "least", "I", false)
  | 6 => ("LoanHouse$Checker", "fn", "I", false)
  | 7 => ("LoanHouse$Checker", "top", "I", false)
  | 8 => ("LoanHouse$Checker", "whiles", "I", false)
  | 9 => ("LoanHouse$Checker", "shared", "Z", false)
  | _ => ("LoanHouse$Checker", "movable", "Z", false)
def tyX0 : Nat → FieldType := fun k => match k with
  | 0 => .object "LoanHouse$Tree"
  | 1 => .object "LoanHouse$Types"
  | 2 => .object "LoanHouse$Functions"
  | 3 => .object "LoanHouse$Variables"
  | 4 => .object "LoanHouse$Places"
  | 5 => .int
  | 6 => .int
  | 7 => .int
  | 8 => .int
  | 9 => .boolean
  | _ => .boolean
abbrev wsX00 : List Cond := u_ws "LoanHouse$Checker" TX0 11
theorem nmX0 : ∀ a, a < 11 → ∀ b, b < 11 → a ≠ b → (TX0 a).2.1 ≠ (TX0 b).2.1 := by decide +kernel
theorem tyX0_ok : ∀ k, k < 11 → parseFieldDescriptor (TX0 k).2.2.1 = some (tyX0 k) := by decide +kernel
def TX1 : u_T := fun k => match k with
  | 0 => ("LoanHouse$Emitter", "tree", "LLoanHouse$Tree;", true)
  | 1 => ("LoanHouse$Emitter", "program", "LLoanHouse$Program;", false)
  | 2 => ("LoanHouse$Emitter", "types", "LLoanHouse$Types;", false)
  | 3 => ("LoanHouse$Emitter", "functions", "LLoanHouse$Functions;", false)
  | 4 => ("LoanHouse$Emitter", "variables", "LLoanHouse$Variables;", false)
  | 5 => ("LoanHouse$Emitter", "places", "LLoanHouse$Places;", false)
  | 6 => ("LoanHouse$Emitter", "top", "I", false)
  | 7 => ("LoanHouse$Emitter", "loopStart", "I", false)
  | 8 => ("LoanHouse$Emitter", "loopBreaks", "I", false)
  | _ => ("LoanHouse$Emitter", "loopOuter", "I", false)
def tyX1 : Nat → FieldType := fun k => match k with
  | 0 => .object "LoanHouse$Tree"
  | 1 => .object "LoanHouse$Program"
  | 2 => .object "LoanHouse$Types"
  | 3 => .object "LoanHouse$Functions"
  | 4 => .object "LoanHouse$Variables"
  | 5 => .object "LoanHouse$Places"
  | 6 => .int
  | 7 => .int
  | 8 => .int
  | _ => .int
abbrev wsX10 : List Cond := u_ws "LoanHouse$Emitter" TX1 10
theorem nmX1 : ∀ a, a < 10 → ∀ b, b < 10 → a ≠ b → (TX1 a).2.1 ≠ (TX1 b).2.1 := by decide +kernel
theorem tyX1_ok : ∀ k, k < 10 → parseFieldDescriptor (TX1 k).2.2.1 = some (tyX1 k) := by decide +kernel
def TX11 : u_T := fun k => match k with
  | 0 => ("LoanHouse$Ways", "program", "LLoanHouse$Program;", false)
  | 1 => ("LoanHouse$Ways", "functions", "LLoanHouse$Functions;", false)
  | 2 => ("LoanHouse$Ways", "variables", "LLoanHouse$Variables;", false)
  | 3 => ("LoanHouse$Ways", "places", "LLoanHouse$Places;", false)
  | 4 => ("LoanHouse$Ways", "fn", "I", false)
  | 5 => ("LoanHouse$Ways", "first", "I", false)
  | 6 => ("LoanHouse$Ways", "state", "[J", true)
  | 7 => ("LoanHouse$Ways", "come", "Z", false)
  | 8 => ("LoanHouse$Ways", "labelState", "[J", false)
  | 9 => ("LoanHouse$Ways", "labelCome", "[Z", false)
  | 10 => ("LoanHouse$Ways", "changed", "Z", false)
  | 11 => ("LoanHouse$Ways", "splits", "J", false)
  | 12 => ("LoanHouse$Ways", "temps", "[J", true)
  | 13 => ("LoanHouse$Ways", "depth", "I", false)
  | 14 => ("LoanHouse$Ways", "matched", "[J", true)
  | 15 => ("LoanHouse$Ways", "matchHolds", "J", false)
  | 16 => ("LoanHouse$Ways", "used", "[J", true)
  | 17 => ("LoanHouse$Ways", "met", "[Z", true)
  | 18 => ("LoanHouse$Ways", "straySlot", "I", false)
  | 19 => ("LoanHouse$Ways", "strayLeaf", "I", false)
  | 20 => ("LoanHouse$Ways", "clashPlace", "I", false)
  | _ => ("LoanHouse$Ways", "clashOther", "I", false)
def tyX11 : Nat → FieldType := fun k => match k with
  | 0 => .object "LoanHouse$Program"
  | 1 => .object "LoanHouse$Functions"
  | 2 => .object "LoanHouse$Variables"
  | 3 => .object "LoanHouse$Places"
  | 4 => .int
  | 5 => .int
  | 6 => .array .long
  | 7 => .boolean
  | 8 => .array .long
  | 9 => .array .boolean
  | 10 => .boolean
  | 11 => .long
  | 12 => .array .long
  | 13 => .int
  | 14 => .array .long
  | 15 => .long
  | 16 => .array .long
  | 17 => .array .boolean
  | 18 => .int
  | 19 => .int
  | 20 => .int
  | _ => .int
abbrev wsX110 : List Cond := u_ws "LoanHouse$Ways" TX11 22
theorem nmX11 : ∀ a, a < 22 → ∀ b, b < 22 → a ≠ b → (TX11 a).2.1 ≠ (TX11 b).2.1 := by decide +kernel
theorem tyX11_ok : ∀ k, k < 22 → parseFieldDescriptor (TX11 k).2.2.1 = some (tyX11 k) := by decide +kernel
def TX3 : u_T := fun k => match k with
  | 0 => ("LoanHouse$Machine", "store", "LLoanHouse$Store;", true)
  | 1 => ("LoanHouse$Machine", "program", "LLoanHouse$Program;", false)
  | 2 => ("LoanHouse$Machine", "types", "LLoanHouse$Types;", false)
  | 3 => ("LoanHouse$Machine", "functions", "LLoanHouse$Functions;", false)
  | 4 => ("LoanHouse$Machine", "variables", "LLoanHouse$Variables;", false)
  | 5 => ("LoanHouse$Machine", "places", "LLoanHouse$Places;", false)
  | 6 => ("LoanHouse$Machine", "fn", "I", false)
  | 7 => ("LoanHouse$Machine", "base", "I", false)
  | 8 => ("LoanHouse$Machine", "held", "J", false)
  | 9 => ("LoanHouse$Machine", "next", "I", false)
  | 10 => ("LoanHouse$Machine", "waiting", "[[J", true)
  | 11 => ("LoanHouse$Machine", "calls", "I", false)
  | 12 => ("LoanHouse$Machine", "parts", "[J", true)
  | 13 => ("LoanHouse$Machine", "given", "[J", false)
  | 14 => ("LoanHouse$Machine", "givenTotal", "I", false)
  | 15 => ("LoanHouse$Machine", "reads", "I", false)
  | 16 => ("LoanHouse$Machine", "steps", "I", false)
  | 17 => ("LoanHouse$Machine", "mostSteps", "I", false)
  | 18 => ("LoanHouse$Machine", "ended", "I", false)
  | 19 => ("LoanHouse$Machine", "why", "I", false)
  | _ => ("LoanHouse$Machine", "failedAt", "I", false)
def tyX3 : Nat → FieldType := fun k => match k with
  | 0 => .object "LoanHouse$Store"
  | 1 => .object "LoanHouse$Program"
  | 2 => .object "LoanHouse$Types"
  | 3 => .object "LoanHouse$Functions"
  | 4 => .object "LoanHouse$Variables"
  | 5 => .object "LoanHouse$Places"
  | 6 => .int
  | 7 => .int
  | 8 => .long
  | 9 => .int
  | 10 => .array (.array .long)
  | 11 => .int
  | 12 => .array .long
  | 13 => .array .long
  | 14 => .int
  | 15 => .int
  | 16 => .int
  | 17 => .int
  | 18 => .int
  | 19 => .int
  | _ => .int
abbrev wsX30 : List Cond := u_ws "LoanHouse$Machine" TX3 21
theorem nmX3 : ∀ a, a < 21 → ∀ b, b < 21 → a ≠ b → (TX3 a).2.1 ≠ (TX3 b).2.1 := by decide +kernel
theorem tyX3_ok : ∀ k, k < 21 → parseFieldDescriptor (TX3 k).2.2.1 = some (tyX3 k) := by decide +kernel
def TX7 : u_T := fun k => match k with
  | 0 => ("LoanHouse$Store", "types", "LLoanHouse$Types;", false)
  | 1 => ("LoanHouse$Store", "cells", "[J", false)
  | 2 => ("LoanHouse$Store", "top", "I", false)
  | 3 => ("LoanHouse$Store", "boxUsed", "[Z", true)
  | 4 => ("LoanHouse$Store", "boxes", "I", false)
  | 5 => ("LoanHouse$Store", "mostBoxes", "I", false)
  | 6 => ("LoanHouse$Store", "rowUsed", "[Z", true)
  | 7 => ("LoanHouse$Store", "rowLength", "[I", true)
  | 8 => ("LoanHouse$Store", "rows", "I", false)
  | 9 => ("LoanHouse$Store", "mostRows", "I", false)
  | 10 => ("LoanHouse$Store", "outKind", "[I", true)
  | 11 => ("LoanHouse$Store", "outNumber", "[J", true)
  | 12 => ("LoanHouse$Store", "outs", "I", false)
  | 13 => ("LoanHouse$Store", "made", "I", false)
  | 14 => ("LoanHouse$Store", "told", "I", false)
  | 15 => ("LoanHouse$Store", "strays", "I", false)
  | 16 => ("LoanHouse$Store", "twices", "I", false)
  | 17 => ("LoanHouse$Store", "dropType", "[I", true)
  | _ => ("LoanHouse$Store", "dropAt", "[I", true)
def tyX7 : Nat → FieldType := fun k => match k with
  | 0 => .object "LoanHouse$Types"
  | 1 => .array .long
  | 2 => .int
  | 3 => .array .boolean
  | 4 => .int
  | 5 => .int
  | 6 => .array .boolean
  | 7 => .array .int
  | 8 => .int
  | 9 => .int
  | 10 => .array .int
  | 11 => .array .long
  | 12 => .int
  | 13 => .int
  | 14 => .int
  | 15 => .int
  | 16 => .int
  | 17 => .array .int
  | _ => .array .int
abbrev wsX70 : List Cond := u_ws "LoanHouse$Store" TX7 19
theorem nmX7 : ∀ a, a < 19 → ∀ b, b < 19 → a ≠ b → (TX7 a).2.1 ≠ (TX7 b).2.1 := by decide +kernel
theorem tyX7_ok : ∀ k, k < 19 → parseFieldDescriptor (TX7 k).2.2.1 = some (tyX7 k) := by decide +kernel
def TX5 : u_T := fun k => match k with
  | 0 => ("LoanHouse$Program", "types", "LLoanHouse$Types;", true)
  | 1 => ("LoanHouse$Program", "functions", "LLoanHouse$Functions;", true)
  | 2 => ("LoanHouse$Program", "variables", "LLoanHouse$Variables;", true)
  | 3 => ("LoanHouse$Program", "places", "LLoanHouse$Places;", true)
  | 4 => ("LoanHouse$Program", "op", "[I", true)
  | 5 => ("LoanHouse$Program", "x", "[I", true)
  | 6 => ("LoanHouse$Program", "y", "[I", true)
  | 7 => ("LoanHouse$Program", "z", "[I", true)
  | 8 => ("LoanHouse$Program", "pos", "[I", true)
  | 9 => ("LoanHouse$Program", "label", "[I", true)
  | 10 => ("LoanHouse$Program", "slots", "I", false)
  | 11 => ("LoanHouse$Program", "labels", "I", false)
  | 12 => ("LoanHouse$Program", "matches", "I", false)
  | 13 => ("LoanHouse$Program", "order", "[I", true)
  | _ => ("LoanHouse$Program", "orders", "I", false)
def tyX5 : Nat → FieldType := fun k => match k with
  | 0 => .object "LoanHouse$Types"
  | 1 => .object "LoanHouse$Functions"
  | 2 => .object "LoanHouse$Variables"
  | 3 => .object "LoanHouse$Places"
  | 4 => .array .int
  | 5 => .array .int
  | 6 => .array .int
  | 7 => .array .int
  | 8 => .array .int
  | 9 => .array .int
  | 10 => .int
  | 11 => .int
  | 12 => .int
  | 13 => .array .int
  | _ => .int
abbrev wsX50 : List Cond := u_ws "LoanHouse$Program" TX5 15
theorem nmX5 : ∀ a, a < 15 → ∀ b, b < 15 → a ≠ b → (TX5 a).2.1 ≠ (TX5 b).2.1 := by decide +kernel
theorem tyX5_ok : ∀ k, k < 15 → parseFieldDescriptor (TX5 k).2.2.1 = some (tyX5 k) := by decide +kernel
def TX9 : u_T := fun k => match k with
  | 0 => ("LoanHouse$Types", "kind", "[I", true)
  | 1 => ("LoanHouse$Types", "arg", "[I", true)
  | 2 => ("LoanHouse$Types", "total", "I", false)
  | 3 => ("LoanHouse$Types", "declName", "[I", true)
  | 4 => ("LoanHouse$Types", "declForm", "[I", true)
  | 5 => ("LoanHouse$Types", "declFirst", "[I", true)
  | 6 => ("LoanHouse$Types", "declWidth", "[I", true)
  | 7 => ("LoanHouse$Types", "declCells", "[I", true)
  | 8 => ("LoanHouse$Types", "declParts", "[I", true)
  | 9 => ("LoanHouse$Types", "declLeaves", "[I", true)
  | 10 => ("LoanHouse$Types", "decls", "I", false)
  | 11 => ("LoanHouse$Types", "variantName", "[I", true)
  | 12 => ("LoanHouse$Types", "variantFirst", "[I", true)
  | 13 => ("LoanHouse$Types", "variantWidth", "[I", true)
  | 14 => ("LoanHouse$Types", "variants", "I", false)
  | 15 => ("LoanHouse$Types", "memberName", "[I", true)
  | 16 => ("LoanHouse$Types", "memberType", "[I", true)
  | 17 => ("LoanHouse$Types", "memberCell", "[I", true)
  | _ => ("LoanHouse$Types", "members", "I", false)
def tyX9 : Nat → FieldType := fun k => match k with
  | 0 => .array .int
  | 1 => .array .int
  | 2 => .int
  | 3 => .array .int
  | 4 => .array .int
  | 5 => .array .int
  | 6 => .array .int
  | 7 => .array .int
  | 8 => .array .int
  | 9 => .array .int
  | 10 => .int
  | 11 => .array .int
  | 12 => .array .int
  | 13 => .array .int
  | 14 => .int
  | 15 => .array .int
  | 16 => .array .int
  | 17 => .array .int
  | _ => .int
abbrev wsX90 : List Cond := u_ws "LoanHouse$Types" TX9 19
theorem nmX9 : ∀ a, a < 19 → ∀ b, b < 19 → a ≠ b → (TX9 a).2.1 ≠ (TX9 b).2.1 := by decide +kernel
theorem tyX9_ok : ∀ k, k < 19 → parseFieldDescriptor (TX9 k).2.2.1 = some (tyX9 k) := by decide +kernel
def TX2 : u_T := fun k => match k with
  | 0 => ("LoanHouse$Functions", "name", "[I", true)
  | 1 => ("LoanHouse$Functions", "node", "[I", true)
  | 2 => ("LoanHouse$Functions", "result", "[I", true)
  | 3 => ("LoanHouse$Functions", "of", "[J", true)
  | 4 => ("LoanHouse$Functions", "params", "[I", true)
  | 5 => ("LoanHouse$Functions", "firstParam", "[I", true)
  | 6 => ("LoanHouse$Functions", "paramType", "[I", true)
  | 7 => ("LoanHouse$Functions", "paramTotal", "I", false)
  | 8 => ("LoanHouse$Functions", "firstVariable", "[I", true)
  | 9 => ("LoanHouse$Functions", "variables", "[I", true)
  | 10 => ("LoanHouse$Functions", "firstLeaf", "[I", true)
  | 11 => ("LoanHouse$Functions", "leaves", "[I", true)
  | 12 => ("LoanHouse$Functions", "splits", "[I", true)
  | 13 => ("LoanHouse$Functions", "firstLoan", "[I", true)
  | 14 => ("LoanHouse$Functions", "loans", "[I", true)
  | 15 => ("LoanHouse$Functions", "entry", "[I", true)
  | 16 => ("LoanHouse$Functions", "cells", "[I", true)
  | 17 => ("LoanHouse$Functions", "total", "I", false)
  | _ => ("LoanHouse$Functions", "main", "I", false)
def tyX2 : Nat → FieldType := fun k => match k with
  | 0 => .array .int
  | 1 => .array .int
  | 2 => .array .int
  | 3 => .array .long
  | 4 => .array .int
  | 5 => .array .int
  | 6 => .array .int
  | 7 => .int
  | 8 => .array .int
  | 9 => .array .int
  | 10 => .array .int
  | 11 => .array .int
  | 12 => .array .int
  | 13 => .array .int
  | 14 => .array .int
  | 15 => .array .int
  | 16 => .array .int
  | 17 => .int
  | _ => .int
abbrev wsX20 : List Cond := u_ws "LoanHouse$Functions" TX2 19
theorem nmX2 : ∀ a, a < 19 → ∀ b, b < 19 → a ≠ b → (TX2 a).2.1 ≠ (TX2 b).2.1 := by decide +kernel
theorem tyX2_ok : ∀ k, k < 19 → parseFieldDescriptor (TX2 k).2.2.1 = some (tyX2 k) := by decide +kernel
def TX10 : u_T := fun k => match k with
  | 0 => ("LoanHouse$Variables", "name", "[I", true)
  | 1 => ("LoanHouse$Variables", "pos", "[I", true)
  | 2 => ("LoanHouse$Variables", "type", "[I", true)
  | 3 => ("LoanHouse$Variables", "outer", "[I", true)
  | 4 => ("LoanHouse$Variables", "firstLeaf", "[I", true)
  | 5 => ("LoanHouse$Variables", "leafCount", "[I", true)
  | 6 => ("LoanHouse$Variables", "cell", "[I", true)
  | 7 => ("LoanHouse$Variables", "loans", "[J", true)
  | 8 => ("LoanHouse$Variables", "total", "I", false)
  | 9 => ("LoanHouse$Variables", "leafType", "[I", true)
  | 10 => ("LoanHouse$Variables", "leafCell", "[I", true)
  | _ => ("LoanHouse$Variables", "leaves", "I", false)
def tyX10 : Nat → FieldType := fun k => match k with
  | 0 => .array .int
  | 1 => .array .int
  | 2 => .array .int
  | 3 => .array .int
  | 4 => .array .int
  | 5 => .array .int
  | 6 => .array .int
  | 7 => .array .long
  | 8 => .int
  | 9 => .array .int
  | 10 => .array .int
  | _ => .int
abbrev wsX100 : List Cond := u_ws "LoanHouse$Variables" TX10 12
theorem nmX10 : ∀ a, a < 12 → ∀ b, b < 12 → a ≠ b → (TX10 a).2.1 ≠ (TX10 b).2.1 := by decide +kernel
theorem tyX10_ok : ∀ k, k < 12 → parseFieldDescriptor (TX10 k).2.2.1 = some (tyX10 k) := by decide +kernel
def TX4 : u_T := fun k => match k with
  | 0 => ("LoanHouse$Places", "pos", "[I", true)
  | 1 => ("LoanHouse$Places", "act", "[I", true)
  | 2 => ("LoanHouse$Places", "fn", "[I", true)
  | 3 => ("LoanHouse$Places", "variable", "[I", true)
  | 4 => ("LoanHouse$Places", "type", "[I", true)
  | 5 => ("LoanHouse$Places", "firstStep", "[I", true)
  | 6 => ("LoanHouse$Places", "steps", "[I", true)
  | 7 => ("LoanHouse$Places", "leaf", "[I", true)
  | 8 => ("LoanHouse$Places", "leaves", "[I", true)
  | 9 => ("LoanHouse$Places", "further", "[Z", true)
  | 10 => ("LoanHouse$Places", "come", "[Z", true)
  | 11 => ("LoanHouse$Places", "force", "[J", true)
  | 12 => ("LoanHouse$Places", "total", "I", false)
  | 13 => ("LoanHouse$Places", "stepKind", "[I", true)
  | 14 => ("LoanHouse$Places", "stepCell", "[I", true)
  | 15 => ("LoanHouse$Places", "stepPos", "[I", true)
  | 16 => ("LoanHouse$Places", "stepTotal", "I", false)
  | 17 => ("LoanHouse$Places", "loanPos", "[I", true)
  | 18 => ("LoanHouse$Places", "loanPlace", "[I", true)
  | _ => ("LoanHouse$Places", "loans", "I", false)
def tyX4 : Nat → FieldType := fun k => match k with
  | 0 => .array .int
  | 1 => .array .int
  | 2 => .array .int
  | 3 => .array .int
  | 4 => .array .int
  | 5 => .array .int
  | 6 => .array .int
  | 7 => .array .int
  | 8 => .array .int
  | 9 => .array .boolean
  | 10 => .array .boolean
  | 11 => .array .long
  | 12 => .int
  | 13 => .array .int
  | 14 => .array .int
  | 15 => .array .int
  | 16 => .int
  | 17 => .array .int
  | 18 => .array .int
  | _ => .int
abbrev wsX40 : List Cond := u_ws "LoanHouse$Places" TX4 20
theorem nmX4 : ∀ a, a < 20 → ∀ b, b < 20 → a ≠ b → (TX4 a).2.1 ≠ (TX4 b).2.1 := by decide +kernel
theorem tyX4_ok : ∀ k, k < 20 → parseFieldDescriptor (TX4 k).2.2.1 = some (tyX4 k) := by decide +kernel
def TX30 : u_T := fun k => match k with
  | 0 => ("LoanHouseModel", "text", "[B", true)
  | 1 => ("LoanHouseModel", "textSize", "I", false)
  | 2 => ("LoanHouseModel", "tokens", "I", false)
  | 3 => ("LoanHouseModel", "at", "I", false)
  | 4 => ("LoanHouseModel", "open", "I", false)
  | 5 => ("LoanHouseModel", "kindOf", "[I", true)
  | 6 => ("LoanHouseModel", "placeOf", "[I", true)
  | 7 => ("LoanHouseModel", "endOf", "[I", true)
  | 8 => ("LoanHouseModel", "wordOf", "[Ljava/lang/String;", true)
  | 9 => ("LoanHouseModel", "fault", "I", false)
  | 10 => ("LoanHouseModel", "faultPlace", "I", false)
  | 11 => ("LoanHouseModel", "otherPlace", "I", false)
  | 12 => ("LoanHouseModel", "late", "[Ljava/lang/String;", true)
  | 13 => ("LoanHouseModel", "builder", "Ljava/lang/StringBuilder;", true)
  | 14 => ("LoanHouseModel", "ones", "[Ljava/lang/String;", true)
  | 15 => ("LoanHouseModel", "program", "LLoanHouseModel$Program;", false)
  | 16 => ("LoanHouseModel", "inHand", "LLoanHouseModel$Fn;", false)
  | 17 => ("LoanHouseModel", "exps", "Ljava/util/ArrayList;", false)
  | 18 => ("LoanHouseModel", "takenExps", "Ljava/util/ArrayList;", false)
  | 19 => ("LoanHouseModel", "expsUsed", "I", false)
  | 20 => ("LoanHouseModel", "intType", "LLoanHouseModel$Type;", true)
  | 21 => ("LoanHouseModel", "boolType", "LLoanHouseModel$Type;", true)
  | 22 => ("LoanHouseModel", "scope", "Ljava/util/ArrayList;", true)
  | 23 => ("LoanHouseModel", "loops", "I", false)
  | 24 => ("LoanHouseModel", "nodes", "Ljava/util/ArrayList;", true)
  | 25 => ("LoanHouseModel", "tail", "LLoanHouseModel$Node;", false)
  | 26 => ("LoanHouseModel", "live", "Ljava/util/ArrayList;", true)
  | 27 => ("LoanHouseModel", "loopHead", "LLoanHouseModel$Node;", false)
  | 28 => ("LoanHouseModel", "loopExit", "LLoanHouseModel$Node;", false)
  | 29 => ("LoanHouseModel", "loopMark", "I", false)
  | 30 => ("LoanHouseModel", "allNodes", "Ljava/util/ArrayList;", false)
  | 31 => ("LoanHouseModel", "takenNodes", "Ljava/util/ArrayList;", false)
  | 32 => ("LoanHouseModel", "nodesUsed", "I", false)
  | 33 => ("LoanHouseModel", "all", "[J", false)
  | 34 => ("LoanHouseModel", "some", "[J", false)
  | 35 => ("LoanHouseModel", "used", "[J", false)
  | 36 => ("LoanHouseModel", "holds", "[J", false)
  | 37 => ("LoanHouseModel", "columns", "I", false)
  | 38 => ("LoanHouseModel", "column", "[I", true)
  | 39 => ("LoanHouseModel", "mark", "[Z", false)
  | 40 => ("LoanHouseModel", "now", "[J", false)
  | 41 => ("LoanHouseModel", "forces", "[J", true)
  | 42 => ("LoanHouseModel", "taken", "LLoanHouseModel$Program;", false)
  | 43 => ("LoanHouseModel", "entries", "Ljava/util/ArrayList;", true)
  | 44 => ("LoanHouseModel", "lastFault", "I", false)
  | 45 => ("LoanHouseModel", "lastPlace", "I", false)
  | 46 => ("LoanHouseModel", "lastOther", "I", false)
  | 47 => ("LoanHouseModel", "made", "Ljava/util/ArrayList;", true)
  | 48 => ("LoanHouseModel", "takenForces", "[J", true)
  | 49 => ("LoanHouseModel", "type", "[LLoanHouseModel$Type;", false)
  | 50 => ("LoanHouseModel", "num", "[J", false)
  | 51 => ("LoanHouseModel", "times", "[J", false)
  | 52 => ("LoanHouseModel", "tree", "[J", false)
  | 53 => ("LoanHouseModel", "kin", "[J", false)
  | 54 => ("LoanHouseModel", "by", "[J", false)
  | 55 => ("LoanHouseModel", "pool", "I", false)
  | 56 => ("LoanHouseModel", "spare", "I", false)
  | 57 => ("LoanHouseModel", "time", "J", false)
  | 58 => ("LoanHouseModel", "lentOf", "[I", false)
  | 59 => ("LoanHouseModel", "lends", "I", false)
  | 60 => ("LoanHouseModel", "strays", "I", false)
  | 61 => ("LoanHouseModel", "twices", "I", false)
  | 62 => ("LoanHouseModel", "clashes", "I", false)
  | 63 => ("LoanHouseModel", "lefts", "I", false)
  | 64 => ("LoanHouseModel", "heap", "[I", false)
  | 65 => ("LoanHouseModel", "heaped", "I", false)
  | 66 => ("LoanHouseModel", "outKind", "[I", true)
  | 67 => ("LoanHouseModel", "outNumber", "[J", true)
  | 68 => ("LoanHouseModel", "outs", "I", false)
  | 69 => ("LoanHouseModel", "toldMade", "I", false)
  | 70 => ("LoanHouseModel", "toldDropped", "I", false)
  | 71 => ("LoanHouseModel", "boxes", "I", false)
  | 72 => ("LoanHouseModel", "rows", "I", false)
  | 73 => ("LoanHouseModel", "mostBoxes", "I", false)
  | 74 => ("LoanHouseModel", "mostRows", "I", false)
  | 75 => ("LoanHouseModel", "renamed", "[I", false)
  | 76 => ("LoanHouseModel", "gave", "[J", true)
  | 77 => ("LoanHouseModel", "gaves", "I", false)
  | 78 => ("LoanHouseModel", "wasRun", "Z", false)
  | 79 => ("LoanHouseModel", "ended", "I", false)
  | 80 => ("LoanHouseModel", "failPlace", "I", false)
  | 81 => ("LoanHouseModel", "failWhy", "I", false)
  | 82 => ("LoanHouseModel", "steps", "I", false)
  | 83 => ("LoanHouseModel", "reads", "I", false)
  | 84 => ("LoanHouseModel", "stack", "[I", false)
  | 85 => ("LoanHouseModel", "high", "I", false)
  | 86 => ("LoanHouseModel", "calls", "I", false)
  | 87 => ("LoanHouseModel", "callFn", "[LLoanHouseModel$Fn;", true)
  | 88 => ("LoanHouseModel", "callBack", "[LLoanHouseModel$Node;", true)
  | 89 => ("LoanHouseModel", "callBase", "[I", true)
  | 90 => ("LoanHouseModel", "actives", "[I", true)
  | 91 => ("LoanHouseModel", "variable", "[I", true)
  | 92 => ("LoanHouseModel", "active", "[I", true)
  | 93 => ("LoanHouseModel", "doer", "I", false)
  | _ => ("LoanHouseModel", "keptParts", "[I", true)
def tyX30 : Nat → FieldType := fun k => match k with
  | 0 => .array .byte
  | 1 => .int
  | 2 => .int
  | 3 => .int
  | 4 => .int
  | 5 => .array .int
  | 6 => .array .int
  | 7 => .array .int
  | 8 => .array (.object "java/lang/String")
  | 9 => .int
  | 10 => .int
  | 11 => .int
  | 12 => .array (.object "java/lang/String")
  | 13 => .object "java/lang/StringBuilder"
  | 14 => .array (.object "java/lang/String")
  | 15 => .object "LoanHouseModel$Program"
  | 16 => .object "LoanHouseModel$Fn"
  | 17 => .object "java/util/ArrayList"
  | 18 => .object "java/util/ArrayList"
  | 19 => .int
  | 20 => .object "LoanHouseModel$Type"
  | 21 => .object "LoanHouseModel$Type"
  | 22 => .object "java/util/ArrayList"
  | 23 => .int
  | 24 => .object "java/util/ArrayList"
  | 25 => .object "LoanHouseModel$Node"
  | 26 => .object "java/util/ArrayList"
  | 27 => .object "LoanHouseModel$Node"
  | 28 => .object "LoanHouseModel$Node"
  | 29 => .int
  | 30 => .object "java/util/ArrayList"
  | 31 => .object "java/util/ArrayList"
  | 32 => .int
  | 33 => .array .long
  | 34 => .array .long
  | 35 => .array .long
  | 36 => .array .long
  | 37 => .int
  | 38 => .array .int
  | 39 => .array .boolean
  | 40 => .array .long
  | 41 => .array .long
  | 42 => .object "LoanHouseModel$Program"
  | 43 => .object "java/util/ArrayList"
  | 44 => .int
  | 45 => .int
  | 46 => .int
  | 47 => .object "java/util/ArrayList"
  | 48 => .array .long
  | 49 => .array (.object "LoanHouseModel$Type")
  | 50 => .array .long
  | 51 => .array .long
  | 52 => .array .long
  | 53 => .array .long
  | 54 => .array .long
  | 55 => .int
  | 56 => .int
  | 57 => .long
  | 58 => .array .int
  | 59 => .int
  | 60 => .int
  | 61 => .int
  | 62 => .int
  | 63 => .int
  | 64 => .array .int
  | 65 => .int
  | 66 => .array .int
  | 67 => .array .long
  | 68 => .int
  | 69 => .int
  | 70 => .int
  | 71 => .int
  | 72 => .int
  | 73 => .int
  | 74 => .int
  | 75 => .array .int
  | 76 => .array .long
  | 77 => .int
  | 78 => .boolean
  | 79 => .int
  | 80 => .int
  | 81 => .int
  | 82 => .int
  | 83 => .int
  | 84 => .array .int
  | 85 => .int
  | 86 => .int
  | 87 => .array (.object "LoanHouseModel$Fn")
  | 88 => .array (.object "LoanHouseModel$Node")
  | 89 => .array .int
  | 90 => .array .int
  | 91 => .array .int
  | 92 => .array .int
  | 93 => .int
  | _ => .array .int
abbrev wsX300 : List Cond := u_ws "LoanHouseModel" TX30 95
theorem nmX30 : ∀ a, a < 95 → ∀ b, b < 95 → a ≠ b → (TX30 a).2.1 ≠ (TX30 b).2.1 := by decide +kernel
theorem tyX30_ok : ∀ k, k < 95 → parseFieldDescriptor (TX30 k).2.2.1 = some (tyX30 k) := by decide +kernel
def TX26 : u_T := fun k => match k with
  | 0 => ("LoanHouseModel$Type", "kind", "I", true)
  | 1 => ("LoanHouseModel$Type", "item", "LLoanHouseModel$Item;", false)
  | _ => ("LoanHouseModel$Type", "of", "LLoanHouseModel$Type;", false)
def tyX26 : Nat → FieldType := fun k => match k with
  | 0 => .int
  | 1 => .object "LoanHouseModel$Item"
  | _ => .object "LoanHouseModel$Type"
abbrev wsX260 : List Cond := u_ws "LoanHouseModel$Type" TX26 3
theorem nmX26 : ∀ a, a < 3 → ∀ b, b < 3 → a ≠ b → (TX26 a).2.1 ≠ (TX26 b).2.1 := by decide +kernel
theorem tyX26_ok : ∀ k, k < 3 → parseFieldDescriptor (TX26 k).2.2.1 = some (tyX26 k) := by decide +kernel
def TX23 : u_T := fun k => match k with
  | 0 => ("LoanHouseModel$Program", "items", "Ljava/util/ArrayList;", true)
  | 1 => ("LoanHouseModel$Program", "fns", "Ljava/util/ArrayList;", true)
  | 2 => ("LoanHouseModel$Program", "places", "Ljava/util/ArrayList;", true)
  | _ => ("LoanHouseModel$Program", "loans", "Ljava/util/ArrayList;", true)
def tyX23 : Nat → FieldType := fun k => match k with
  | 0 => .object "java/util/ArrayList"
  | 1 => .object "java/util/ArrayList"
  | 2 => .object "java/util/ArrayList"
  | _ => .object "java/util/ArrayList"
abbrev wsX230 : List Cond := u_ws "LoanHouseModel$Program" TX23 4
theorem nmX23 : ∀ a, a < 4 → ∀ b, b < 4 → a ≠ b → (TX23 a).2.1 ≠ (TX23 b).2.1 := by decide +kernel
theorem tyX23_ok : ∀ k, k < 4 → parseFieldDescriptor (TX23 k).2.2.1 = some (tyX23 k) := by decide +kernel
def TJ4 : u_T := fun k => match k with
  | 0 => ("java/lang/AbstractStringBuilder", "value", "[B", false)
  | 1 => ("java/lang/AbstractStringBuilder", "coder", "B", false)
  | 2 => ("java/lang/AbstractStringBuilder", "maybeLatin1", "Z", false)
  | _ => ("java/lang/AbstractStringBuilder", "count", "I", false)
def tyJ4 : Nat → FieldType := fun k => match k with
  | 0 => .array .byte
  | 1 => .byte
  | 2 => .boolean
  | _ => .int
abbrev wsJ40 : List Cond := u_ws "java/lang/StringBuilder" TJ4 4
theorem nmJ4 : ∀ a, a < 4 → ∀ b, b < 4 → a ≠ b → (TJ4 a).2.1 ≠ (TJ4 b).2.1 := by decide +kernel
theorem tyJ4_ok : ∀ k, k < 4 → parseFieldDescriptor (TJ4 k).2.2.1 = some (tyJ4 k) := by decide +kernel
def TJ0 : u_T := fun k => match k with
  | 0 => ("java/lang/String", "value", "[B", true)
  | 1 => ("java/lang/String", "coder", "B", true)
  | 2 => ("java/lang/String", "hash", "I", false)
  | _ => ("java/lang/String", "hashIsZero", "Z", false)
def tyJ0 : Nat → FieldType := fun k => match k with
  | 0 => .array .byte
  | 1 => .byte
  | 2 => .int
  | _ => .boolean
abbrev wsJ00 : List Cond := u_ws "java/lang/String" TJ0 4
theorem nmJ0 : ∀ a, a < 4 → ∀ b, b < 4 → a ≠ b → (TJ0 a).2.1 ≠ (TJ0 b).2.1 := by decide +kernel
theorem tyJ0_ok : ∀ k, k < 4 → parseFieldDescriptor (TJ0 k).2.2.1 = some (tyJ0 k) := by decide +kernel
def TJx4a65c : u_T := fun k => match k with
  | 0 => ("java/util/AbstractList", "modCount", "I", false)
  | 1 => ("java/util/ArrayList", "elementData", "[Ljava/lang/Object;", false)
  | _ => ("java/util/ArrayList", "size", "I", false)
def tyJx4a65c : Nat → FieldType := fun k => match k with
  | 0 => .int
  | 1 => .array (.object "java/lang/Object")
  | _ => .int
abbrev wsJx4a65c0 : List Cond := u_ws "java/util/ArrayList" TJx4a65c 3
theorem nmJx4a65c : ∀ a, a < 3 → ∀ b, b < 3 → a ≠ b → (TJx4a65c a).2.1 ≠ (TJx4a65c b).2.1 := by decide +kernel
theorem tyJx4a65c_ok : ∀ k, k < 3 → parseFieldDescriptor (TJx4a65c k).2.2.1 = some (tyJx4a65c k) := by decide +kernel
abbrev cX12_init : ByteArray := prog_1_method_1_code
def yX12_init : MethodName := ⟨"LoanHouse", "<init>", "()V"⟩
abbrev cX12_feed : ByteArray := prog_1_method_2_code
def yX12_feed : MethodName := ⟨"LoanHouse", "feed", "(IIIII)I"⟩
abbrev cX12_feedNumber : ByteArray := prog_1_method_3_code
def yX12_feedNumber : MethodName := ⟨"LoanHouse", "feedNumber", "(I)V"⟩
abbrev cX12_judge : ByteArray := prog_1_method_4_code
def yX12_judge : MethodName := ⟨"LoanHouse", "judge", "(I)I"⟩
abbrev cX12_judgeTree : ByteArray := prog_1_method_6_code
def yX12_judgeTree : MethodName := ⟨"LoanHouse", "judgeTree", "(I)I"⟩
abbrev cX12_fault : ByteArray := prog_1_method_7_code
def yX12_fault : MethodName := ⟨"LoanHouse", "fault", "(I)I"⟩
abbrev cX12_give : ByteArray := prog_1_method_8_code
def yX12_give : MethodName := ⟨"LoanHouse", "give", "(J)I"⟩
abbrev cX12_run : ByteArray := prog_1_method_9_code
def yX12_run : MethodName := ⟨"LoanHouse", "run", "(I)I"⟩
abbrev cX12_about : ByteArray := prog_1_method_10_code
def yX12_about : MethodName := ⟨"LoanHouse", "about", "(I)I"⟩
abbrev cX12_out : ByteArray := prog_1_method_11_code
def yX12_out : MethodName := ⟨"LoanHouse", "out", "(II)J"⟩
abbrev cX12_count : ByteArray := prog_1_method_12_code
def yX12_count : MethodName := ⟨"LoanHouse", "count", "(I)I"⟩
abbrev cX12_place : ByteArray := prog_1_method_13_code
def yX12_place : MethodName := ⟨"LoanHouse", "place", "(II)I"⟩
abbrev cX12_loan : ByteArray := prog_1_method_14_code
def yX12_loan : MethodName := ⟨"LoanHouse", "loan", "(II)I"⟩
abbrev cX12_force : ByteArray := prog_1_method_15_code
def yX12_force : MethodName := ⟨"LoanHouse", "force", "(II)I"⟩
abbrev cX12_function : ByteArray := prog_1_method_16_code
def yX12_function : MethodName := ⟨"LoanHouse", "function", "(II)I"⟩
abbrev cX12_size : ByteArray := prog_1_method_17_code
def yX12_size : MethodName := ⟨"LoanHouse", "size", "(I)I"⟩
abbrev cX12_strays : ByteArray := prog_1_method_18_code
def yX12_strays : MethodName := ⟨"LoanHouse", "strays", "()I"⟩
abbrev cX12_twices : ByteArray := prog_1_method_19_code
def yX12_twices : MethodName := ⟨"LoanHouse", "twices", "()I"⟩
abbrev cX12_lefts : ByteArray := prog_1_method_20_code
def yX12_lefts : MethodName := ⟨"LoanHouse", "lefts", "()I"⟩
abbrev cX12_clashes : ByteArray := prog_1_method_21_code
def yX12_clashes : MethodName := ⟨"LoanHouse", "clashes", "()I"⟩
abbrev cX8_init : ByteArray := prog_10_method_1_code
def yX8_init : MethodName := ⟨"LoanHouse$Tree", "<init>", "()V"⟩
abbrev cX8_clear : ByteArray := prog_10_method_2_code
def yX8_clear : MethodName := ⟨"LoanHouse$Tree", "clear", "()V"⟩
abbrev cX8_add : ByteArray := prog_10_method_3_code
def yX8_add : MethodName := ⟨"LoanHouse$Tree", "add", "(II)I"⟩
abbrev cX6_init : ByteArray := prog_8_method_1_code
def yX6_init : MethodName := ⟨"LoanHouse$Reader", "<init>", "(LLoanHouse$Tree;)V"⟩
abbrev cX6_read : ByteArray := prog_8_method_2_code
def yX6_read : MethodName := ⟨"LoanHouse$Reader", "read", "([BI)I"⟩
abbrev cX6_takeWords : ByteArray := prog_8_method_3_code
def yX6_takeWords : MethodName := ⟨"LoanHouse$Reader", "takeWords", "()V"⟩
abbrev cX6_nameOf : ByteArray := prog_8_method_4_code
def yX6_nameOf : MethodName := ⟨"LoanHouse$Reader", "nameOf", "(II)I"⟩
abbrev cX6_alike : ByteArray := prog_8_method_5_code
def yX6_alike : MethodName := ⟨"LoanHouse$Reader", "alike", "(III)Z"⟩
abbrev cX6_takeTokens : ByteArray := prog_8_method_6_code
def yX6_takeTokens : MethodName := ⟨"LoanHouse$Reader", "takeTokens", "()V"⟩
abbrev cX6_skipBlanks : ByteArray := prog_8_method_7_code
def yX6_skipBlanks : MethodName := ⟨"LoanHouse$Reader", "skipBlanks", "()V"⟩
abbrev cX6_advance : ByteArray := prog_8_method_14_code
def yX6_advance : MethodName := ⟨"LoanHouse$Reader", "advance", "()V"⟩
abbrev cX0_init : ByteArray := prog_2_method_1_code
def yX0_init : MethodName := ⟨"LoanHouse$Checker", "<init>", "(LLoanHouse$Tree;)V"⟩
abbrev cX0_check : ByteArray := prog_2_method_2_code
def yX0_check : MethodName := ⟨"LoanHouse$Checker", "check", "(LLoanHouse$Program;I)I"⟩
abbrev cX0_declareAll : ByteArray := prog_2_method_4_code
def yX0_declareAll : MethodName := ⟨"LoanHouse$Checker", "declareAll", "(I)V"⟩
abbrev cX0_measures : ByteArray := prog_2_method_10_code
def yX0_measures : MethodName := ⟨"LoanHouse$Checker", "measures", "(I)V"⟩
abbrev cX0_mainFunction : ByteArray := prog_2_method_15_code
def yX0_mainFunction : MethodName := ⟨"LoanHouse$Checker", "mainFunction", "(I)V"⟩
abbrev cX0_broken : ByteArray := prog_2_method_3_code
def yX0_broken : MethodName := ⟨"LoanHouse$Checker", "broken", "(I)V"⟩
abbrev cX1_init : ByteArray := prog_3_method_1_code
def yX1_init : MethodName := ⟨"LoanHouse$Emitter", "<init>", "(LLoanHouse$Tree;)V"⟩
abbrev cX11_init : ByteArray := prog_13_method_1_code
def yX11_init : MethodName := ⟨"LoanHouse$Ways", "<init>", "()V"⟩
abbrev cX3_init : ByteArray := prog_5_method_1_code
def yX3_init : MethodName := ⟨"LoanHouse$Machine", "<init>", "()V"⟩
abbrev cX7_init : ByteArray := prog_9_method_1_code
def yX7_init : MethodName := ⟨"LoanHouse$Store", "<init>", "()V"⟩
abbrev cX5_init : ByteArray := prog_7_method_1_code
def yX5_init : MethodName := ⟨"LoanHouse$Program", "<init>", "()V"⟩
abbrev cX5_clear : ByteArray := prog_7_method_2_code
def yX5_clear : MethodName := ⟨"LoanHouse$Program", "clear", "()V"⟩
abbrev cX9_init : ByteArray := prog_11_method_1_code
def yX9_init : MethodName := ⟨"LoanHouse$Types", "<init>", "()V"⟩
abbrev cX9_clear : ByteArray := prog_11_method_2_code
def yX9_clear : MethodName := ⟨"LoanHouse$Types", "clear", "()V"⟩
abbrev cX9_measure : ByteArray := prog_11_method_19_code
def yX9_measure : MethodName := ⟨"LoanHouse$Types", "measure", "()V"⟩
abbrev cX2_init : ByteArray := prog_4_method_1_code
def yX2_init : MethodName := ⟨"LoanHouse$Functions", "<init>", "()V"⟩
abbrev cX2_clear : ByteArray := prog_4_method_2_code
def yX2_clear : MethodName := ⟨"LoanHouse$Functions", "clear", "()V"⟩
abbrev cX10_init : ByteArray := prog_12_method_1_code
def yX10_init : MethodName := ⟨"LoanHouse$Variables", "<init>", "()V"⟩
abbrev cX10_clear : ByteArray := prog_12_method_2_code
def yX10_clear : MethodName := ⟨"LoanHouse$Variables", "clear", "()V"⟩
abbrev cX4_init : ByteArray := prog_6_method_1_code
def yX4_init : MethodName := ⟨"LoanHouse$Places", "<init>", "()V"⟩
abbrev cX4_clear : ByteArray := prog_6_method_2_code
def yX4_clear : MethodName := ⟨"LoanHouse$Places", "clear", "()V"⟩
abbrev cX30_init : ByteArray := prog_15_method_1_code
def yX30_init : MethodName := ⟨"LoanHouseModel", "<init>", "()V"⟩
abbrev cX30_feed : ByteArray := prog_15_method_130_code
def yX30_feed : MethodName := ⟨"LoanHouseModel", "feed", "(IIIII)I"⟩
abbrev cX30_judge : ByteArray := prog_15_method_131_code
def yX30_judge : MethodName := ⟨"LoanHouseModel", "judge", "(I)I"⟩
abbrev cX30_split : ByteArray := prog_15_method_13_code
def yX30_split : MethodName := ⟨"LoanHouseModel", "split", "(I)V"⟩
abbrev cX30_token : ByteArray := prog_15_method_6_code
def yX30_token : MethodName := ⟨"LoanHouseModel", "token", "(III)V"⟩
abbrev cX30_known : ByteArray := prog_15_method_7_code
def yX30_known : MethodName := ⟨"LoanHouseModel", "known", "(II)Ljava/lang/String;"⟩
abbrev cX30_isLate : ByteArray := prog_15_method_8_code
def yX30_isLate : MethodName := ⟨"LoanHouseModel", "isLate", "(Ljava/lang/String;II)Z"⟩
abbrev cX30_word : ByteArray := prog_15_method_10_code
def yX30_word : MethodName := ⟨"LoanHouseModel", "word", "(II)Ljava/lang/String;"⟩
abbrev cX30_readText : ByteArray := prog_15_method_27_code
def yX30_readText : MethodName := ⟨"LoanHouseModel", "readText", "()V"⟩
abbrev cX30_isOver : ByteArray := prog_15_method_19_code
def yX30_isOver : MethodName := ⟨"LoanHouseModel", "isOver", "()Z"⟩
abbrev cX30_ruleItems : ByteArray := prog_15_method_53_code
def yX30_ruleItems : MethodName := ⟨"LoanHouseModel", "ruleItems", "()V"⟩
abbrev cX30_ruleFns : ByteArray := prog_15_method_60_code
def yX30_ruleFns : MethodName := ⟨"LoanHouseModel", "ruleFns", "()V"⟩
abbrev cX30_fnOf : ByteArray := prog_15_method_51_code
def yX30_fnOf : MethodName := ⟨"LoanHouseModel", "fnOf", "(Ljava/lang/String;)LLoanHouseModel$Fn;"⟩
abbrev cX30_wrong : ByteArray := prog_15_method_49_code
def yX30_wrong : MethodName := ⟨"LoanHouseModel", "wrong", "(I)V"⟩
abbrev cX30_breaks : ByteArray := prog_15_method_18_code
def yX30_breaks : MethodName := ⟨"LoanHouseModel", "breaks", "(III)V"⟩
abbrev cX30_fault : ByteArray := prog_15_method_133_code
def yX30_fault : MethodName := ⟨"LoanHouseModel", "fault", "(I)I"⟩
abbrev cX30_give : ByteArray := prog_15_method_120_code
def yX30_give : MethodName := ⟨"LoanHouseModel", "give", "(LLoanHouseModel$Fn;LLoanHouseModel$Var;J)V"⟩
abbrev cX30_run : ByteArray := prog_15_method_198_code
def yX30_run : MethodName := ⟨"LoanHouseModel", "run", "(I)I"⟩
abbrev cX30_about : ByteArray := prog_15_method_200_code
def yX30_about : MethodName := ⟨"LoanHouseModel", "about", "(I)I"⟩
abbrev cX30_out : ByteArray := prog_15_method_163_code
def yX30_out : MethodName := ⟨"LoanHouseModel", "out", "(IJ)V"⟩
abbrev cX30_count : ByteArray := prog_15_method_202_code
def yX30_count : MethodName := ⟨"LoanHouseModel", "count", "(I)I"⟩
abbrev cX30_place : ByteArray := prog_15_method_70_code
def yX30_place : MethodName := ⟨"LoanHouseModel", "place", "(LLoanHouseModel$Place;I)V"⟩
abbrev cX30_loan : ByteArray := prog_15_method_205_code
def yX30_loan : MethodName := ⟨"LoanHouseModel", "loan", "(II)I"⟩
abbrev cX30_force : ByteArray := prog_15_method_206_code
def yX30_force : MethodName := ⟨"LoanHouseModel", "force", "(II)I"⟩
abbrev cX30_function : ByteArray := prog_15_method_207_code
def yX30_function : MethodName := ⟨"LoanHouseModel", "function", "(II)I"⟩
abbrev cX30_size : ByteArray := prog_15_method_208_code
def yX30_size : MethodName := ⟨"LoanHouseModel", "size", "(I)I"⟩
abbrev cX30_strays : ByteArray := prog_15_method_209_code
def yX30_strays : MethodName := ⟨"LoanHouseModel", "strays", "()I"⟩
abbrev cX30_twices : ByteArray := prog_15_method_210_code
def yX30_twices : MethodName := ⟨"LoanHouseModel", "twices", "()I"⟩
abbrev cX30_lefts : ByteArray := prog_15_method_211_code
def yX30_lefts : MethodName := ⟨"LoanHouseModel", "lefts", "()I"⟩
abbrev cX30_clashes : ByteArray := prog_15_method_126_code
def yX30_clashes : MethodName := ⟨"LoanHouseModel", "clashes", "(LLoanHouseModel$Loan;LLoanHouseModel$Place;)Z"⟩
abbrev cX26_init : ByteArray := prog_29_method_1_code
def yX26_init : MethodName := ⟨"LoanHouseModel$Type", "<init>", "(ILLoanHouseModel$Item;LLoanHouseModel$Type;)V"⟩
abbrev cX23_init : ByteArray := prog_26_method_1_code
def yX23_init : MethodName := ⟨"LoanHouseModel$Program", "<init>", "()V"⟩
abbrev cJ5_init_d00df : ByteArray := prog_34_method_2_code
def yJ5_init_d00df : MethodName := ⟨"java/lang/AbstractStringBuilder", "<init>", "(I)V"⟩
abbrev cJ5_length_8abf5 : ByteArray := prog_34_method_6_code
def yJ5_length_8abf5 : MethodName := ⟨"java/lang/AbstractStringBuilder", "length", "()I"⟩
abbrev cJ5_ensureCapacityInternal_d00df : ByteArray := prog_34_method_9_code
def yJ5_ensureCapacityInternal_d00df : MethodName := ⟨"java/lang/AbstractStringBuilder", "ensureCapacityInternal", "(I)V"⟩
abbrev cJ5_setLength_d00df : ByteArray := prog_34_method_13_code
def yJ5_setLength_d00df : MethodName := ⟨"java/lang/AbstractStringBuilder", "setLength", "(I)V"⟩
abbrev cJ5_getValue_6d5f1 : ByteArray := prog_34_method_64_code
def yJ5_getValue_6d5f1 : MethodName := ⟨"java/lang/AbstractStringBuilder", "getValue", "()[B"⟩
abbrev cJ5_isLatin1_aae02 : ByteArray := prog_34_method_68_code
def yJ5_isLatin1_aae02 : MethodName := ⟨"java/lang/AbstractStringBuilder", "isLatin1", "()Z"⟩
abbrev cJ4_init_d00df : ByteArray := prog_47_method_2_code
def yJ4_init_d00df : MethodName := ⟨"java/lang/StringBuilder", "<init>", "(I)V"⟩
abbrev cJ4_toString_0e30d : ByteArray := prog_47_method_42_code
def yJ4_toString_0e30d : MethodName := ⟨"java/lang/StringBuilder", "toString", "()Ljava/lang/String;"⟩
abbrev cJ4_setLength_d00df : ByteArray := prog_47_method_89_code
def yJ4_setLength_d00df : MethodName := ⟨"java/lang/StringBuilder", "setLength", "(I)V"⟩
abbrev cJ4_length_8abf5 : ByteArray := prog_47_method_93_code
def yJ4_length_8abf5 : MethodName := ⟨"java/lang/StringBuilder", "length", "()I"⟩
abbrev cJ0_init_81219 : ByteArray := prog_46_method_53_code
def yJ0_init_81219 : MethodName := ⟨"java/lang/String", "<init>", "(Ljava/lang/StringBuilder;)V"⟩
abbrev cJ0_init_db425 : ByteArray := prog_46_method_150_code
def yJ0_init_db425 : MethodName := ⟨"java/lang/String", "<init>", "(Ljava/lang/AbstractStringBuilder;Ljava/lang/Void;)V"⟩
abbrev cJ0_length_8abf5 : ByteArray := prog_46_method_54_code
def yJ0_length_8abf5 : MethodName := ⟨"java/lang/String", "length", "()I"⟩
abbrev cJ0_charAt_5068e : ByteArray := prog_46_method_56_code
def yJ0_charAt_5068e : MethodName := ⟨"java/lang/String", "charAt", "(I)C"⟩
abbrev cJ0_coder_7d493 : ByteArray := prog_46_method_152_code
def yJ0_coder_7d493 : MethodName := ⟨"java/lang/String", "coder", "()B"⟩
abbrev cJ0_isLatin1_aae02 : ByteArray := prog_46_method_154_code
def yJ0_isLatin1_aae02 : MethodName := ⟨"java/lang/String", "isLatin1", "()Z"⟩
abbrev cJ0_checkIndex_df160 : ByteArray := prog_46_method_155_code
def yJ0_checkIndex_df160 : MethodName := ⟨"java/lang/String", "checkIndex", "(II)V"⟩
abbrev cJ1_charAt_3b067 : ByteArray := prog_48_method_2_code
def yJ1_charAt_3b067 : MethodName := ⟨"java/lang/StringLatin1", "charAt", "([BI)C"⟩
abbrev cJ3_checkIndex_8e157 : ByteArray := prog_65_method_11_code
def yJ3_checkIndex_8e157 : MethodName := ⟨"jdk/internal/util/Preconditions", "checkIndex", "(IILjava/util/function/BiFunction;)I"⟩
abbrev cJ7_copyOfRange_39247 : ByteArray := prog_57_method_132_code
def yJ7_copyOfRange_39247 : MethodName := ⟨"java/util/Arrays", "copyOfRange", "([BII)[B"⟩
abbrev cJ7_copyOfRangeByte_39247 : ByteArray := prog_57_method_133_code
def yJ7_copyOfRangeByte_39247 : MethodName := ⟨"java/util/Arrays", "copyOfRangeByte", "([BII)[B"⟩
abbrev cJxa1e45_init_da8c8 : ByteArray := prog_54_method_1_code
def yJxa1e45_init_da8c8 : MethodName := ⟨"java/util/AbstractCollection", "<init>", "()V"⟩
abbrev cJxc12de_init_da8c8 : ByteArray := prog_55_method_1_code
def yJxc12de_init_da8c8 : MethodName := ⟨"java/util/AbstractList", "<init>", "()V"⟩
abbrev cJx4a65c_init_da8c8 : ByteArray := prog_56_method_2_code
def yJx4a65c_init_da8c8 : MethodName := ⟨"java/util/ArrayList", "<init>", "()V"⟩
abbrev cJx4a65c_size_8abf5 : ByteArray := prog_56_method_8_code
def yJx4a65c_size_8abf5 : MethodName := ⟨"java/util/ArrayList", "size", "()I"⟩
def TB0 : List Cond := [.instanceMethod objectInit, .code objectInit ⟨#[0xb1]⟩ 1 none, .code yX12_init cX12_init 1 none, .initialized "LoanHouse", .instanceMethod yX12_init, .methodLink "LoanHouse" 3 objectInit, .arrayClass .byte, .fieldLink "LoanHouse" 9 "LoanHouse" "text" "[B", .arrayClass .long, .fieldLink "LoanHouse" 13 "LoanHouse" "given" "[J", .classLink "LoanHouse" 17 "LoanHouse$Tree", .instantiable "LoanHouse$Tree" 12, .initialized "LoanHouse$Tree", .fieldLink "LoanHouse" 20 "LoanHouse" "tree" "LLoanHouse$Tree;", .classLink "LoanHouse" 24 "LoanHouse$Reader", .instantiable "LoanHouse$Reader" 18, .initialized "LoanHouse$Reader", .fieldLink "LoanHouse" 29 "LoanHouse" "reader" "LLoanHouse$Reader;", .classLink "LoanHouse" 33 "LoanHouse$Checker", .instantiable "LoanHouse$Checker" 11, .initialized "LoanHouse$Checker", .fieldLink "LoanHouse" 36 "LoanHouse" "checker" "LLoanHouse$Checker;", .classLink "LoanHouse" 40 "LoanHouse$Emitter", .instantiable "LoanHouse$Emitter" 10, .initialized "LoanHouse$Emitter", .fieldLink "LoanHouse" 43 "LoanHouse" "emitter" "LLoanHouse$Emitter;", .classLink "LoanHouse" 47 "LoanHouse$Ways", .instantiable "LoanHouse$Ways" 22, .initialized "LoanHouse$Ways", .fieldLink "LoanHouse" 50 "LoanHouse" "ways" "LLoanHouse$Ways;"]
def TB1 : List Cond := [.classLink "LoanHouse" 54 "LoanHouse$Machine", .instantiable "LoanHouse$Machine" 21, .initialized "LoanHouse$Machine", .fieldLink "LoanHouse" 57 "LoanHouse" "machine" "LLoanHouse$Machine;", .classLink "LoanHouse" 61 "LoanHouse$Program", .instantiable "LoanHouse$Program" 15, .initialized "LoanHouse$Program", .fieldLink "LoanHouse" 64 "LoanHouse" "program" "LLoanHouse$Program;", .fieldLink "LoanHouse" 68 "LoanHouse" "faultKind" "I", .fieldLink "LoanHouse" 72 "LoanHouse" "faultPlace" "I", .fieldLink "LoanHouse" 75 "LoanHouse" "faultOther" "I", .code yX12_feed cX12_feed 6 (some .int), .instanceMethod yX12_feed, .selects "LoanHouse" yX12_feed yX12_feed, .fieldLink "LoanHouse" 78 "LoanHouse" "textLength" "I", .methodLink "LoanHouse" 81 yX12_feedNumber, .code yX12_feedNumber cX12_feedNumber 3 none, .instanceMethod yX12_feedNumber, .selects "LoanHouse" yX12_feedNumber yX12_feedNumber, .code yX12_judge cX12_judge 2 (some .int), .instanceMethod yX12_judge, .selects "LoanHouse" yX12_judge yX12_judge, .methodLink "LoanHouse" 89 yX12_judgeTree, .code yX12_judgeTree cX12_judgeTree 3 (some .int), .instanceMethod yX12_judgeTree, .selects "LoanHouse" yX12_judgeTree yX12_judgeTree, .fieldLink "LoanHouse" 96 "LoanHouse" "hasProgram" "Z", .fieldLink "LoanHouse" 100 "LoanHouse" "next" "LLoanHouse$Program;", .code yX12_fault cX12_fault 2 (some .int), .instanceMethod yX12_fault]
def TB2 : List Cond := [.selects "LoanHouse" yX12_fault yX12_fault, .code yX12_give cX12_give 3 (some .int), .instanceMethod yX12_give, .selects "LoanHouse" yX12_give yX12_give, .fieldLink "LoanHouse" 133 "LoanHouse" "givenTotal" "I", .code yX12_run cX12_run 2 (some .int), .instanceMethod yX12_run, .selects "LoanHouse" yX12_run yX12_run, .constant "LoanHouse" 136 (50000), .fieldLink "LoanHouse" 103 "LoanHouse" "hasRun" "Z", .code yX12_about cX12_about 2 (some .int), .instanceMethod yX12_about, .selects "LoanHouse" yX12_about yX12_about, .code yX12_out cX12_out 3 (some .long), .instanceMethod yX12_out, .selects "LoanHouse" yX12_out yX12_out, .code yX12_count cX12_count 2 (some .int), .instanceMethod yX12_count, .selects "LoanHouse" yX12_count yX12_count, .code yX12_place cX12_place 3 (some .int), .instanceMethod yX12_place, .selects "LoanHouse" yX12_place yX12_place, .code yX12_loan cX12_loan 3 (some .int), .instanceMethod yX12_loan, .selects "LoanHouse" yX12_loan yX12_loan, .code yX12_force cX12_force 3 (some .int), .instanceMethod yX12_force, .selects "LoanHouse" yX12_force yX12_force, .code yX12_function cX12_function 3 (some .int), .instanceMethod yX12_function]
def TB3 : List Cond := [.selects "LoanHouse" yX12_function yX12_function, .code yX12_size cX12_size 2 (some .int), .instanceMethod yX12_size, .selects "LoanHouse" yX12_size yX12_size, .code yX12_strays cX12_strays 1 (some .int), .instanceMethod yX12_strays, .selects "LoanHouse" yX12_strays yX12_strays, .code yX12_twices cX12_twices 1 (some .int), .instanceMethod yX12_twices, .selects "LoanHouse" yX12_twices yX12_twices, .code yX12_lefts cX12_lefts 1 (some .int), .instanceMethod yX12_lefts, .selects "LoanHouse" yX12_lefts yX12_lefts, .code yX12_clashes cX12_clashes 1 (some .int), .instanceMethod yX12_clashes, .selects "LoanHouse" yX12_clashes yX12_clashes, .code yX8_init cX8_init 1 none, .instanceMethod yX8_init, .methodLink "LoanHouse$Tree" 3 objectInit, .arrayClass .int, .fieldLink "LoanHouse$Tree" 9 "LoanHouse$Tree" "kind" "[I", .fieldLink "LoanHouse$Tree" 15 "LoanHouse$Tree" "pos" "[I", .fieldLink "LoanHouse$Tree" 18 "LoanHouse$Tree" "from" "[I", .fieldLink "LoanHouse$Tree" 21 "LoanHouse$Tree" "name" "[I", .fieldLink "LoanHouse$Tree" 24 "LoanHouse$Tree" "a" "[I", .fieldLink "LoanHouse$Tree" 27 "LoanHouse$Tree" "b" "[I", .fieldLink "LoanHouse$Tree" 30 "LoanHouse$Tree" "c" "[I", .fieldLink "LoanHouse$Tree" 33 "LoanHouse$Tree" "next" "[I", .fieldLink "LoanHouse$Tree" 36 "LoanHouse$Tree" "value" "[J", .fieldLink "LoanHouse$Tree" 40 "LoanHouse$Tree" "type" "[I"]
def TB4 : List Cond := [.fieldLink "LoanHouse$Tree" 43 "LoanHouse$Tree" "ref" "[I", .fieldLink "LoanHouse$Tree" 46 "LoanHouse$Tree" "total" "I", .code yX8_clear cX8_clear 1 none, .instanceMethod yX8_clear, .selects "LoanHouse$Tree" yX8_clear yX8_clear, .code yX8_add cX8_add 4 (some .int), .instanceMethod yX8_add, .selects "LoanHouse$Tree" yX8_add yX8_add, .code yX6_init cX6_init 3 none, .instanceMethod yX6_init, .methodLink "LoanHouse$Reader" 3 objectInit, .methodLink "LoanHouse$Reader" 11 yJ0_length_8abf5, .fieldLink "LoanHouse$Reader" 17 "LoanHouse$Reader" "pool" "[B", .fieldLink "LoanHouse$Reader" 23 "LoanHouse$Reader" "nameStart" "[I", .fieldLink "LoanHouse$Reader" 27 "LoanHouse$Reader" "nameLength" "[I", .fieldLink "LoanHouse$Reader" 30 "LoanHouse$Reader" "nameNext" "[I", .fieldLink "LoanHouse$Reader" 33 "LoanHouse$Reader" "heads" "[I", .fieldLink "LoanHouse$Reader" 36 "LoanHouse$Reader" "tokenKind" "[I", .fieldLink "LoanHouse$Reader" 39 "LoanHouse$Reader" "tokenPos" "[I", .fieldLink "LoanHouse$Reader" 42 "LoanHouse$Reader" "tokenValue" "[J", .fieldLink "LoanHouse$Reader" 46 "LoanHouse$Reader" "tree" "LLoanHouse$Tree;", .methodLink "LoanHouse$Reader" 50 yJ0_charAt_5068e, .code yX6_read cX6_read 8 (some .int), .instanceMethod yX6_read, .selects "LoanHouse$Reader" yX6_read yX6_read, .methodLink "LoanHouse$Reader" 54 arraycopyName, .static arraycopyName, .native arraycopyName, .initialized "java/lang/System", .fieldLink "LoanHouse$Reader" 60 "LoanHouse$Reader" "at" "I"]
def TB5 : List Cond := [.fieldLink "LoanHouse$Reader" 64 "LoanHouse$Reader" "end" "I", .fieldLink "LoanHouse$Reader" 67 "LoanHouse$Reader" "open" "I", .fieldLink "LoanHouse$Reader" 70 "LoanHouse$Reader" "wrong" "I", .methodLink "LoanHouse$Reader" 73 yX6_takeWords, .methodLink "LoanHouse$Reader" 76 yX6_takeTokens, .fieldLink "LoanHouse$Reader" 84 "LoanHouse$Reader" "current" "I", .methodLink "LoanHouse$Reader" 87 yX6_advance, .fieldLink "LoanHouse$Reader" 94 "LoanHouse$Reader" "kind" "I", .fieldLink "LoanHouse$Reader" 97 "LoanHouse$Reader" "pos" "I", .code yX6_takeWords cX6_takeWords 3 none, .instanceMethod yX6_takeWords, .selects "LoanHouse$Reader" yX6_takeWords yX6_takeWords, .fieldLink "LoanHouse$Reader" 119 "LoanHouse$Reader" "names" "I", .methodLink "LoanHouse$Reader" 122 yX6_nameOf, .code yX6_nameOf cX6_nameOf 6 (some .int), .instanceMethod yX6_nameOf, .selects "LoanHouse$Reader" yX6_nameOf yX6_nameOf, .methodLink "LoanHouse$Reader" 125 yX6_alike, .code yX6_alike cX6_alike 5 (some .boolean), .instanceMethod yX6_alike, .selects "LoanHouse$Reader" yX6_alike yX6_alike, .code yX6_takeTokens cX6_takeTokens 3 none, .instanceMethod yX6_takeTokens, .selects "LoanHouse$Reader" yX6_takeTokens yX6_takeTokens, .fieldLink "LoanHouse$Reader" 129 "LoanHouse$Reader" "tokens" "I", .methodLink "LoanHouse$Reader" 132 yX6_skipBlanks, .code yX6_skipBlanks cX6_skipBlanks 5 none, .instanceMethod yX6_skipBlanks, .selects "LoanHouse$Reader" yX6_skipBlanks yX6_skipBlanks, .code yX6_advance cX6_advance 1 none]
def TB6 : List Cond := [.instanceMethod yX6_advance, .selects "LoanHouse$Reader" yX6_advance yX6_advance, .code yX0_init cX0_init 2 none, .instanceMethod yX0_init, .methodLink "LoanHouse$Checker" 3 objectInit, .fieldLink "LoanHouse$Checker" 9 "LoanHouse$Checker" "tree" "LLoanHouse$Tree;", .code yX0_check cX0_check 6 (some .int), .instanceMethod yX0_check, .selects "LoanHouse$Checker" yX0_check yX0_check, .fieldLink "LoanHouse$Checker" 21 "LoanHouse$Checker" "types" "LLoanHouse$Types;", .fieldLink "LoanHouse$Checker" 26 "LoanHouse$Checker" "functions" "LLoanHouse$Functions;", .fieldLink "LoanHouse$Checker" 31 "LoanHouse$Checker" "variables" "LLoanHouse$Variables;", .fieldLink "LoanHouse$Checker" 36 "LoanHouse$Checker" "places" "LLoanHouse$Places;", .constant "LoanHouse$Checker" 37 (1073741824), .fieldLink "LoanHouse$Checker" 38 "LoanHouse$Checker" "least" "I", .methodLink "LoanHouse$Checker" 48 yX0_declareAll, .methodLink "LoanHouse$Checker" 67 yX0_measures, .methodLink "LoanHouse$Checker" 81 yX0_mainFunction, .code yX0_declareAll cX0_declareAll 4 none, .instanceMethod yX0_declareAll, .selects "LoanHouse$Checker" yX0_declareAll yX0_declareAll, .code yX0_measures cX0_measures 5 none, .instanceMethod yX0_measures, .selects "LoanHouse$Checker" yX0_measures yX0_measures, .methodLink "LoanHouse$Checker" 126 yX0_broken, .code yX0_mainFunction cX0_mainFunction 4 none, .instanceMethod yX0_mainFunction, .selects "LoanHouse$Checker" yX0_mainFunction yX0_mainFunction, .code yX0_broken cX0_broken 2 none, .instanceMethod yX0_broken]
def TB7 : List Cond := [.selects "LoanHouse$Checker" yX0_broken yX0_broken, .methodLink "LoanHouse$Checker" 84 Lib.Math.min.name, .static Lib.Math.min.name, .code Lib.Math.min.name Lib.Math.min.code 2 (some .int), .initialized "java/lang/Math", .code yX1_init cX1_init 2 none, .instanceMethod yX1_init, .methodLink "LoanHouse$Emitter" 3 objectInit, .fieldLink "LoanHouse$Emitter" 9 "LoanHouse$Emitter" "tree" "LLoanHouse$Tree;", .code yX11_init cX11_init 1 none, .instanceMethod yX11_init, .methodLink "LoanHouse$Ways" 5 objectInit, .fieldLink "LoanHouse$Ways" 11 "LoanHouse$Ways" "state" "[J", .fieldLink "LoanHouse$Ways" 15 "LoanHouse$Ways" "labelState" "[J", .arrayClass .boolean, .fieldLink "LoanHouse$Ways" 18 "LoanHouse$Ways" "labelCome" "[Z", .fieldLink "LoanHouse$Ways" 22 "LoanHouse$Ways" "temps" "[J", .fieldLink "LoanHouse$Ways" 25 "LoanHouse$Ways" "matched" "[J", .fieldLink "LoanHouse$Ways" 28 "LoanHouse$Ways" "used" "[J", .fieldLink "LoanHouse$Ways" 31 "LoanHouse$Ways" "met" "[Z", .code yX3_init cX3_init 1 none, .instanceMethod yX3_init, .methodLink "LoanHouse$Machine" 3 objectInit, .classLink "LoanHouse$Machine" 9 "LoanHouse$Store", .instantiable "LoanHouse$Store" 19, .initialized "LoanHouse$Store", .fieldLink "LoanHouse$Machine" 12 "LoanHouse$Machine" "store" "LLoanHouse$Store;", .classLink "LoanHouse$Machine" 18 "[[J", .fieldLink "LoanHouse$Machine" 20 "LoanHouse$Machine" "waiting" "[[J", .fieldLink "LoanHouse$Machine" 23 "LoanHouse$Machine" "parts" "[J"]
def TB8 : List Cond := [.code yX7_init cX7_init 1 none, .instanceMethod yX7_init, .methodLink "LoanHouse$Store" 3 objectInit, .fieldLink "LoanHouse$Store" 9 "LoanHouse$Store" "cells" "[J", .fieldLink "LoanHouse$Store" 15 "LoanHouse$Store" "boxUsed" "[Z", .fieldLink "LoanHouse$Store" 19 "LoanHouse$Store" "rowUsed" "[Z", .fieldLink "LoanHouse$Store" 22 "LoanHouse$Store" "rowLength" "[I", .fieldLink "LoanHouse$Store" 26 "LoanHouse$Store" "outKind" "[I", .fieldLink "LoanHouse$Store" 29 "LoanHouse$Store" "outNumber" "[J", .fieldLink "LoanHouse$Store" 32 "LoanHouse$Store" "dropType" "[I", .fieldLink "LoanHouse$Store" 35 "LoanHouse$Store" "dropAt" "[I", .code yX5_init cX5_init 1 none, .instanceMethod yX5_init, .methodLink "LoanHouse$Program" 3 objectInit, .classLink "LoanHouse$Program" 9 "LoanHouse$Types", .instantiable "LoanHouse$Types" 19, .initialized "LoanHouse$Types", .fieldLink "LoanHouse$Program" 12 "LoanHouse$Program" "types" "LLoanHouse$Types;", .classLink "LoanHouse$Program" 18 "LoanHouse$Functions", .instantiable "LoanHouse$Functions" 19, .initialized "LoanHouse$Functions", .fieldLink "LoanHouse$Program" 21 "LoanHouse$Program" "functions" "LLoanHouse$Functions;", .classLink "LoanHouse$Program" 25 "LoanHouse$Variables", .instantiable "LoanHouse$Variables" 12, .initialized "LoanHouse$Variables", .fieldLink "LoanHouse$Program" 28 "LoanHouse$Program" "variables" "LLoanHouse$Variables;", .classLink "LoanHouse$Program" 32 "LoanHouse$Places", .instantiable "LoanHouse$Places" 20, .initialized "LoanHouse$Places", .fieldLink "LoanHouse$Program" 35 "LoanHouse$Program" "places" "LLoanHouse$Places;"]
def TB9 : List Cond := [.fieldLink "LoanHouse$Program" 39 "LoanHouse$Program" "op" "[I", .fieldLink "LoanHouse$Program" 43 "LoanHouse$Program" "x" "[I", .fieldLink "LoanHouse$Program" 46 "LoanHouse$Program" "y" "[I", .fieldLink "LoanHouse$Program" 49 "LoanHouse$Program" "z" "[I", .fieldLink "LoanHouse$Program" 52 "LoanHouse$Program" "pos" "[I", .fieldLink "LoanHouse$Program" 55 "LoanHouse$Program" "label" "[I", .fieldLink "LoanHouse$Program" 58 "LoanHouse$Program" "order" "[I", .code yX5_clear cX5_clear 1 none, .instanceMethod yX5_clear, .selects "LoanHouse$Program" yX5_clear yX5_clear, .fieldLink "LoanHouse$Program" 67 "LoanHouse$Program" "slots" "I", .fieldLink "LoanHouse$Program" 71 "LoanHouse$Program" "labels" "I", .fieldLink "LoanHouse$Program" 74 "LoanHouse$Program" "matches" "I", .fieldLink "LoanHouse$Program" 77 "LoanHouse$Program" "orders" "I", .code yX9_init cX9_init 1 none, .instanceMethod yX9_init, .methodLink "LoanHouse$Types" 3 objectInit, .fieldLink "LoanHouse$Types" 9 "LoanHouse$Types" "kind" "[I", .fieldLink "LoanHouse$Types" 15 "LoanHouse$Types" "arg" "[I", .fieldLink "LoanHouse$Types" 18 "LoanHouse$Types" "declName" "[I", .fieldLink "LoanHouse$Types" 21 "LoanHouse$Types" "declForm" "[I", .fieldLink "LoanHouse$Types" 24 "LoanHouse$Types" "declFirst" "[I", .fieldLink "LoanHouse$Types" 27 "LoanHouse$Types" "declWidth" "[I", .fieldLink "LoanHouse$Types" 30 "LoanHouse$Types" "declCells" "[I", .fieldLink "LoanHouse$Types" 33 "LoanHouse$Types" "declParts" "[I", .fieldLink "LoanHouse$Types" 36 "LoanHouse$Types" "declLeaves" "[I", .fieldLink "LoanHouse$Types" 39 "LoanHouse$Types" "variantName" "[I", .fieldLink "LoanHouse$Types" 42 "LoanHouse$Types" "variantFirst" "[I", .fieldLink "LoanHouse$Types" 45 "LoanHouse$Types" "variantWidth" "[I", .fieldLink "LoanHouse$Types" 48 "LoanHouse$Types" "memberName" "[I"]
def TB10 : List Cond := [.fieldLink "LoanHouse$Types" 51 "LoanHouse$Types" "memberType" "[I", .fieldLink "LoanHouse$Types" 54 "LoanHouse$Types" "memberCell" "[I", .code yX9_clear cX9_clear 1 none, .instanceMethod yX9_clear, .selects "LoanHouse$Types" yX9_clear yX9_clear, .fieldLink "LoanHouse$Types" 57 "LoanHouse$Types" "decls" "I", .fieldLink "LoanHouse$Types" 61 "LoanHouse$Types" "variants" "I", .fieldLink "LoanHouse$Types" 64 "LoanHouse$Types" "members" "I", .fieldLink "LoanHouse$Types" 67 "LoanHouse$Types" "total" "I", .code yX9_measure cX9_measure 4 none, .instanceMethod yX9_measure, .selects "LoanHouse$Types" yX9_measure yX9_measure, .code yX2_init cX2_init 1 none, .instanceMethod yX2_init, .methodLink "LoanHouse$Functions" 3 objectInit, .fieldLink "LoanHouse$Functions" 9 "LoanHouse$Functions" "name" "[I", .fieldLink "LoanHouse$Functions" 15 "LoanHouse$Functions" "node" "[I", .fieldLink "LoanHouse$Functions" 18 "LoanHouse$Functions" "result" "[I", .fieldLink "LoanHouse$Functions" 21 "LoanHouse$Functions" "of" "[J", .fieldLink "LoanHouse$Functions" 25 "LoanHouse$Functions" "params" "[I", .fieldLink "LoanHouse$Functions" 28 "LoanHouse$Functions" "firstParam" "[I", .fieldLink "LoanHouse$Functions" 31 "LoanHouse$Functions" "paramType" "[I", .fieldLink "LoanHouse$Functions" 34 "LoanHouse$Functions" "firstVariable" "[I", .fieldLink "LoanHouse$Functions" 37 "LoanHouse$Functions" "variables" "[I", .fieldLink "LoanHouse$Functions" 40 "LoanHouse$Functions" "firstLeaf" "[I", .fieldLink "LoanHouse$Functions" 43 "LoanHouse$Functions" "leaves" "[I", .fieldLink "LoanHouse$Functions" 46 "LoanHouse$Functions" "splits" "[I", .fieldLink "LoanHouse$Functions" 49 "LoanHouse$Functions" "firstLoan" "[I", .fieldLink "LoanHouse$Functions" 52 "LoanHouse$Functions" "loans" "[I", .fieldLink "LoanHouse$Functions" 55 "LoanHouse$Functions" "entry" "[I"]
def TB11 : List Cond := [.fieldLink "LoanHouse$Functions" 58 "LoanHouse$Functions" "cells" "[I", .code yX2_clear cX2_clear 1 none, .instanceMethod yX2_clear, .selects "LoanHouse$Functions" yX2_clear yX2_clear, .fieldLink "LoanHouse$Functions" 61 "LoanHouse$Functions" "total" "I", .fieldLink "LoanHouse$Functions" 65 "LoanHouse$Functions" "paramTotal" "I", .fieldLink "LoanHouse$Functions" 68 "LoanHouse$Functions" "main" "I", .code yX10_init cX10_init 1 none, .instanceMethod yX10_init, .methodLink "LoanHouse$Variables" 3 objectInit, .fieldLink "LoanHouse$Variables" 9 "LoanHouse$Variables" "name" "[I", .fieldLink "LoanHouse$Variables" 15 "LoanHouse$Variables" "pos" "[I", .fieldLink "LoanHouse$Variables" 18 "LoanHouse$Variables" "type" "[I", .fieldLink "LoanHouse$Variables" 21 "LoanHouse$Variables" "outer" "[I", .fieldLink "LoanHouse$Variables" 24 "LoanHouse$Variables" "firstLeaf" "[I", .fieldLink "LoanHouse$Variables" 27 "LoanHouse$Variables" "leafCount" "[I", .fieldLink "LoanHouse$Variables" 30 "LoanHouse$Variables" "cell" "[I", .fieldLink "LoanHouse$Variables" 33 "LoanHouse$Variables" "loans" "[J", .fieldLink "LoanHouse$Variables" 37 "LoanHouse$Variables" "leafType" "[I", .fieldLink "LoanHouse$Variables" 40 "LoanHouse$Variables" "leafCell" "[I", .code yX10_clear cX10_clear 1 none, .instanceMethod yX10_clear, .selects "LoanHouse$Variables" yX10_clear yX10_clear, .fieldLink "LoanHouse$Variables" 43 "LoanHouse$Variables" "total" "I", .fieldLink "LoanHouse$Variables" 47 "LoanHouse$Variables" "leaves" "I", .code yX4_init cX4_init 1 none, .instanceMethod yX4_init, .methodLink "LoanHouse$Places" 3 objectInit, .fieldLink "LoanHouse$Places" 9 "LoanHouse$Places" "pos" "[I", .fieldLink "LoanHouse$Places" 15 "LoanHouse$Places" "act" "[I"]
def TB12 : List Cond := [.fieldLink "LoanHouse$Places" 18 "LoanHouse$Places" "fn" "[I", .fieldLink "LoanHouse$Places" 21 "LoanHouse$Places" "variable" "[I", .fieldLink "LoanHouse$Places" 24 "LoanHouse$Places" "type" "[I", .fieldLink "LoanHouse$Places" 27 "LoanHouse$Places" "firstStep" "[I", .fieldLink "LoanHouse$Places" 30 "LoanHouse$Places" "steps" "[I", .fieldLink "LoanHouse$Places" 33 "LoanHouse$Places" "leaf" "[I", .fieldLink "LoanHouse$Places" 36 "LoanHouse$Places" "leaves" "[I", .fieldLink "LoanHouse$Places" 39 "LoanHouse$Places" "further" "[Z", .fieldLink "LoanHouse$Places" 43 "LoanHouse$Places" "come" "[Z", .fieldLink "LoanHouse$Places" 46 "LoanHouse$Places" "force" "[J", .fieldLink "LoanHouse$Places" 50 "LoanHouse$Places" "stepKind" "[I", .fieldLink "LoanHouse$Places" 53 "LoanHouse$Places" "stepCell" "[I", .fieldLink "LoanHouse$Places" 56 "LoanHouse$Places" "stepPos" "[I", .fieldLink "LoanHouse$Places" 59 "LoanHouse$Places" "loanPos" "[I", .fieldLink "LoanHouse$Places" 62 "LoanHouse$Places" "loanPlace" "[I", .code yX4_clear cX4_clear 1 none, .instanceMethod yX4_clear, .selects "LoanHouse$Places" yX4_clear yX4_clear, .fieldLink "LoanHouse$Places" 65 "LoanHouse$Places" "total" "I", .fieldLink "LoanHouse$Places" 69 "LoanHouse$Places" "stepTotal" "I", .fieldLink "LoanHouse$Places" 72 "LoanHouse$Places" "loans" "I", .code yX30_init cX30_init 1 none, .initialized "LoanHouseModel", .instanceMethod yX30_init, .methodLink "LoanHouseModel" 3 objectInit, .fieldLink "LoanHouseModel" 9 "LoanHouseModel" "text" "[B", .fieldLink "LoanHouseModel" 13 "LoanHouseModel" "kindOf" "[I", .fieldLink "LoanHouseModel" 17 "LoanHouseModel" "placeOf" "[I", .fieldLink "LoanHouseModel" 20 "LoanHouseModel" "endOf" "[I", .classLink "LoanHouseModel" 23 "java/lang/String"]
def TB13 : List Cond := [.instantiable "java/lang/String" 4, .initialized "java/lang/String", .fieldLink "LoanHouseModel" 25 "LoanHouseModel" "wordOf" "[Ljava/lang/String;", .fieldLink "LoanHouseModel" 29 "LoanHouseModel" "late" "[Ljava/lang/String;", .classLink "LoanHouseModel" 32 "java/lang/StringBuilder", .instantiable "java/lang/StringBuilder" 4, .initialized "java/lang/StringBuilder", .methodLink "LoanHouseModel" 34 yJ4_init_d00df, .fieldLink "LoanHouseModel" 37 "LoanHouseModel" "builder" "Ljava/lang/StringBuilder;", .fieldLink "LoanHouseModel" 41 "LoanHouseModel" "ones" "[Ljava/lang/String;", .classLink "LoanHouseModel" 44 "java/util/ArrayList", .instantiable "java/util/ArrayList" 3, .initialized "java/util/ArrayList", .methodLink "LoanHouseModel" 46 yJx4a65c_init_da8c8, .fieldLink "LoanHouseModel" 47 "LoanHouseModel" "exps" "Ljava/util/ArrayList;", .fieldLink "LoanHouseModel" 51 "LoanHouseModel" "takenExps" "Ljava/util/ArrayList;", .classLink "LoanHouseModel" 54 "LoanHouseModel$Type", .instantiable "LoanHouseModel$Type" 3, .initialized "LoanHouseModel$Type", .methodLink "LoanHouseModel" 56 yX26_init, .fieldLink "LoanHouseModel" 59 "LoanHouseModel" "intType" "LLoanHouseModel$Type;", .fieldLink "LoanHouseModel" 63 "LoanHouseModel" "boolType" "LLoanHouseModel$Type;", .fieldLink "LoanHouseModel" 66 "LoanHouseModel" "scope" "Ljava/util/ArrayList;", .fieldLink "LoanHouseModel" 69 "LoanHouseModel" "nodes" "Ljava/util/ArrayList;", .fieldLink "LoanHouseModel" 72 "LoanHouseModel" "live" "Ljava/util/ArrayList;", .fieldLink "LoanHouseModel" 75 "LoanHouseModel" "allNodes" "Ljava/util/ArrayList;", .fieldLink "LoanHouseModel" 78 "LoanHouseModel" "takenNodes" "Ljava/util/ArrayList;", .fieldLink "LoanHouseModel" 81 "LoanHouseModel" "all" "[J", .fieldLink "LoanHouseModel" 85 "LoanHouseModel" "some" "[J", .fieldLink "LoanHouseModel" 88 "LoanHouseModel" "used" "[J"]
def TB14 : List Cond := [.fieldLink "LoanHouseModel" 91 "LoanHouseModel" "holds" "[J", .fieldLink "LoanHouseModel" 94 "LoanHouseModel" "column" "[I", .fieldLink "LoanHouseModel" 97 "LoanHouseModel" "mark" "[Z", .fieldLink "LoanHouseModel" 101 "LoanHouseModel" "now" "[J", .fieldLink "LoanHouseModel" 104 "LoanHouseModel" "forces" "[J", .fieldLink "LoanHouseModel" 107 "LoanHouseModel" "entries" "Ljava/util/ArrayList;", .fieldLink "LoanHouseModel" 110 "LoanHouseModel" "lastFault" "I", .fieldLink "LoanHouseModel" 114 "LoanHouseModel" "lastPlace" "I", .fieldLink "LoanHouseModel" 117 "LoanHouseModel" "lastOther" "I", .fieldLink "LoanHouseModel" 120 "LoanHouseModel" "made" "Ljava/util/ArrayList;", .fieldLink "LoanHouseModel" 123 "LoanHouseModel" "takenForces" "[J", .fieldLink "LoanHouseModel" 126 "LoanHouseModel" "type" "[LLoanHouseModel$Type;", .fieldLink "LoanHouseModel" 130 "LoanHouseModel" "num" "[J", .fieldLink "LoanHouseModel" 133 "LoanHouseModel" "times" "[J", .fieldLink "LoanHouseModel" 136 "LoanHouseModel" "tree" "[J", .fieldLink "LoanHouseModel" 139 "LoanHouseModel" "kin" "[J", .fieldLink "LoanHouseModel" 142 "LoanHouseModel" "by" "[J", .constant "LoanHouseModel" 145 (65536), .fieldLink "LoanHouseModel" 146 "LoanHouseModel" "lentOf" "[I", .fieldLink "LoanHouseModel" 149 "LoanHouseModel" "heap" "[I", .fieldLink "LoanHouseModel" 152 "LoanHouseModel" "outKind" "[I", .fieldLink "LoanHouseModel" 155 "LoanHouseModel" "outNumber" "[J", .fieldLink "LoanHouseModel" 158 "LoanHouseModel" "renamed" "[I", .fieldLink "LoanHouseModel" 161 "LoanHouseModel" "gave" "[J", .fieldLink "LoanHouseModel" 164 "LoanHouseModel" "stack" "[I", .classLink "LoanHouseModel" 167 "LoanHouseModel$Fn", .instantiable "LoanHouseModel$Fn" 17, .initialized "LoanHouseModel$Fn", .fieldLink "LoanHouseModel" 169 "LoanHouseModel" "callFn" "[LLoanHouseModel$Fn;", .classLink "LoanHouseModel" 173 "LoanHouseModel$Node"]
def TB15 : List Cond := [.instantiable "LoanHouseModel$Node" 15, .initialized "LoanHouseModel$Node", .fieldLink "LoanHouseModel" 175 "LoanHouseModel" "callBack" "[LLoanHouseModel$Node;", .fieldLink "LoanHouseModel" 179 "LoanHouseModel" "callBase" "[I", .fieldLink "LoanHouseModel" 182 "LoanHouseModel" "actives" "[I", .fieldLink "LoanHouseModel" 185 "LoanHouseModel" "variable" "[I", .fieldLink "LoanHouseModel" 188 "LoanHouseModel" "active" "[I", .fieldLink "LoanHouseModel" 191 "LoanHouseModel" "keptParts" "[I", .code yX30_feed cX30_feed 8 (some .int), .instanceMethod yX30_feed, .selects "LoanHouseModel" yX30_feed yX30_feed, .fieldLink "LoanHouseModel" 1231 "LoanHouseModel" "textSize" "I", .code yX30_judge cX30_judge 4 (some .int), .instanceMethod yX30_judge, .selects "LoanHouseModel" yX30_judge yX30_judge, .fieldLink "LoanHouseModel" 291 "LoanHouseModel" "fault" "I", .fieldLink "LoanHouseModel" 294 "LoanHouseModel" "faultPlace" "I", .fieldLink "LoanHouseModel" 297 "LoanHouseModel" "otherPlace" "I", .methodLink "LoanHouseModel" 1234 yX30_split, .fieldLink "LoanHouseModel" 284 "LoanHouseModel" "at" "I", .fieldLink "LoanHouseModel" 313 "LoanHouseModel" "open" "I", .classLink "LoanHouseModel" 400 "LoanHouseModel$Program", .instantiable "LoanHouseModel$Program" 4, .initialized "LoanHouseModel$Program", .fieldLink "LoanHouseModel" 395 "LoanHouseModel" "program" "LLoanHouseModel$Program;", .fieldLink "LoanHouseModel" 621 "LoanHouseModel" "expsUsed" "I", .fieldLink "LoanHouseModel" 1010 "LoanHouseModel" "nodesUsed" "I", .fieldLink "LoanHouseModel" 489 "LoanHouseModel" "inHand" "LLoanHouseModel$Fn;", .methodLink "LoanHouseModel" 1238 yX30_readText, .methodLink "LoanHouseModel" 1241 yX30_ruleItems]
def TB16 : List Cond := [.methodLink "LoanHouseModel" 1244 yX30_ruleFns, .fieldLink "LoanHouseModel" 1250 "LoanHouseModel" "taken" "LLoanHouseModel$Program;", .fieldLink "LoanHouseModel" 1253 "LoanHouseModel" "wasRun" "Z", .code yX30_split cX30_split 9 none, .instanceMethod yX30_split, .selects "LoanHouseModel" yX30_split yX30_split, .fieldLink "LoanHouseModel" 201 "LoanHouseModel" "tokens" "I", .methodLink "LoanHouseModel" 263 yX30_token, .constantLong "LoanHouseModel" 274 (9223372036854775807), .constantLong "LoanHouseModel" 276 (10), .code yX30_token cX30_token 4 none, .instanceMethod yX30_token, .selects "LoanHouseModel" yX30_token yX30_token, .methodLink "LoanHouseModel" 210 yX30_known, .code yX30_known cX30_known 5 (some (.object "java/lang/String")), .instanceMethod yX30_known, .selects "LoanHouseModel" yX30_known yX30_known, .methodLink "LoanHouseModel" 213 yX30_isLate, .methodLink "LoanHouseModel" 217 yX30_word, .code yX30_isLate cX30_isLate 5 (some .boolean), .instanceMethod yX30_isLate, .selects "LoanHouseModel" yX30_isLate yX30_isLate, .methodLink "LoanHouseModel" 220 yJ0_length_8abf5, .methodLink "LoanHouseModel" 224 yJ0_charAt_5068e, .code yX30_word cX30_word 4 (some (.object "java/lang/String")), .instanceMethod yX30_word, .selects "LoanHouseModel" yX30_word yX30_word, .methodLink "LoanHouseModel" 228 yJ4_setLength_d00df, .methodLink "LoanHouseModel" 235 yJ4_toString_0e30d, .code yX30_readText cX30_readText 1 none]
def TB17 : List Cond := [.instanceMethod yX30_readText, .selects "LoanHouseModel" yX30_readText yX30_readText, .methodLink "LoanHouseModel" 300 yX30_isOver, .code yX30_isOver cX30_isOver 1 (some .boolean), .instanceMethod yX30_isOver, .selects "LoanHouseModel" yX30_isOver yX30_isOver, .code yX30_ruleItems cX30_ruleItems 5 none, .instanceMethod yX30_ruleItems, .selects "LoanHouseModel" yX30_ruleItems yX30_ruleItems, .fieldLink "LoanHouseModel" 399 "LoanHouseModel$Program" "items" "Ljava/util/ArrayList;", .methodLink "LoanHouseModel" 404 yJx4a65c_size_8abf5, .classLink "LoanHouseModel" 348 "LoanHouseModel$Item", .instantiable "LoanHouseModel$Item" 13, .initialized "LoanHouseModel$Item", .fieldLink "LoanHouseModel" 351 "LoanHouseModel$Item" "first" "I", .methodLink "LoanHouseModel" 746 yX30_wrong, .fieldLink "LoanHouseModel" 364 "LoanHouseModel$Item" "name" "Ljava/lang/String;", .fieldLink "LoanHouseModel" 358 "LoanHouseModel$Item" "place" "I", .fieldLink "LoanHouseModel" 383 "LoanHouseModel$Item" "fields" "Ljava/util/ArrayList;", .classLink "LoanHouseModel" 441 "LoanHouseModel$Field", .instantiable "LoanHouseModel$Field" 4, .initialized "LoanHouseModel$Field", .fieldLink "LoanHouseModel" 444 "LoanHouseModel$Field" "place" "I", .fieldLink "LoanHouseModel" 445 "LoanHouseModel$Field" "name" "Ljava/lang/String;", .fieldLink "LoanHouseModel" 448 "LoanHouseModel$Field" "told" "LLoanHouseModel$Told;", .fieldLink "LoanHouseModel" 760 "LoanHouseModel$Field" "type" "LLoanHouseModel$Type;", .fieldLink "LoanHouseModel" 418 "LoanHouseModel$Item" "variants" "Ljava/util/ArrayList;", .fieldLink "LoanHouseModel" 369 "LoanHouseModel$Item" "isTold" "Z", .fieldLink "LoanHouseModel" 769 "LoanHouseModel$Type" "kind" "I", .fieldLink "LoanHouseModel" 773 "LoanHouseModel$Item" "isBad" "Z"]
def TB18 : List Cond := [.fieldLink "LoanHouseModel" 776 "LoanHouseModel$Item" "size" "I", .fieldLink "LoanHouseModel" 778 "LoanHouseModel$Item" "parts" "I", .code yX30_ruleFns cX30_ruleFns 5 none, .instanceMethod yX30_ruleFns, .selects "LoanHouseModel" yX30_ruleFns yX30_ruleFns, .fieldLink "LoanHouseModel" 501 "LoanHouseModel$Program" "fns" "Ljava/util/ArrayList;", .fieldLink "LoanHouseModel" 473 "LoanHouseModel$Fn" "first" "I", .fieldLink "LoanHouseModel" 475 "LoanHouseModel$Fn" "name" "Ljava/lang/String;", .methodLink "LoanHouseModel" 805 yX30_fnOf, .fieldLink "LoanHouseModel" 474 "LoanHouseModel$Fn" "place" "I", .fieldLink "LoanHouseModel" 476 "LoanHouseModel$Fn" "params" "Ljava/util/ArrayList;", .fieldLink "LoanHouseModel" 479 "LoanHouseModel$Fn" "told" "LLoanHouseModel$Told;", .fieldLink "LoanHouseModel" 809 "LoanHouseModel$Fn" "result" "LLoanHouseModel$Type;", .fieldLink "LoanHouseModel" 724 "LoanHouseModel$Program" "places" "Ljava/util/ArrayList;", .classLink "LoanHouseModel" 717 "LoanHouseModel$Place", .instantiable "LoanHouseModel$Place" 11, .initialized "LoanHouseModel$Place", .fieldLink "LoanHouseModel" 720 "LoanHouseModel$Place" "place" "I", .code yX30_fnOf cX30_fnOf 3 (some (.object "LoanHouseModel$Fn")), .instanceMethod yX30_fnOf, .selects "LoanHouseModel" yX30_fnOf yX30_fnOf, .code yX30_wrong cX30_wrong 2 none, .instanceMethod yX30_wrong, .selects "LoanHouseModel" yX30_wrong yX30_wrong, .methodLink "LoanHouseModel" 307 yX30_breaks, .code yX30_breaks cX30_breaks 4 none, .instanceMethod yX30_breaks, .selects "LoanHouseModel" yX30_breaks yX30_breaks, .code yX30_fault cX30_fault 2 (some .int), .instanceMethod yX30_fault]
def TB19 : List Cond := [.selects "LoanHouseModel" yX30_fault yX30_fault, .code yX30_give cX30_give 8 none, .instanceMethod yX30_give, .selects "LoanHouseModel" yX30_give yX30_give, .fieldLink "LoanHouseModel" 839 "LoanHouseModel$Var" "index" "I", .fieldLink "LoanHouseModel" 1172 "LoanHouseModel" "columns" "I", .constantLong "LoanHouseModel" 1117 (-1), .code yX30_run cX30_run 4 (some .int), .instanceMethod yX30_run, .selects "LoanHouseModel" yX30_run yX30_run, .constant "LoanHouseModel" 1545 (50000), .fieldLink "LoanHouseModel" 1294 "LoanHouseModel" "pool" "I", .fieldLink "LoanHouseModel" 1288 "LoanHouseModel" "spare" "I", .fieldLink "LoanHouseModel" 1341 "LoanHouseModel" "time" "J", .fieldLink "LoanHouseModel" 1401 "LoanHouseModel" "lends" "I", .fieldLink "LoanHouseModel" 1359 "LoanHouseModel" "strays" "I", .fieldLink "LoanHouseModel" 1387 "LoanHouseModel" "twices" "I", .fieldLink "LoanHouseModel" 1417 "LoanHouseModel" "clashes" "I", .fieldLink "LoanHouseModel" 1546 "LoanHouseModel" "lefts" "I", .fieldLink "LoanHouseModel" 1375 "LoanHouseModel" "outs" "I", .fieldLink "LoanHouseModel" 1477 "LoanHouseModel" "toldMade" "I", .fieldLink "LoanHouseModel" 1393 "LoanHouseModel" "toldDropped" "I", .fieldLink "LoanHouseModel" 1396 "LoanHouseModel" "boxes" "I", .fieldLink "LoanHouseModel" 1399 "LoanHouseModel" "rows" "I", .fieldLink "LoanHouseModel" 1480 "LoanHouseModel" "mostBoxes" "I", .fieldLink "LoanHouseModel" 1486 "LoanHouseModel" "mostRows" "I", .fieldLink "LoanHouseModel" 1496 "LoanHouseModel" "ended" "I", .fieldLink "LoanHouseModel" 1425 "LoanHouseModel" "failWhy" "I", .fieldLink "LoanHouseModel" 1428 "LoanHouseModel" "failPlace" "I", .fieldLink "LoanHouseModel" 1493 "LoanHouseModel" "steps" "I"]
def TB20 : List Cond := [.fieldLink "LoanHouseModel" 1499 "LoanHouseModel" "reads" "I", .fieldLink "LoanHouseModel" 1422 "LoanHouseModel" "high" "I", .fieldLink "LoanHouseModel" 1431 "LoanHouseModel" "calls" "I", .fieldLink "LoanHouseModel" 504 "LoanHouseModel$Fn" "index" "I", .code yX30_about cX30_about 2 (some .int), .instanceMethod yX30_about, .selects "LoanHouseModel" yX30_about yX30_about, .code yX30_out cX30_out 4 none, .instanceMethod yX30_out, .selects "LoanHouseModel" yX30_out yX30_out, .code yX30_count cX30_count 2 (some .int), .instanceMethod yX30_count, .selects "LoanHouseModel" yX30_count yX30_count, .fieldLink "LoanHouseModel" 1256 "LoanHouseModel$Program" "loans" "Ljava/util/ArrayList;", .code yX30_place cX30_place 8 none, .instanceMethod yX30_place, .selects "LoanHouseModel" yX30_place yX30_place, .fieldLink "LoanHouseModel" 928 "LoanHouseModel$Place" "var" "LLoanHouseModel$Var;", .classLink "LoanHouseModel" 827 "LoanHouseModel$Var", .instantiable "LoanHouseModel$Var" 7, .initialized "LoanHouseModel$Var", .fieldLink "LoanHouseModel" 830 "LoanHouseModel$Var" "name" "Ljava/lang/String;", .fieldLink "LoanHouseModel" 721 "LoanHouseModel$Place" "name" "Ljava/lang/String;", .fieldLink "LoanHouseModel" 832 "LoanHouseModel$Var" "type" "LLoanHouseModel$Type;", .fieldLink "LoanHouseModel" 741 "LoanHouseModel$Place" "parts" "Ljava/util/ArrayList;", .classLink "LoanHouseModel" 731 "LoanHouseModel$Part", .instantiable "LoanHouseModel$Part" 7, .initialized "LoanHouseModel$Part", .fieldLink "LoanHouseModel" 929 "LoanHouseModel$Part" "of" "LLoanHouseModel$Type;", .fieldLink "LoanHouseModel" 736 "LoanHouseModel$Part" "kind" "I"]
def TB21 : List Cond := [.fieldLink "LoanHouseModel" 739 "LoanHouseModel$Part" "index" "LLoanHouseModel$Exp;", .fieldLink "LoanHouseModel" 665 "LoanHouseModel$Exp" "first" "I", .fieldLink "LoanHouseModel" 801 "LoanHouseModel$Type" "item" "LLoanHouseModel$Item;", .fieldLink "LoanHouseModel" 893 "LoanHouseModel$Exp" "type" "LLoanHouseModel$Type;", .fieldLink "LoanHouseModel" 908 "LoanHouseModel$Place" "type" "LLoanHouseModel$Type;", .fieldLink "LoanHouseModel" 937 "LoanHouseModel$Place" "act" "I", .fieldLink "LoanHouseModel" 727 "LoanHouseModel$Place" "number" "I", .code yX30_loan cX30_loan 4 (some .int), .instanceMethod yX30_loan, .selects "LoanHouseModel" yX30_loan yX30_loan, .classLink "LoanHouseModel" 876 "LoanHouseModel$Loan", .instantiable "LoanHouseModel$Loan" 6, .initialized "LoanHouseModel$Loan", .fieldLink "LoanHouseModel" 878 "LoanHouseModel$Loan" "sign" "I", .fieldLink "LoanHouseModel" 980 "LoanHouseModel$Loan" "isSole" "Z", .fieldLink "LoanHouseModel" 983 "LoanHouseModel$Loan" "place" "LLoanHouseModel$Place;", .fieldLink "LoanHouseModel" 1223 "LoanHouseModel$Loan" "acts" "I", .code yX30_force cX30_force 3 (some .int), .instanceMethod yX30_force, .selects "LoanHouseModel" yX30_force yX30_force, .code yX30_function cX30_function 4 (some .int), .instanceMethod yX30_function, .selects "LoanHouseModel" yX30_function yX30_function, .fieldLink "LoanHouseModel" 836 "LoanHouseModel$Fn" "vars" "Ljava/util/ArrayList;", .fieldLink "LoanHouseModel" 840 "LoanHouseModel$Fn" "leaves" "I", .fieldLink "LoanHouseModel" 1150 "LoanHouseModel$Fn" "torn" "I", .fieldLink "LoanHouseModel" 873 "LoanHouseModel$Fn" "loans" "Ljava/util/ArrayList;", .code yX30_size cX30_size 2 (some .int), .instanceMethod yX30_size, .selects "LoanHouseModel" yX30_size yX30_size]
def TB22 : List Cond := [.code yX30_strays cX30_strays 1 (some .int), .instanceMethod yX30_strays, .selects "LoanHouseModel" yX30_strays yX30_strays, .code yX30_twices cX30_twices 1 (some .int), .instanceMethod yX30_twices, .selects "LoanHouseModel" yX30_twices yX30_twices, .code yX30_lefts cX30_lefts 1 (some .int), .instanceMethod yX30_lefts, .selects "LoanHouseModel" yX30_lefts yX30_lefts, .code yX30_clashes cX30_clashes 2 (some .boolean), .static yX30_clashes, .code yX26_init cX26_init 4 none, .instanceMethod yX26_init, .methodLink "LoanHouseModel$Type" 3 objectInit, .fieldLink "LoanHouseModel$Type" 9 "LoanHouseModel$Type" "kind" "I", .fieldLink "LoanHouseModel$Type" 15 "LoanHouseModel$Type" "item" "LLoanHouseModel$Item;", .fieldLink "LoanHouseModel$Type" 19 "LoanHouseModel$Type" "of" "LLoanHouseModel$Type;", .code yX23_init cX23_init 1 none, .instanceMethod yX23_init, .methodLink "LoanHouseModel$Program" 1 objectInit, .classLink "LoanHouseModel$Program" 7 "java/util/ArrayList", .methodLink "LoanHouseModel$Program" 9 yJx4a65c_init_da8c8, .fieldLink "LoanHouseModel$Program" 10 "LoanHouseModel$Program" "items" "Ljava/util/ArrayList;", .fieldLink "LoanHouseModel$Program" 16 "LoanHouseModel$Program" "fns" "Ljava/util/ArrayList;", .fieldLink "LoanHouseModel$Program" 19 "LoanHouseModel$Program" "places" "Ljava/util/ArrayList;", .fieldLink "LoanHouseModel$Program" 22 "LoanHouseModel$Program" "loans" "Ljava/util/ArrayList;", .code yJ5_init_d00df cJ5_init_d00df 2 none, .initialized "java/lang/AbstractStringBuilder", .instanceMethod yJ5_init_d00df, .methodLink "java/lang/AbstractStringBuilder" 3 objectInit]
def TB23 : List Cond := [.fieldLink "java/lang/AbstractStringBuilder" 18 "java/lang/String" "COMPACT_STRINGS" "Z", .fieldLink "java/lang/AbstractStringBuilder" 15 "java/lang/AbstractStringBuilder" "value" "[B", .fieldLink "java/lang/AbstractStringBuilder" 22 "java/lang/AbstractStringBuilder" "coder" "B", .code yJ5_length_8abf5 cJ5_length_8abf5 1 (some .int), .instanceMethod yJ5_length_8abf5, .fieldLink "java/lang/AbstractStringBuilder" 79 "java/lang/AbstractStringBuilder" "count" "I", .code yJ5_ensureCapacityInternal_d00df cJ5_ensureCapacityInternal_d00df 3 none, .instanceMethod yJ5_ensureCapacityInternal_d00df, .code yJ5_setLength_d00df cJ5_setLength_d00df 2 none, .instanceMethod yJ5_setLength_d00df, .methodLink "java/lang/AbstractStringBuilder" 100 yJ5_ensureCapacityInternal_d00df, .methodLink "java/lang/AbstractStringBuilder" 83 yJ5_isLatin1_aae02, .fieldLink "java/lang/AbstractStringBuilder" 73 "java/lang/AbstractStringBuilder" "maybeLatin1" "Z", .code yJ5_getValue_6d5f1 cJ5_getValue_6d5f1 1 (some (.array .byte)), .instanceMethod yJ5_getValue_6d5f1, .code yJ5_isLatin1_aae02 cJ5_isLatin1_aae02 1 (some .boolean), .instanceMethod yJ5_isLatin1_aae02, .code yJ4_init_d00df cJ4_init_d00df 2 none, .instanceMethod yJ4_init_d00df, .methodLink "java/lang/StringBuilder" 1 yJ5_init_d00df, .code yJ4_toString_0e30d cJ4_toString_0e30d 1 (some (.object "java/lang/String")), .instanceMethod yJ4_toString_0e30d, .selects "java/lang/StringBuilder" yJ4_toString_0e30d yJ4_toString_0e30d, .classLink "java/lang/StringBuilder" 18 "java/lang/String", .methodLink "java/lang/StringBuilder" 137 yJ0_init_81219, .code yJ4_setLength_d00df cJ4_setLength_d00df 2 none, .instanceMethod yJ4_setLength_d00df, .selects "java/lang/StringBuilder" yJ4_setLength_d00df yJ4_setLength_d00df, .methodLink "java/lang/StringBuilder" 333 yJ5_setLength_d00df, .code yJ4_length_8abf5 cJ4_length_8abf5 1 (some .int)]
def TB24 : List Cond := [.instanceMethod yJ4_length_8abf5, .methodLink "java/lang/StringBuilder" 343 yJ5_length_8abf5, .code yJ0_init_81219 cJ0_init_81219 2 none, .instanceMethod yJ0_init_81219, .methodLink "java/lang/String" 489 yJ0_init_db425, .code yJ0_init_db425 cJ0_init_db425 5 none, .instanceMethod yJ0_init_db425, .methodLink "java/lang/String" 1 objectInit, .methodLink "java/lang/String" 552 yJ5_getValue_6d5f1, .methodLink "java/lang/String" 549 yJ5_length_8abf5, .methodLink "java/lang/String" 1047 yJ5_isLatin1_aae02, .fieldLink "java/lang/String" 15 "java/lang/String" "coder" "B", .methodLink "java/lang/String" 54 yJ7_copyOfRange_39247, .fieldLink "java/lang/String" 9 "java/lang/String" "value" "[B", .fieldLink "java/lang/String" 38 "java/lang/String" "COMPACT_STRINGS" "Z", .fieldLink "java/lang/String" 1048 "java/lang/AbstractStringBuilder" "maybeLatin1" "Z", .code yJ0_length_8abf5 cJ0_length_8abf5 1 (some .int), .instanceMethod yJ0_length_8abf5, .selects "java/lang/String" yJ0_length_8abf5 yJ0_length_8abf5, .methodLink "java/lang/String" 335 yJ0_coder_7d493, .code yJ0_charAt_5068e cJ0_charAt_5068e 2 (some .char), .instanceMethod yJ0_charAt_5068e, .selects "java/lang/String" yJ0_charAt_5068e yJ0_charAt_5068e, .methodLink "java/lang/String" 492 yJ0_isLatin1_aae02, .methodLink "java/lang/String" 495 yJ1_charAt_3b067, .code yJ0_coder_7d493 cJ0_coder_7d493 1 (some .byte), .instanceMethod yJ0_coder_7d493, .selects "java/lang/String" yJ0_coder_7d493 yJ0_coder_7d493, .code yJ0_isLatin1_aae02 cJ0_isLatin1_aae02 1 (some .boolean), .instanceMethod yJ0_isLatin1_aae02]
def TB25 : List Cond := [.selects "java/lang/String" yJ0_isLatin1_aae02 yJ0_isLatin1_aae02, .code yJ0_checkIndex_df160 cJ0_checkIndex_df160 2 none, .static yJ0_checkIndex_df160, .fieldLink "java/lang/String" 1053 "jdk/internal/util/Preconditions" "SIOOBE_FORMATTER" "Ljava/util/function/BiFunction;", .methodLink "java/lang/String" 1059 yJ3_checkIndex_8e157, .code yJ1_charAt_3b067 cJ1_charAt_3b067 2 (some .char), .initialized "java/lang/StringLatin1", .static yJ1_charAt_3b067, .methodLink "java/lang/StringLatin1" 9 yJ0_checkIndex_df160, .code yJ3_checkIndex_8e157 cJ3_checkIndex_8e157 3 (some .int), .initialized "jdk/internal/util/Preconditions", .static yJ3_checkIndex_8e157, .code yJ7_copyOfRange_39247 cJ7_copyOfRange_39247 3 (some (.array .byte)), .initialized "java/util/Arrays", .static yJ7_copyOfRange_39247, .methodLink "java/util/Arrays" 339 yJ7_copyOfRangeByte_39247, .classLink "java/util/Arrays" 311 "[B", .code yJ7_copyOfRangeByte_39247 cJ7_copyOfRangeByte_39247 5 (some (.array .byte)), .static yJ7_copyOfRangeByte_39247, .methodLink "java/util/Arrays" 304 Lib.Math.min.name, .methodLink "java/util/Arrays" 150 arraycopyName, .code yJxa1e45_init_da8c8 cJxa1e45_init_da8c8 1 none, .initialized "java/util/AbstractCollection", .instanceMethod yJxa1e45_init_da8c8, .methodLink "java/util/AbstractCollection" 1 objectInit, .code yJxc12de_init_da8c8 cJxc12de_init_da8c8 1 none, .initialized "java/util/AbstractList", .instanceMethod yJxc12de_init_da8c8, .methodLink "java/util/AbstractList" 1 yJxa1e45_init_da8c8, .fieldLink "java/util/AbstractList" 7 "java/util/AbstractList" "modCount" "I"]
def TB26 : List Cond := [.code yJx4a65c_init_da8c8 cJx4a65c_init_da8c8 1 none, .instanceMethod yJx4a65c_init_da8c8, .methodLink "java/util/ArrayList" 1 yJxc12de_init_da8c8, .fieldLink "java/util/ArrayList" 39 "java/util/ArrayList" "DEFAULTCAPACITY_EMPTY_ELEMENTDATA" "[Ljava/lang/Object;", .fieldLink "java/util/ArrayList" 9 "java/util/ArrayList" "elementData" "[Ljava/lang/Object;", .code yJx4a65c_size_8abf5 cJx4a65c_size_8abf5 1 (some .int), .instanceMethod yJx4a65c_size_8abf5, .selects "java/util/ArrayList" yJx4a65c_size_8abf5 yJx4a65c_size_8abf5, .fieldLink "java/util/ArrayList" 48 "java/util/ArrayList" "size" "I", .classLink "LoanHouseLaw" 7 "LoanHouse", .instantiable "LoanHouse" 17, .methodLink "LoanHouseLaw" 9 yX12_init, .classLink "LoanHouseLaw" 10 "LoanHouseModel", .instantiable "LoanHouseModel" 95, .methodLink "LoanHouseLaw" 12 yX30_init, .methodLink "LoanHouseLaw" 13 yX12_feed, .methodLink "LoanHouseLaw" 17 yX30_feed, .methodLink "LoanHouseLaw" 18 yX12_judge, .methodLink "LoanHouseLaw" 22 yX30_judge, .methodLink "LoanHouseLaw" 23 yX12_fault, .methodLink "LoanHouseLaw" 26 yX30_fault, .constantLong "LoanHouseLaw" 27 (4294967295), .methodLink "LoanHouseLaw" 29 yX12_give, .methodLink "LoanHouseLaw" 34 yX12_run, .methodLink "LoanHouseLaw" 37 yX30_run, .methodLink "LoanHouseLaw" 38 yX12_about, .methodLink "LoanHouseLaw" 41 yX30_about, .methodLink "LoanHouseLaw" 42 yX12_out, .methodLink "LoanHouseLaw" 47 yX12_count, .methodLink "LoanHouseLaw" 50 yX30_count]
def TB27 : List Cond := [.methodLink "LoanHouseLaw" 51 yX12_place, .methodLink "LoanHouseLaw" 56 yX12_loan, .methodLink "LoanHouseLaw" 59 yX30_loan, .methodLink "LoanHouseLaw" 60 yX12_force, .methodLink "LoanHouseLaw" 63 yX30_force, .methodLink "LoanHouseLaw" 64 yX12_function, .methodLink "LoanHouseLaw" 67 yX30_function, .methodLink "LoanHouseLaw" 68 yX12_size, .methodLink "LoanHouseLaw" 71 yX30_size, .methodLink "LoanHouseLaw" 72 yX12_strays, .methodLink "LoanHouseLaw" 76 yX30_strays, .methodLink "LoanHouseLaw" 77 yX12_twices, .methodLink "LoanHouseLaw" 80 yX30_twices, .methodLink "LoanHouseLaw" 81 yX12_lefts, .methodLink "LoanHouseLaw" 84 yX30_lefts, .methodLink "LoanHouseLaw" 85 yX12_clashes, .sameField "java/util/ArrayList" "java/util/AbstractList" "modCount" "I", .superclass "java/lang/StringBuilder" "java/lang/AbstractStringBuilder", .sameMethod "java/lang/AbstractStringBuilder" "java/lang/AbstractStringBuilder" "isLatin1" "()Z", .selects "java/lang/StringBuilder" yJ5_isLatin1_aae02 yJ5_isLatin1_aae02, .sameMethod "java/lang/AbstractStringBuilder" "java/lang/AbstractStringBuilder" "getValue" "()[B", .selects "java/lang/StringBuilder" yJ5_getValue_6d5f1 yJ5_getValue_6d5f1, .sameMethod "java/lang/AbstractStringBuilder" "java/lang/AbstractStringBuilder" "length" "()I", .selects "java/lang/StringBuilder" yJ5_length_8abf5 yJ4_length_8abf5, .sameMethod "java/lang/AbstractStringBuilder" "java/lang/AbstractStringBuilder" "setLength" "(I)V", .sameMethod "java/lang/AbstractStringBuilder" "java/lang/AbstractStringBuilder" "ensureCapacityInternal" "(I)V"]
def TBX : List Cond := [.selects "java/lang/StringBuilder" yJ5_ensureCapacityInternal_d00df yJ5_ensureCapacityInternal_d00df]
def TBL : List Cond := TBX ++ (TB0 ++ (TB1 ++ (TB2 ++ (TB3 ++ (TB4 ++ (TB5 ++ (TB6 ++ (TB7 ++ (TB8 ++ (TB9 ++ (TB10 ++ (TB11 ++ (TB12 ++ (TB13 ++ (TB14 ++ (TB15 ++ (TB16 ++ (TB17 ++ (TB18 ++ (TB19 ++ (TB20 ++ (TB21 ++ (TB22 ++ (TB23 ++ (TB24 ++ (TB25 ++ (TB26 ++ (TB27 ++ (wsX120 ++ (wsX80 ++ (wsX60 ++ (wsX00 ++ (wsX10 ++ (wsX110 ++ (wsX30 ++ (wsX70 ++ (wsX50 ++ (wsX90 ++ (wsX20 ++ (wsX100 ++ (wsX40 ++ (wsX300 ++ (wsX260 ++ (wsX230 ++ (wsJ40 ++ (wsJ00 ++ (wsJx4a65c0)))))))))))))))))))))))))))))))))))))))))))))))
theorem w_x : Cond.selects "java/lang/StringBuilder" yJ5_ensureCapacityInternal_d00df yJ5_ensureCapacityInternal_d00df ∈ TBL := List.mem_append_left _ (List.mem_of_getElem? (i := 0) rfl)
theorem tb_0 : ∀ w ∈ TB0, w ∈ TBL := fun w h => List.mem_append_right _ (List.mem_append_left _ h)
theorem tb_1 : ∀ w ∈ TB1, w ∈ TBL := fun w h => List.mem_append_right _ (List.mem_append_right _ (List.mem_append_left _ h))
theorem tb_2 : ∀ w ∈ TB2, w ∈ TBL := fun w h => List.mem_append_right _ (List.mem_append_right _ (List.mem_append_right _ (List.mem_append_left _ h)))
theorem tb_3 : ∀ w ∈ TB3, w ∈ TBL := fun w h => List.mem_append_right _ (List.mem_append_right _ (List.mem_append_right _ (List.mem_append_right _ (List.mem_append_left _ h))))
theorem tb_4 : ∀ w ∈ TB4, w ∈ TBL := fun w h => List.mem_append_right _ (List.mem_append_right _ (List.mem_append_right _ (List.mem_append_right _ (List.mem_append_right _ (List.mem_append_left _ h)))))
theorem tb_5 : ∀ w ∈ TB5, w ∈ TBL := fun w h => List.mem_append_right _ (List.mem_append_right _ (List.mem_append_right _ (List.mem_append_right _ (List.mem_append_right _ (List.mem_append_right _ (List.mem_append_left _ h))))))
theorem tb_6 : ∀ w ∈ TB6, w ∈ TBL := fun w h => List.mem_append_right _ (List.mem_append_right _ (List.mem_append_right _ (List.mem_append_right _ (List.mem_append_right _ (List.mem_append_right _ (List.mem_append_right _ (List.mem_append_left _ h)))))))
theorem tb_7 : ∀ w ∈ TB7, w ∈ TBL := fun w h => List.mem_append_right _ (List.mem_append_right _ (List.mem_append_right _ (List.mem_append_right _ (List.mem_append_right _ (List.mem_append_right _ (List.mem_append_right _ (List.mem_append_right _ (List.mem_append_left _ h))))))))
theorem tb_8 : ∀ w ∈ TB8, w ∈ TBL := fun w h => List.mem_append_right _ (List.mem_append_right _ (List.mem_append_right _ (List.mem_append_right _ (List.mem_append_right _ (List.mem_append_right _ (List.mem_append_right _ (List.mem_append_right _ (List.mem_append_right _ (List.mem_append_left _ h)))))))))
theorem tb_9 : ∀ w ∈ TB9, w ∈ TBL := fun w h => List.mem_append_right _ (List.mem_append_right _ (List.mem_append_right _ (List.mem_append_right _ (List.mem_append_right _ (List.mem_append_right _ (List.mem_append_right _ (List.mem_append_right _ (List.mem_append_right _ (List.mem_append_right _ (List.mem_append_left _ h))))))))))
theorem tb_10 : ∀ w ∈ TB10, w ∈ TBL := fun w h => List.mem_append_right _ (List.mem_append_right _ (List.mem_append_right _ (List.mem_append_right _ (List.mem_append_right _ (List.mem_append_right _ (List.mem_append_right _ (List.mem_append_right _ (List.mem_append_right _ (List.mem_append_right _ (List.mem_append_right _ (List.mem_append_left _ h)))))))))))
theorem tb_11 : ∀ w ∈ TB11, w ∈ TBL := fun w h => List.mem_append_right _ (List.mem_append_right _ (List.mem_append_right _ (List.mem_append_right _ (List.mem_append_right _ (List.mem_append_right _ (List.mem_append_right _ (List.mem_append_right _ (List.mem_append_right _ (List.mem_append_right _ (List.mem_append_right _ (List.mem_append_right _ (List.mem_append_left _ h))))))))))))
theorem tb_12 : ∀ w ∈ TB12, w ∈ TBL := fun w h => List.mem_append_right _ (List.mem_append_right _ (List.mem_append_right _ (List.mem_append_right _ (List.mem_append_right _ (List.mem_append_right _ (List.mem_append_right _ (List.mem_append_right _ (List.mem_append_right _ (List.mem_append_right _ (List.mem_append_right _ (List.mem_append_right _ (List.mem_append_right _ (List.mem_append_left _ h)))))))))))))
theorem tb_13 : ∀ w ∈ TB13, w ∈ TBL := fun w h => List.mem_append_right _ (List.mem_append_right _ (List.mem_append_right _ (List.mem_append_right _ (List.mem_append_right _ (List.mem_append_right _ (List.mem_append_right _ (List.mem_append_right _ (List.mem_append_right _ (List.mem_append_right _ (List.mem_append_right _ (List.mem_append_right _ (List.mem_append_right _ (List.mem_append_right _ (List.mem_append_left _ h))))))))))))))
theorem tb_14 : ∀ w ∈ TB14, w ∈ TBL := fun w h => List.mem_append_right _ (List.mem_append_right _ (List.mem_append_right _ (List.mem_append_right _ (List.mem_append_right _ (List.mem_append_right _ (List.mem_append_right _ (List.mem_append_right _ (List.mem_append_right _ (List.mem_append_right _ (List.mem_append_right _ (List.mem_append_right _ (List.mem_append_right _ (List.mem_append_right _ (List.mem_append_right _ (List.mem_append_left _ h)))))))))))))))
theorem tb_15 : ∀ w ∈ TB15, w ∈ TBL := fun w h => List.mem_append_right _ (List.mem_append_right _ (List.mem_append_right _ (List.mem_append_right _ (List.mem_append_right _ (List.mem_append_right _ (List.mem_append_right _ (List.mem_append_right _ (List.mem_append_right _ (List.mem_append_right _ (List.mem_append_right _ (List.mem_append_right _ (List.mem_append_right _ (List.mem_append_right _ (List.mem_append_right _ (List.mem_append_right _ (List.mem_append_left _ h))))))))))))))))
theorem tb_16 : ∀ w ∈ TB16, w ∈ TBL := fun w h => List.mem_append_right _ (List.mem_append_right _ (List.mem_append_right _ (List.mem_append_right _ (List.mem_append_right _ (List.mem_append_right _ (List.mem_append_right _ (List.mem_append_right _ (List.mem_append_right _ (List.mem_append_right _ (List.mem_append_right _ (List.mem_append_right _ (List.mem_append_right _ (List.mem_append_right _ (List.mem_append_right _ (List.mem_append_right _ (List.mem_append_right _ (List.mem_append_left _ h)))))))))))))))))
theorem tb_17 : ∀ w ∈ TB17, w ∈ TBL := fun w h => List.mem_append_right _ (List.mem_append_right _ (List.mem_append_right _ (List.mem_append_right _ (List.mem_append_right _ (List.mem_append_right _ (List.mem_append_right _ (List.mem_append_right _ (List.mem_append_right _ (List.mem_append_right _ (List.mem_append_right _ (List.mem_append_right _ (List.mem_append_right _ (List.mem_append_right _ (List.mem_append_right _ (List.mem_append_right _ (List.mem_append_right _ (List.mem_append_right _ (List.mem_append_left _ h))))))))))))))))))
theorem tb_18 : ∀ w ∈ TB18, w ∈ TBL := fun w h => List.mem_append_right _ (List.mem_append_right _ (List.mem_append_right _ (List.mem_append_right _ (List.mem_append_right _ (List.mem_append_right _ (List.mem_append_right _ (List.mem_append_right _ (List.mem_append_right _ (List.mem_append_right _ (List.mem_append_right _ (List.mem_append_right _ (List.mem_append_right _ (List.mem_append_right _ (List.mem_append_right _ (List.mem_append_right _ (List.mem_append_right _ (List.mem_append_right _ (List.mem_append_right _ (List.mem_append_left _ h)))))))))))))))))))
theorem tb_19 : ∀ w ∈ TB19, w ∈ TBL := fun w h => List.mem_append_right _ (List.mem_append_right _ (List.mem_append_right _ (List.mem_append_right _ (List.mem_append_right _ (List.mem_append_right _ (List.mem_append_right _ (List.mem_append_right _ (List.mem_append_right _ (List.mem_append_right _ (List.mem_append_right _ (List.mem_append_right _ (List.mem_append_right _ (List.mem_append_right _ (List.mem_append_right _ (List.mem_append_right _ (List.mem_append_right _ (List.mem_append_right _ (List.mem_append_right _ (List.mem_append_right _ (List.mem_append_left _ h))))))))))))))))))))
theorem tb_20 : ∀ w ∈ TB20, w ∈ TBL := fun w h => List.mem_append_right _ (List.mem_append_right _ (List.mem_append_right _ (List.mem_append_right _ (List.mem_append_right _ (List.mem_append_right _ (List.mem_append_right _ (List.mem_append_right _ (List.mem_append_right _ (List.mem_append_right _ (List.mem_append_right _ (List.mem_append_right _ (List.mem_append_right _ (List.mem_append_right _ (List.mem_append_right _ (List.mem_append_right _ (List.mem_append_right _ (List.mem_append_right _ (List.mem_append_right _ (List.mem_append_right _ (List.mem_append_right _ (List.mem_append_left _ h)))))))))))))))))))))
theorem tb_21 : ∀ w ∈ TB21, w ∈ TBL := fun w h => List.mem_append_right _ (List.mem_append_right _ (List.mem_append_right _ (List.mem_append_right _ (List.mem_append_right _ (List.mem_append_right _ (List.mem_append_right _ (List.mem_append_right _ (List.mem_append_right _ (List.mem_append_right _ (List.mem_append_right _ (List.mem_append_right _ (List.mem_append_right _ (List.mem_append_right _ (List.mem_append_right _ (List.mem_append_right _ (List.mem_append_right _ (List.mem_append_right _ (List.mem_append_right _ (List.mem_append_right _ (List.mem_append_right _ (List.mem_append_right _ (List.mem_append_left _ h))))))))))))))))))))))
theorem tb_22 : ∀ w ∈ TB22, w ∈ TBL := fun w h => List.mem_append_right _ (List.mem_append_right _ (List.mem_append_right _ (List.mem_append_right _ (List.mem_append_right _ (List.mem_append_right _ (List.mem_append_right _ (List.mem_append_right _ (List.mem_append_right _ (List.mem_append_right _ (List.mem_append_right _ (List.mem_append_right _ (List.mem_append_right _ (List.mem_append_right _ (List.mem_append_right _ (List.mem_append_right _ (List.mem_append_right _ (List.mem_append_right _ (List.mem_append_right _ (List.mem_append_right _ (List.mem_append_right _ (List.mem_append_right _ (List.mem_append_right _ (List.mem_append_left _ h)))))))))))))))))))))))
theorem tb_23 : ∀ w ∈ TB23, w ∈ TBL := fun w h => List.mem_append_right _ (List.mem_append_right _ (List.mem_append_right _ (List.mem_append_right _ (List.mem_append_right _ (List.mem_append_right _ (List.mem_append_right _ (List.mem_append_right _ (List.mem_append_right _ (List.mem_append_right _ (List.mem_append_right _ (List.mem_append_right _ (List.mem_append_right _ (List.mem_append_right _ (List.mem_append_right _ (List.mem_append_right _ (List.mem_append_right _ (List.mem_append_right _ (List.mem_append_right _ (List.mem_append_right _ (List.mem_append_right _ (List.mem_append_right _ (List.mem_append_right _ (List.mem_append_right _ (List.mem_append_left _ h))))))))))))))))))))))))
theorem tb_24 : ∀ w ∈ TB24, w ∈ TBL := fun w h => List.mem_append_right _ (List.mem_append_right _ (List.mem_append_right _ (List.mem_append_right _ (List.mem_append_right _ (List.mem_append_right _ (List.mem_append_right _ (List.mem_append_right _ (List.mem_append_right _ (List.mem_append_right _ (List.mem_append_right _ (List.mem_append_right _ (List.mem_append_right _ (List.mem_append_right _ (List.mem_append_right _ (List.mem_append_right _ (List.mem_append_right _ (List.mem_append_right _ (List.mem_append_right _ (List.mem_append_right _ (List.mem_append_right _ (List.mem_append_right _ (List.mem_append_right _ (List.mem_append_right _ (List.mem_append_right _ (List.mem_append_left _ h)))))))))))))))))))))))))
theorem tb_25 : ∀ w ∈ TB25, w ∈ TBL := fun w h => List.mem_append_right _ (List.mem_append_right _ (List.mem_append_right _ (List.mem_append_right _ (List.mem_append_right _ (List.mem_append_right _ (List.mem_append_right _ (List.mem_append_right _ (List.mem_append_right _ (List.mem_append_right _ (List.mem_append_right _ (List.mem_append_right _ (List.mem_append_right _ (List.mem_append_right _ (List.mem_append_right _ (List.mem_append_right _ (List.mem_append_right _ (List.mem_append_right _ (List.mem_append_right _ (List.mem_append_right _ (List.mem_append_right _ (List.mem_append_right _ (List.mem_append_right _ (List.mem_append_right _ (List.mem_append_right _ (List.mem_append_right _ (List.mem_append_left _ h))))))))))))))))))))))))))
theorem tb_26 : ∀ w ∈ TB26, w ∈ TBL := fun w h => List.mem_append_right _ (List.mem_append_right _ (List.mem_append_right _ (List.mem_append_right _ (List.mem_append_right _ (List.mem_append_right _ (List.mem_append_right _ (List.mem_append_right _ (List.mem_append_right _ (List.mem_append_right _ (List.mem_append_right _ (List.mem_append_right _ (List.mem_append_right _ (List.mem_append_right _ (List.mem_append_right _ (List.mem_append_right _ (List.mem_append_right _ (List.mem_append_right _ (List.mem_append_right _ (List.mem_append_right _ (List.mem_append_right _ (List.mem_append_right _ (List.mem_append_right _ (List.mem_append_right _ (List.mem_append_right _ (List.mem_append_right _ (List.mem_append_right _ (List.mem_append_left _ h)))))))))))))))))))))))))))
theorem tb_27 : ∀ w ∈ TB27, w ∈ TBL := fun w h => List.mem_append_right _ (List.mem_append_right _ (List.mem_append_right _ (List.mem_append_right _ (List.mem_append_right _ (List.mem_append_right _ (List.mem_append_right _ (List.mem_append_right _ (List.mem_append_right _ (List.mem_append_right _ (List.mem_append_right _ (List.mem_append_right _ (List.mem_append_right _ (List.mem_append_right _ (List.mem_append_right _ (List.mem_append_right _ (List.mem_append_right _ (List.mem_append_right _ (List.mem_append_right _ (List.mem_append_right _ (List.mem_append_right _ (List.mem_append_right _ (List.mem_append_right _ (List.mem_append_right _ (List.mem_append_right _ (List.mem_append_right _ (List.mem_append_right _ (List.mem_append_right _ (List.mem_append_left _ h))))))))))))))))))))))))))))
theorem inX12 : ∀ w ∈ u_ws "LoanHouse" TX12 17, w ∈ TBL := fun w h => List.mem_append_right _ (List.mem_append_right _ (List.mem_append_right _ (List.mem_append_right _ (List.mem_append_right _ (List.mem_append_right _ (List.mem_append_right _ (List.mem_append_right _ (List.mem_append_right _ (List.mem_append_right _ (List.mem_append_right _ (List.mem_append_right _ (List.mem_append_right _ (List.mem_append_right _ (List.mem_append_right _ (List.mem_append_right _ (List.mem_append_right _ (List.mem_append_right _ (List.mem_append_right _ (List.mem_append_right _ (List.mem_append_right _ (List.mem_append_right _ (List.mem_append_right _ (List.mem_append_right _ (List.mem_append_right _ (List.mem_append_right _ (List.mem_append_right _ (List.mem_append_right _ (List.mem_append_right _ (List.mem_append_left _ h)))))))))))))))))))))))))))))
theorem inX8 : ∀ w ∈ u_ws "LoanHouse$Tree" TX8 12, w ∈ TBL := fun w h => List.mem_append_right _ (List.mem_append_right _ (List.mem_append_right _ (List.mem_append_right _ (List.mem_append_right _ (List.mem_append_right _ (List.mem_append_right _ (List.mem_append_right _ (List.mem_append_right _ (List.mem_append_right _ (List.mem_append_right _ (List.mem_append_right _ (List.mem_append_right _ (List.mem_append_right _ (List.mem_append_right _ (List.mem_append_right _ (List.mem_append_right _ (List.mem_append_right _ (List.mem_append_right _ (List.mem_append_right _ (List.mem_append_right _ (List.mem_append_right _ (List.mem_append_right _ (List.mem_append_right _ (List.mem_append_right _ (List.mem_append_right _ (List.mem_append_right _ (List.mem_append_right _ (List.mem_append_right _ (List.mem_append_right _ (List.mem_append_left _ h))))))))))))))))))))))))))))))
theorem inX6 : ∀ w ∈ u_ws "LoanHouse$Reader" TX6 18, w ∈ TBL := fun w h => List.mem_append_right _ (List.mem_append_right _ (List.mem_append_right _ (List.mem_append_right _ (List.mem_append_right _ (List.mem_append_right _ (List.mem_append_right _ (List.mem_append_right _ (List.mem_append_right _ (List.mem_append_right _ (List.mem_append_right _ (List.mem_append_right _ (List.mem_append_right _ (List.mem_append_right _ (List.mem_append_right _ (List.mem_append_right _ (List.mem_append_right _ (List.mem_append_right _ (List.mem_append_right _ (List.mem_append_right _ (List.mem_append_right _ (List.mem_append_right _ (List.mem_append_right _ (List.mem_append_right _ (List.mem_append_right _ (List.mem_append_right _ (List.mem_append_right _ (List.mem_append_right _ (List.mem_append_right _ (List.mem_append_right _ (List.mem_append_right _ (List.mem_append_left _ h)))))))))))))))))))))))))))))))
theorem inX0 : ∀ w ∈ u_ws "LoanHouse$Checker" TX0 11, w ∈ TBL := fun w h => List.mem_append_right _ (List.mem_append_right _ (List.mem_append_right _ (List.mem_append_right _ (List.mem_append_right _ (List.mem_append_right _ (List.mem_append_right _ (List.mem_append_right _ (List.mem_append_right _ (List.mem_append_right _ (List.mem_append_right _ (List.mem_append_right _ (List.mem_append_right _ (List.mem_append_right _ (List.mem_append_right _ (List.mem_append_right _ (List.mem_append_right _ (List.mem_append_right _ (List.mem_append_right _ (List.mem_append_right _ (List.mem_append_right _ (List.mem_append_right _ (List.mem_append_right _ (List.mem_append_right _ (List.mem_append_right _ (List.mem_append_right _ (List.mem_append_right _ (List.mem_append_right _ (List.mem_append_right _ (List.mem_append_right _ (List.mem_append_right _ (List.mem_append_right _ (List.mem_append_left _ h))))))))))))))))))))))))))))))))
theorem inX1 : ∀ w ∈ u_ws "LoanHouse$Emitter" TX1 10, w ∈ TBL := fun w h => List.mem_append_right _ (List.mem_append_right _ (List.mem_append_right _ (List.mem_append_right _ (List.mem_append_right _ (List.mem_append_right _ (List.mem_append_right _ (List.mem_append_right _ (List.mem_append_right _ (List.mem_append_right _ (List.mem_append_right _ (List.mem_append_right _ (List.mem_append_right _ (List.mem_append_right _ (List.mem_append_right _ (List.mem_append_right _ (List.mem_append_right _ (List.mem_append_right _ (List.mem_append_right _ (List.mem_append_right _ (List.mem_append_right _ (List.mem_append_right _ (List.mem_append_right _ (List.mem_append_right _ (List.mem_append_right _ (List.mem_append_right _ (List.mem_append_right _ (List.mem_append_right _ (List.mem_append_right _ (List.mem_append_right _ (List.mem_append_right _ (List.mem_append_right _ (List.mem_append_right _ (List.mem_append_left _ h)))))))))))))))))))))))))))))))))
theorem inX11 : ∀ w ∈ u_ws "LoanHouse$Ways" TX11 22, w ∈ TBL := fun w h => List.mem_append_right _ (List.mem_append_right _ (List.mem_append_right _ (List.mem_append_right _ (List.mem_append_right _ (List.mem_append_right _ (List.mem_append_right _ (List.mem_append_right _ (List.mem_append_right _ (List.mem_append_right _ (List.mem_append_right _ (List.mem_append_right _ (List.mem_append_right _ (List.mem_append_right _ (List.mem_append_right _ (List.mem_append_right _ (List.mem_append_right _ (List.mem_append_right _ (List.mem_append_right _ (List.mem_append_right _ (List.mem_append_right _ (List.mem_append_right _ (List.mem_append_right _ (List.mem_append_right _ (List.mem_append_right _ (List.mem_append_right _ (List.mem_append_right _ (List.mem_append_right _ (List.mem_append_right _ (List.mem_append_right _ (List.mem_append_right _ (List.mem_append_right _ (List.mem_append_right _ (List.mem_append_right _ (List.mem_append_left _ h))))))))))))))))))))))))))))))))))
theorem inX3 : ∀ w ∈ u_ws "LoanHouse$Machine" TX3 21, w ∈ TBL := fun w h => List.mem_append_right _ (List.mem_append_right _ (List.mem_append_right _ (List.mem_append_right _ (List.mem_append_right _ (List.mem_append_right _ (List.mem_append_right _ (List.mem_append_right _ (List.mem_append_right _ (List.mem_append_right _ (List.mem_append_right _ (List.mem_append_right _ (List.mem_append_right _ (List.mem_append_right _ (List.mem_append_right _ (List.mem_append_right _ (List.mem_append_right _ (List.mem_append_right _ (List.mem_append_right _ (List.mem_append_right _ (List.mem_append_right _ (List.mem_append_right _ (List.mem_append_right _ (List.mem_append_right _ (List.mem_append_right _ (List.mem_append_right _ (List.mem_append_right _ (List.mem_append_right _ (List.mem_append_right _ (List.mem_append_right _ (List.mem_append_right _ (List.mem_append_right _ (List.mem_append_right _ (List.mem_append_right _ (List.mem_append_right _ (List.mem_append_left _ h)))))))))))))))))))))))))))))))))))
theorem inX7 : ∀ w ∈ u_ws "LoanHouse$Store" TX7 19, w ∈ TBL := fun w h => List.mem_append_right _ (List.mem_append_right _ (List.mem_append_right _ (List.mem_append_right _ (List.mem_append_right _ (List.mem_append_right _ (List.mem_append_right _ (List.mem_append_right _ (List.mem_append_right _ (List.mem_append_right _ (List.mem_append_right _ (List.mem_append_right _ (List.mem_append_right _ (List.mem_append_right _ (List.mem_append_right _ (List.mem_append_right _ (List.mem_append_right _ (List.mem_append_right _ (List.mem_append_right _ (List.mem_append_right _ (List.mem_append_right _ (List.mem_append_right _ (List.mem_append_right _ (List.mem_append_right _ (List.mem_append_right _ (List.mem_append_right _ (List.mem_append_right _ (List.mem_append_right _ (List.mem_append_right _ (List.mem_append_right _ (List.mem_append_right _ (List.mem_append_right _ (List.mem_append_right _ (List.mem_append_right _ (List.mem_append_right _ (List.mem_append_right _ (List.mem_append_left _ h))))))))))))))))))))))))))))))))))))
theorem inX5 : ∀ w ∈ u_ws "LoanHouse$Program" TX5 15, w ∈ TBL := fun w h => List.mem_append_right _ (List.mem_append_right _ (List.mem_append_right _ (List.mem_append_right _ (List.mem_append_right _ (List.mem_append_right _ (List.mem_append_right _ (List.mem_append_right _ (List.mem_append_right _ (List.mem_append_right _ (List.mem_append_right _ (List.mem_append_right _ (List.mem_append_right _ (List.mem_append_right _ (List.mem_append_right _ (List.mem_append_right _ (List.mem_append_right _ (List.mem_append_right _ (List.mem_append_right _ (List.mem_append_right _ (List.mem_append_right _ (List.mem_append_right _ (List.mem_append_right _ (List.mem_append_right _ (List.mem_append_right _ (List.mem_append_right _ (List.mem_append_right _ (List.mem_append_right _ (List.mem_append_right _ (List.mem_append_right _ (List.mem_append_right _ (List.mem_append_right _ (List.mem_append_right _ (List.mem_append_right _ (List.mem_append_right _ (List.mem_append_right _ (List.mem_append_right _ (List.mem_append_left _ h)))))))))))))))))))))))))))))))))))))
theorem inX9 : ∀ w ∈ u_ws "LoanHouse$Types" TX9 19, w ∈ TBL := fun w h => List.mem_append_right _ (List.mem_append_right _ (List.mem_append_right _ (List.mem_append_right _ (List.mem_append_right _ (List.mem_append_right _ (List.mem_append_right _ (List.mem_append_right _ (List.mem_append_right _ (List.mem_append_right _ (List.mem_append_right _ (List.mem_append_right _ (List.mem_append_right _ (List.mem_append_right _ (List.mem_append_right _ (List.mem_append_right _ (List.mem_append_right _ (List.mem_append_right _ (List.mem_append_right _ (List.mem_append_right _ (List.mem_append_right _ (List.mem_append_right _ (List.mem_append_right _ (List.mem_append_right _ (List.mem_append_right _ (List.mem_append_right _ (List.mem_append_right _ (List.mem_append_right _ (List.mem_append_right _ (List.mem_append_right _ (List.mem_append_right _ (List.mem_append_right _ (List.mem_append_right _ (List.mem_append_right _ (List.mem_append_right _ (List.mem_append_right _ (List.mem_append_right _ (List.mem_append_right _ (List.mem_append_left _ h))))))))))))))))))))))))))))))))))))))
theorem inX2 : ∀ w ∈ u_ws "LoanHouse$Functions" TX2 19, w ∈ TBL := fun w h => List.mem_append_right _ (List.mem_append_right _ (List.mem_append_right _ (List.mem_append_right _ (List.mem_append_right _ (List.mem_append_right _ (List.mem_append_right _ (List.mem_append_right _ (List.mem_append_right _ (List.mem_append_right _ (List.mem_append_right _ (List.mem_append_right _ (List.mem_append_right _ (List.mem_append_right _ (List.mem_append_right _ (List.mem_append_right _ (List.mem_append_right _ (List.mem_append_right _ (List.mem_append_right _ (List.mem_append_right _ (List.mem_append_right _ (List.mem_append_right _ (List.mem_append_right _ (List.mem_append_right _ (List.mem_append_right _ (List.mem_append_right _ (List.mem_append_right _ (List.mem_append_right _ (List.mem_append_right _ (List.mem_append_right _ (List.mem_append_right _ (List.mem_append_right _ (List.mem_append_right _ (List.mem_append_right _ (List.mem_append_right _ (List.mem_append_right _ (List.mem_append_right _ (List.mem_append_right _ (List.mem_append_right _ (List.mem_append_left _ h)))))))))))))))))))))))))))))))))))))))
theorem inX10 : ∀ w ∈ u_ws "LoanHouse$Variables" TX10 12, w ∈ TBL := fun w h => List.mem_append_right _ (List.mem_append_right _ (List.mem_append_right _ (List.mem_append_right _ (List.mem_append_right _ (List.mem_append_right _ (List.mem_append_right _ (List.mem_append_right _ (List.mem_append_right _ (List.mem_append_right _ (List.mem_append_right _ (List.mem_append_right _ (List.mem_append_right _ (List.mem_append_right _ (List.mem_append_right _ (List.mem_append_right _ (List.mem_append_right _ (List.mem_append_right _ (List.mem_append_right _ (List.mem_append_right _ (List.mem_append_right _ (List.mem_append_right _ (List.mem_append_right _ (List.mem_append_right _ (List.mem_append_right _ (List.mem_append_right _ (List.mem_append_right _ (List.mem_append_right _ (List.mem_append_right _ (List.mem_append_right _ (List.mem_append_right _ (List.mem_append_right _ (List.mem_append_right _ (List.mem_append_right _ (List.mem_append_right _ (List.mem_append_right _ (List.mem_append_right _ (List.mem_append_right _ (List.mem_append_right _ (List.mem_append_right _ (List.mem_append_left _ h))))))))))))))))))))))))))))))))))))))))
theorem inX4 : ∀ w ∈ u_ws "LoanHouse$Places" TX4 20, w ∈ TBL := fun w h => List.mem_append_right _ (List.mem_append_right _ (List.mem_append_right _ (List.mem_append_right _ (List.mem_append_right _ (List.mem_append_right _ (List.mem_append_right _ (List.mem_append_right _ (List.mem_append_right _ (List.mem_append_right _ (List.mem_append_right _ (List.mem_append_right _ (List.mem_append_right _ (List.mem_append_right _ (List.mem_append_right _ (List.mem_append_right _ (List.mem_append_right _ (List.mem_append_right _ (List.mem_append_right _ (List.mem_append_right _ (List.mem_append_right _ (List.mem_append_right _ (List.mem_append_right _ (List.mem_append_right _ (List.mem_append_right _ (List.mem_append_right _ (List.mem_append_right _ (List.mem_append_right _ (List.mem_append_right _ (List.mem_append_right _ (List.mem_append_right _ (List.mem_append_right _ (List.mem_append_right _ (List.mem_append_right _ (List.mem_append_right _ (List.mem_append_right _ (List.mem_append_right _ (List.mem_append_right _ (List.mem_append_right _ (List.mem_append_right _ (List.mem_append_right _ (List.mem_append_left _ h)))))))))))))))))))))))))))))))))))))))))
theorem inX30 : ∀ w ∈ u_ws "LoanHouseModel" TX30 95, w ∈ TBL := fun w h => List.mem_append_right _ (List.mem_append_right _ (List.mem_append_right _ (List.mem_append_right _ (List.mem_append_right _ (List.mem_append_right _ (List.mem_append_right _ (List.mem_append_right _ (List.mem_append_right _ (List.mem_append_right _ (List.mem_append_right _ (List.mem_append_right _ (List.mem_append_right _ (List.mem_append_right _ (List.mem_append_right _ (List.mem_append_right _ (List.mem_append_right _ (List.mem_append_right _ (List.mem_append_right _ (List.mem_append_right _ (List.mem_append_right _ (List.mem_append_right _ (List.mem_append_right _ (List.mem_append_right _ (List.mem_append_right _ (List.mem_append_right _ (List.mem_append_right _ (List.mem_append_right _ (List.mem_append_right _ (List.mem_append_right _ (List.mem_append_right _ (List.mem_append_right _ (List.mem_append_right _ (List.mem_append_right _ (List.mem_append_right _ (List.mem_append_right _ (List.mem_append_right _ (List.mem_append_right _ (List.mem_append_right _ (List.mem_append_right _ (List.mem_append_right _ (List.mem_append_right _ (List.mem_append_left _ h))))))))))))))))))))))))))))))))))))))))))
theorem inX26 : ∀ w ∈ u_ws "LoanHouseModel$Type" TX26 3, w ∈ TBL := fun w h => List.mem_append_right _ (List.mem_append_right _ (List.mem_append_right _ (List.mem_append_right _ (List.mem_append_right _ (List.mem_append_right _ (List.mem_append_right _ (List.mem_append_right _ (List.mem_append_right _ (List.mem_append_right _ (List.mem_append_right _ (List.mem_append_right _ (List.mem_append_right _ (List.mem_append_right _ (List.mem_append_right _ (List.mem_append_right _ (List.mem_append_right _ (List.mem_append_right _ (List.mem_append_right _ (List.mem_append_right _ (List.mem_append_right _ (List.mem_append_right _ (List.mem_append_right _ (List.mem_append_right _ (List.mem_append_right _ (List.mem_append_right _ (List.mem_append_right _ (List.mem_append_right _ (List.mem_append_right _ (List.mem_append_right _ (List.mem_append_right _ (List.mem_append_right _ (List.mem_append_right _ (List.mem_append_right _ (List.mem_append_right _ (List.mem_append_right _ (List.mem_append_right _ (List.mem_append_right _ (List.mem_append_right _ (List.mem_append_right _ (List.mem_append_right _ (List.mem_append_right _ (List.mem_append_right _ (List.mem_append_left _ h)))))))))))))))))))))))))))))))))))))))))))
theorem inX23 : ∀ w ∈ u_ws "LoanHouseModel$Program" TX23 4, w ∈ TBL := fun w h => List.mem_append_right _ (List.mem_append_right _ (List.mem_append_right _ (List.mem_append_right _ (List.mem_append_right _ (List.mem_append_right _ (List.mem_append_right _ (List.mem_append_right _ (List.mem_append_right _ (List.mem_append_right _ (List.mem_append_right _ (List.mem_append_right _ (List.mem_append_right _ (List.mem_append_right _ (List.mem_append_right _ (List.mem_append_right _ (List.mem_append_right _ (List.mem_append_right _ (List.mem_append_right _ (List.mem_append_right _ (List.mem_append_right _ (List.mem_append_right _ (List.mem_append_right _ (List.mem_append_right _ (List.mem_append_right _ (List.mem_append_right _ (List.mem_append_right _ (List.mem_append_right _ (List.mem_append_right _ (List.mem_append_right _ (List.mem_append_right _ (List.mem_append_right _ (List.mem_append_right _ (List.mem_append_right _ (List.mem_append_right _ (List.mem_append_right _ (List.mem_append_right _ (List.mem_append_right _ (List.mem_append_right _ (List.mem_append_right _ (List.mem_append_right _ (List.mem_append_right _ (List.mem_append_right _ (List.mem_append_right _ (List.mem_append_left _ h))))))))))))))))))))))))))))))))))))))))))))
theorem inJ4 : ∀ w ∈ u_ws "java/lang/StringBuilder" TJ4 4, w ∈ TBL := fun w h => List.mem_append_right _ (List.mem_append_right _ (List.mem_append_right _ (List.mem_append_right _ (List.mem_append_right _ (List.mem_append_right _ (List.mem_append_right _ (List.mem_append_right _ (List.mem_append_right _ (List.mem_append_right _ (List.mem_append_right _ (List.mem_append_right _ (List.mem_append_right _ (List.mem_append_right _ (List.mem_append_right _ (List.mem_append_right _ (List.mem_append_right _ (List.mem_append_right _ (List.mem_append_right _ (List.mem_append_right _ (List.mem_append_right _ (List.mem_append_right _ (List.mem_append_right _ (List.mem_append_right _ (List.mem_append_right _ (List.mem_append_right _ (List.mem_append_right _ (List.mem_append_right _ (List.mem_append_right _ (List.mem_append_right _ (List.mem_append_right _ (List.mem_append_right _ (List.mem_append_right _ (List.mem_append_right _ (List.mem_append_right _ (List.mem_append_right _ (List.mem_append_right _ (List.mem_append_right _ (List.mem_append_right _ (List.mem_append_right _ (List.mem_append_right _ (List.mem_append_right _ (List.mem_append_right _ (List.mem_append_right _ (List.mem_append_right _ (List.mem_append_left _ h)))))))))))))))))))))))))))))))))))))))))))))
theorem inJ0 : ∀ w ∈ u_ws "java/lang/String" TJ0 4, w ∈ TBL := fun w h => List.mem_append_right _ (List.mem_append_right _ (List.mem_append_right _ (List.mem_append_right _ (List.mem_append_right _ (List.mem_append_right _ (List.mem_append_right _ (List.mem_append_right _ (List.mem_append_right _ (List.mem_append_right _ (List.mem_append_right _ (List.mem_append_right _ (List.mem_append_right _ (List.mem_append_right _ (List.mem_append_right _ (List.mem_append_right _ (List.mem_append_right _ (List.mem_append_right _ (List.mem_append_right _ (List.mem_append_right _ (List.mem_append_right _ (List.mem_append_right _ (List.mem_append_right _ (List.mem_append_right _ (List.mem_append_right _ (List.mem_append_right _ (List.mem_append_right _ (List.mem_append_right _ (List.mem_append_right _ (List.mem_append_right _ (List.mem_append_right _ (List.mem_append_right _ (List.mem_append_right _ (List.mem_append_right _ (List.mem_append_right _ (List.mem_append_right _ (List.mem_append_right _ (List.mem_append_right _ (List.mem_append_right _ (List.mem_append_right _ (List.mem_append_right _ (List.mem_append_right _ (List.mem_append_right _ (List.mem_append_right _ (List.mem_append_right _ (List.mem_append_right _ (List.mem_append_left _ h))))))))))))))))))))))))))))))))))))))))))))))
theorem inJx4a65c : ∀ w ∈ u_ws "java/util/ArrayList" TJx4a65c 3, w ∈ TBL := fun w h => List.mem_append_right _ (List.mem_append_right _ (List.mem_append_right _ (List.mem_append_right _ (List.mem_append_right _ (List.mem_append_right _ (List.mem_append_right _ (List.mem_append_right _ (List.mem_append_right _ (List.mem_append_right _ (List.mem_append_right _ (List.mem_append_right _ (List.mem_append_right _ (List.mem_append_right _ (List.mem_append_right _ (List.mem_append_right _ (List.mem_append_right _ (List.mem_append_right _ (List.mem_append_right _ (List.mem_append_right _ (List.mem_append_right _ (List.mem_append_right _ (List.mem_append_right _ (List.mem_append_right _ (List.mem_append_right _ (List.mem_append_right _ (List.mem_append_right _ (List.mem_append_right _ (List.mem_append_right _ (List.mem_append_right _ (List.mem_append_right _ (List.mem_append_right _ (List.mem_append_right _ (List.mem_append_right _ (List.mem_append_right _ (List.mem_append_right _ (List.mem_append_right _ (List.mem_append_right _ (List.mem_append_right _ (List.mem_append_right _ (List.mem_append_right _ (List.mem_append_right _ (List.mem_append_right _ (List.mem_append_right _ (List.mem_append_right _ (List.mem_append_right _ (List.mem_append_right _ (h)))))))))))))))))))))))))))))))))))))))))))))))
theorem w_0 : Cond.instanceMethod objectInit ∈ TBL := tb_0 _ (List.mem_of_getElem? (i := 0) rfl)
theorem w_1 : Cond.code objectInit ⟨#[0xb1]⟩ 1 none ∈ TBL := tb_0 _ (List.mem_of_getElem? (i := 1) rfl)
theorem w_2 : Cond.code yX12_init cX12_init 1 none ∈ TBL := tb_0 _ (List.mem_of_getElem? (i := 2) rfl)
theorem w_3 : Cond.initialized "LoanHouse" ∈ TBL := tb_0 _ (List.mem_of_getElem? (i := 3) rfl)
theorem w_4 : Cond.instanceMethod yX12_init ∈ TBL := tb_0 _ (List.mem_of_getElem? (i := 4) rfl)
theorem w_5 : Cond.methodLink "LoanHouse" 3 objectInit ∈ TBL := tb_0 _ (List.mem_of_getElem? (i := 5) rfl)
theorem w_6 : Cond.arrayClass .byte ∈ TBL := tb_0 _ (List.mem_of_getElem? (i := 6) rfl)
theorem w_7 : Cond.fieldLink "LoanHouse" 9 "LoanHouse" "text" "[B" ∈ TBL := tb_0 _ (List.mem_of_getElem? (i := 7) rfl)
theorem w_8 : Cond.arrayClass .long ∈ TBL := tb_0 _ (List.mem_of_getElem? (i := 8) rfl)
theorem w_9 : Cond.fieldLink "LoanHouse" 13 "LoanHouse" "given" "[J" ∈ TBL := tb_0 _ (List.mem_of_getElem? (i := 9) rfl)
theorem w_10 : Cond.classLink "LoanHouse" 17 "LoanHouse$Tree" ∈ TBL := tb_0 _ (List.mem_of_getElem? (i := 10) rfl)
theorem w_11 : Cond.instantiable "LoanHouse$Tree" 12 ∈ TBL := tb_0 _ (List.mem_of_getElem? (i := 11) rfl)
theorem w_12 : Cond.initialized "LoanHouse$Tree" ∈ TBL := tb_0 _ (List.mem_of_getElem? (i := 12) rfl)
theorem w_13 : Cond.fieldLink "LoanHouse" 20 "LoanHouse" "tree" "LLoanHouse$Tree;" ∈ TBL := tb_0 _ (List.mem_of_getElem? (i := 13) rfl)
theorem w_14 : Cond.classLink "LoanHouse" 24 "LoanHouse$Reader" ∈ TBL := tb_0 _ (List.mem_of_getElem? (i := 14) rfl)
theorem w_15 : Cond.instantiable "LoanHouse$Reader" 18 ∈ TBL := tb_0 _ (List.mem_of_getElem? (i := 15) rfl)
theorem w_16 : Cond.initialized "LoanHouse$Reader" ∈ TBL := tb_0 _ (List.mem_of_getElem? (i := 16) rfl)
theorem w_17 : Cond.fieldLink "LoanHouse" 29 "LoanHouse" "reader" "LLoanHouse$Reader;" ∈ TBL := tb_0 _ (List.mem_of_getElem? (i := 17) rfl)
theorem w_18 : Cond.classLink "LoanHouse" 33 "LoanHouse$Checker" ∈ TBL := tb_0 _ (List.mem_of_getElem? (i := 18) rfl)
theorem w_19 : Cond.instantiable "LoanHouse$Checker" 11 ∈ TBL := tb_0 _ (List.mem_of_getElem? (i := 19) rfl)
theorem w_20 : Cond.initialized "LoanHouse$Checker" ∈ TBL := tb_0 _ (List.mem_of_getElem? (i := 20) rfl)
theorem w_21 : Cond.fieldLink "LoanHouse" 36 "LoanHouse" "checker" "LLoanHouse$Checker;" ∈ TBL := tb_0 _ (List.mem_of_getElem? (i := 21) rfl)
theorem w_22 : Cond.classLink "LoanHouse" 40 "LoanHouse$Emitter" ∈ TBL := tb_0 _ (List.mem_of_getElem? (i := 22) rfl)
theorem w_23 : Cond.instantiable "LoanHouse$Emitter" 10 ∈ TBL := tb_0 _ (List.mem_of_getElem? (i := 23) rfl)
theorem w_24 : Cond.initialized "LoanHouse$Emitter" ∈ TBL := tb_0 _ (List.mem_of_getElem? (i := 24) rfl)
theorem w_25 : Cond.fieldLink "LoanHouse" 43 "LoanHouse" "emitter" "LLoanHouse$Emitter;" ∈ TBL := tb_0 _ (List.mem_of_getElem? (i := 25) rfl)
theorem w_26 : Cond.classLink "LoanHouse" 47 "LoanHouse$Ways" ∈ TBL := tb_0 _ (List.mem_of_getElem? (i := 26) rfl)
theorem w_27 : Cond.instantiable "LoanHouse$Ways" 22 ∈ TBL := tb_0 _ (List.mem_of_getElem? (i := 27) rfl)
theorem w_28 : Cond.initialized "LoanHouse$Ways" ∈ TBL := tb_0 _ (List.mem_of_getElem? (i := 28) rfl)
theorem w_29 : Cond.fieldLink "LoanHouse" 50 "LoanHouse" "ways" "LLoanHouse$Ways;" ∈ TBL := tb_0 _ (List.mem_of_getElem? (i := 29) rfl)
theorem w_30 : Cond.classLink "LoanHouse" 54 "LoanHouse$Machine" ∈ TBL := tb_1 _ (List.mem_of_getElem? (i := 0) rfl)
theorem w_31 : Cond.instantiable "LoanHouse$Machine" 21 ∈ TBL := tb_1 _ (List.mem_of_getElem? (i := 1) rfl)
theorem w_32 : Cond.initialized "LoanHouse$Machine" ∈ TBL := tb_1 _ (List.mem_of_getElem? (i := 2) rfl)
theorem w_33 : Cond.fieldLink "LoanHouse" 57 "LoanHouse" "machine" "LLoanHouse$Machine;" ∈ TBL := tb_1 _ (List.mem_of_getElem? (i := 3) rfl)
theorem w_34 : Cond.classLink "LoanHouse" 61 "LoanHouse$Program" ∈ TBL := tb_1 _ (List.mem_of_getElem? (i := 4) rfl)
theorem w_35 : Cond.instantiable "LoanHouse$Program" 15 ∈ TBL := tb_1 _ (List.mem_of_getElem? (i := 5) rfl)
theorem w_36 : Cond.initialized "LoanHouse$Program" ∈ TBL := tb_1 _ (List.mem_of_getElem? (i := 6) rfl)
theorem w_37 : Cond.fieldLink "LoanHouse" 64 "LoanHouse" "program" "LLoanHouse$Program;" ∈ TBL := tb_1 _ (List.mem_of_getElem? (i := 7) rfl)
theorem w_38 : Cond.fieldLink "LoanHouse" 68 "LoanHouse" "faultKind" "I" ∈ TBL := tb_1 _ (List.mem_of_getElem? (i := 8) rfl)
theorem w_39 : Cond.fieldLink "LoanHouse" 72 "LoanHouse" "faultPlace" "I" ∈ TBL := tb_1 _ (List.mem_of_getElem? (i := 9) rfl)
theorem w_40 : Cond.fieldLink "LoanHouse" 75 "LoanHouse" "faultOther" "I" ∈ TBL := tb_1 _ (List.mem_of_getElem? (i := 10) rfl)
theorem w_41 : Cond.code yX12_feed cX12_feed 6 (some .int) ∈ TBL := tb_1 _ (List.mem_of_getElem? (i := 11) rfl)
theorem w_42 : Cond.instanceMethod yX12_feed ∈ TBL := tb_1 _ (List.mem_of_getElem? (i := 12) rfl)
theorem w_43 : Cond.selects "LoanHouse" yX12_feed yX12_feed ∈ TBL := tb_1 _ (List.mem_of_getElem? (i := 13) rfl)
theorem w_44 : Cond.fieldLink "LoanHouse" 78 "LoanHouse" "textLength" "I" ∈ TBL := tb_1 _ (List.mem_of_getElem? (i := 14) rfl)
theorem w_45 : Cond.methodLink "LoanHouse" 81 yX12_feedNumber ∈ TBL := tb_1 _ (List.mem_of_getElem? (i := 15) rfl)
theorem w_46 : Cond.code yX12_feedNumber cX12_feedNumber 3 none ∈ TBL := tb_1 _ (List.mem_of_getElem? (i := 16) rfl)
theorem w_47 : Cond.instanceMethod yX12_feedNumber ∈ TBL := tb_1 _ (List.mem_of_getElem? (i := 17) rfl)
theorem w_48 : Cond.selects "LoanHouse" yX12_feedNumber yX12_feedNumber ∈ TBL := tb_1 _ (List.mem_of_getElem? (i := 18) rfl)
theorem w_49 : Cond.code yX12_judge cX12_judge 2 (some .int) ∈ TBL := tb_1 _ (List.mem_of_getElem? (i := 19) rfl)
theorem w_50 : Cond.instanceMethod yX12_judge ∈ TBL := tb_1 _ (List.mem_of_getElem? (i := 20) rfl)
theorem w_51 : Cond.selects "LoanHouse" yX12_judge yX12_judge ∈ TBL := tb_1 _ (List.mem_of_getElem? (i := 21) rfl)
theorem w_52 : Cond.methodLink "LoanHouse" 89 yX12_judgeTree ∈ TBL := tb_1 _ (List.mem_of_getElem? (i := 22) rfl)
theorem w_53 : Cond.code yX12_judgeTree cX12_judgeTree 3 (some .int) ∈ TBL := tb_1 _ (List.mem_of_getElem? (i := 23) rfl)
theorem w_54 : Cond.instanceMethod yX12_judgeTree ∈ TBL := tb_1 _ (List.mem_of_getElem? (i := 24) rfl)
theorem w_55 : Cond.selects "LoanHouse" yX12_judgeTree yX12_judgeTree ∈ TBL := tb_1 _ (List.mem_of_getElem? (i := 25) rfl)
theorem w_56 : Cond.fieldLink "LoanHouse" 96 "LoanHouse" "hasProgram" "Z" ∈ TBL := tb_1 _ (List.mem_of_getElem? (i := 26) rfl)
theorem w_57 : Cond.fieldLink "LoanHouse" 100 "LoanHouse" "next" "LLoanHouse$Program;" ∈ TBL := tb_1 _ (List.mem_of_getElem? (i := 27) rfl)
theorem w_58 : Cond.code yX12_fault cX12_fault 2 (some .int) ∈ TBL := tb_1 _ (List.mem_of_getElem? (i := 28) rfl)
theorem w_59 : Cond.instanceMethod yX12_fault ∈ TBL := tb_1 _ (List.mem_of_getElem? (i := 29) rfl)
theorem w_60 : Cond.selects "LoanHouse" yX12_fault yX12_fault ∈ TBL := tb_2 _ (List.mem_of_getElem? (i := 0) rfl)
theorem w_61 : Cond.code yX12_give cX12_give 3 (some .int) ∈ TBL := tb_2 _ (List.mem_of_getElem? (i := 1) rfl)
theorem w_62 : Cond.instanceMethod yX12_give ∈ TBL := tb_2 _ (List.mem_of_getElem? (i := 2) rfl)
theorem w_63 : Cond.selects "LoanHouse" yX12_give yX12_give ∈ TBL := tb_2 _ (List.mem_of_getElem? (i := 3) rfl)
theorem w_64 : Cond.fieldLink "LoanHouse" 133 "LoanHouse" "givenTotal" "I" ∈ TBL := tb_2 _ (List.mem_of_getElem? (i := 4) rfl)
theorem w_65 : Cond.code yX12_run cX12_run 2 (some .int) ∈ TBL := tb_2 _ (List.mem_of_getElem? (i := 5) rfl)
theorem w_66 : Cond.instanceMethod yX12_run ∈ TBL := tb_2 _ (List.mem_of_getElem? (i := 6) rfl)
theorem w_67 : Cond.selects "LoanHouse" yX12_run yX12_run ∈ TBL := tb_2 _ (List.mem_of_getElem? (i := 7) rfl)
theorem w_68 : Cond.constant "LoanHouse" 136 (50000) ∈ TBL := tb_2 _ (List.mem_of_getElem? (i := 8) rfl)
theorem w_69 : Cond.fieldLink "LoanHouse" 103 "LoanHouse" "hasRun" "Z" ∈ TBL := tb_2 _ (List.mem_of_getElem? (i := 9) rfl)
theorem w_70 : Cond.code yX12_about cX12_about 2 (some .int) ∈ TBL := tb_2 _ (List.mem_of_getElem? (i := 10) rfl)
theorem w_71 : Cond.instanceMethod yX12_about ∈ TBL := tb_2 _ (List.mem_of_getElem? (i := 11) rfl)
theorem w_72 : Cond.selects "LoanHouse" yX12_about yX12_about ∈ TBL := tb_2 _ (List.mem_of_getElem? (i := 12) rfl)
theorem w_73 : Cond.code yX12_out cX12_out 3 (some .long) ∈ TBL := tb_2 _ (List.mem_of_getElem? (i := 13) rfl)
theorem w_74 : Cond.instanceMethod yX12_out ∈ TBL := tb_2 _ (List.mem_of_getElem? (i := 14) rfl)
theorem w_75 : Cond.selects "LoanHouse" yX12_out yX12_out ∈ TBL := tb_2 _ (List.mem_of_getElem? (i := 15) rfl)
theorem w_76 : Cond.code yX12_count cX12_count 2 (some .int) ∈ TBL := tb_2 _ (List.mem_of_getElem? (i := 16) rfl)
theorem w_77 : Cond.instanceMethod yX12_count ∈ TBL := tb_2 _ (List.mem_of_getElem? (i := 17) rfl)
theorem w_78 : Cond.selects "LoanHouse" yX12_count yX12_count ∈ TBL := tb_2 _ (List.mem_of_getElem? (i := 18) rfl)
theorem w_79 : Cond.code yX12_place cX12_place 3 (some .int) ∈ TBL := tb_2 _ (List.mem_of_getElem? (i := 19) rfl)
theorem w_80 : Cond.instanceMethod yX12_place ∈ TBL := tb_2 _ (List.mem_of_getElem? (i := 20) rfl)
theorem w_81 : Cond.selects "LoanHouse" yX12_place yX12_place ∈ TBL := tb_2 _ (List.mem_of_getElem? (i := 21) rfl)
theorem w_82 : Cond.code yX12_loan cX12_loan 3 (some .int) ∈ TBL := tb_2 _ (List.mem_of_getElem? (i := 22) rfl)
theorem w_83 : Cond.instanceMethod yX12_loan ∈ TBL := tb_2 _ (List.mem_of_getElem? (i := 23) rfl)
theorem w_84 : Cond.selects "LoanHouse" yX12_loan yX12_loan ∈ TBL := tb_2 _ (List.mem_of_getElem? (i := 24) rfl)
theorem w_85 : Cond.code yX12_force cX12_force 3 (some .int) ∈ TBL := tb_2 _ (List.mem_of_getElem? (i := 25) rfl)
theorem w_86 : Cond.instanceMethod yX12_force ∈ TBL := tb_2 _ (List.mem_of_getElem? (i := 26) rfl)
theorem w_87 : Cond.selects "LoanHouse" yX12_force yX12_force ∈ TBL := tb_2 _ (List.mem_of_getElem? (i := 27) rfl)
theorem w_88 : Cond.code yX12_function cX12_function 3 (some .int) ∈ TBL := tb_2 _ (List.mem_of_getElem? (i := 28) rfl)
theorem w_89 : Cond.instanceMethod yX12_function ∈ TBL := tb_2 _ (List.mem_of_getElem? (i := 29) rfl)
theorem w_90 : Cond.selects "LoanHouse" yX12_function yX12_function ∈ TBL := tb_3 _ (List.mem_of_getElem? (i := 0) rfl)
theorem w_91 : Cond.code yX12_size cX12_size 2 (some .int) ∈ TBL := tb_3 _ (List.mem_of_getElem? (i := 1) rfl)
theorem w_92 : Cond.instanceMethod yX12_size ∈ TBL := tb_3 _ (List.mem_of_getElem? (i := 2) rfl)
theorem w_93 : Cond.selects "LoanHouse" yX12_size yX12_size ∈ TBL := tb_3 _ (List.mem_of_getElem? (i := 3) rfl)
theorem w_94 : Cond.code yX12_strays cX12_strays 1 (some .int) ∈ TBL := tb_3 _ (List.mem_of_getElem? (i := 4) rfl)
theorem w_95 : Cond.instanceMethod yX12_strays ∈ TBL := tb_3 _ (List.mem_of_getElem? (i := 5) rfl)
theorem w_96 : Cond.selects "LoanHouse" yX12_strays yX12_strays ∈ TBL := tb_3 _ (List.mem_of_getElem? (i := 6) rfl)
theorem w_97 : Cond.code yX12_twices cX12_twices 1 (some .int) ∈ TBL := tb_3 _ (List.mem_of_getElem? (i := 7) rfl)
theorem w_98 : Cond.instanceMethod yX12_twices ∈ TBL := tb_3 _ (List.mem_of_getElem? (i := 8) rfl)
theorem w_99 : Cond.selects "LoanHouse" yX12_twices yX12_twices ∈ TBL := tb_3 _ (List.mem_of_getElem? (i := 9) rfl)
theorem w_100 : Cond.code yX12_lefts cX12_lefts 1 (some .int) ∈ TBL := tb_3 _ (List.mem_of_getElem? (i := 10) rfl)
theorem w_101 : Cond.instanceMethod yX12_lefts ∈ TBL := tb_3 _ (List.mem_of_getElem? (i := 11) rfl)
theorem w_102 : Cond.selects "LoanHouse" yX12_lefts yX12_lefts ∈ TBL := tb_3 _ (List.mem_of_getElem? (i := 12) rfl)
theorem w_103 : Cond.code yX12_clashes cX12_clashes 1 (some .int) ∈ TBL := tb_3 _ (List.mem_of_getElem? (i := 13) rfl)
theorem w_104 : Cond.instanceMethod yX12_clashes ∈ TBL := tb_3 _ (List.mem_of_getElem? (i := 14) rfl)
theorem w_105 : Cond.selects "LoanHouse" yX12_clashes yX12_clashes ∈ TBL := tb_3 _ (List.mem_of_getElem? (i := 15) rfl)
theorem w_106 : Cond.code yX8_init cX8_init 1 none ∈ TBL := tb_3 _ (List.mem_of_getElem? (i := 16) rfl)
theorem w_107 : Cond.instanceMethod yX8_init ∈ TBL := tb_3 _ (List.mem_of_getElem? (i := 17) rfl)
theorem w_108 : Cond.methodLink "LoanHouse$Tree" 3 objectInit ∈ TBL := tb_3 _ (List.mem_of_getElem? (i := 18) rfl)
theorem w_109 : Cond.arrayClass .int ∈ TBL := tb_3 _ (List.mem_of_getElem? (i := 19) rfl)
theorem w_110 : Cond.fieldLink "LoanHouse$Tree" 9 "LoanHouse$Tree" "kind" "[I" ∈ TBL := tb_3 _ (List.mem_of_getElem? (i := 20) rfl)
theorem w_111 : Cond.fieldLink "LoanHouse$Tree" 15 "LoanHouse$Tree" "pos" "[I" ∈ TBL := tb_3 _ (List.mem_of_getElem? (i := 21) rfl)
theorem w_112 : Cond.fieldLink "LoanHouse$Tree" 18 "LoanHouse$Tree" "from" "[I" ∈ TBL := tb_3 _ (List.mem_of_getElem? (i := 22) rfl)
theorem w_113 : Cond.fieldLink "LoanHouse$Tree" 21 "LoanHouse$Tree" "name" "[I" ∈ TBL := tb_3 _ (List.mem_of_getElem? (i := 23) rfl)
theorem w_114 : Cond.fieldLink "LoanHouse$Tree" 24 "LoanHouse$Tree" "a" "[I" ∈ TBL := tb_3 _ (List.mem_of_getElem? (i := 24) rfl)
theorem w_115 : Cond.fieldLink "LoanHouse$Tree" 27 "LoanHouse$Tree" "b" "[I" ∈ TBL := tb_3 _ (List.mem_of_getElem? (i := 25) rfl)
theorem w_116 : Cond.fieldLink "LoanHouse$Tree" 30 "LoanHouse$Tree" "c" "[I" ∈ TBL := tb_3 _ (List.mem_of_getElem? (i := 26) rfl)
theorem w_117 : Cond.fieldLink "LoanHouse$Tree" 33 "LoanHouse$Tree" "next" "[I" ∈ TBL := tb_3 _ (List.mem_of_getElem? (i := 27) rfl)
theorem w_118 : Cond.fieldLink "LoanHouse$Tree" 36 "LoanHouse$Tree" "value" "[J" ∈ TBL := tb_3 _ (List.mem_of_getElem? (i := 28) rfl)
theorem w_119 : Cond.fieldLink "LoanHouse$Tree" 40 "LoanHouse$Tree" "type" "[I" ∈ TBL := tb_3 _ (List.mem_of_getElem? (i := 29) rfl)
theorem w_120 : Cond.fieldLink "LoanHouse$Tree" 43 "LoanHouse$Tree" "ref" "[I" ∈ TBL := tb_4 _ (List.mem_of_getElem? (i := 0) rfl)
theorem w_121 : Cond.fieldLink "LoanHouse$Tree" 46 "LoanHouse$Tree" "total" "I" ∈ TBL := tb_4 _ (List.mem_of_getElem? (i := 1) rfl)
theorem w_122 : Cond.code yX8_clear cX8_clear 1 none ∈ TBL := tb_4 _ (List.mem_of_getElem? (i := 2) rfl)
theorem w_123 : Cond.instanceMethod yX8_clear ∈ TBL := tb_4 _ (List.mem_of_getElem? (i := 3) rfl)
theorem w_124 : Cond.selects "LoanHouse$Tree" yX8_clear yX8_clear ∈ TBL := tb_4 _ (List.mem_of_getElem? (i := 4) rfl)
theorem w_125 : Cond.code yX8_add cX8_add 4 (some .int) ∈ TBL := tb_4 _ (List.mem_of_getElem? (i := 5) rfl)
theorem w_126 : Cond.instanceMethod yX8_add ∈ TBL := tb_4 _ (List.mem_of_getElem? (i := 6) rfl)
theorem w_127 : Cond.selects "LoanHouse$Tree" yX8_add yX8_add ∈ TBL := tb_4 _ (List.mem_of_getElem? (i := 7) rfl)
theorem w_128 : Cond.code yX6_init cX6_init 3 none ∈ TBL := tb_4 _ (List.mem_of_getElem? (i := 8) rfl)
theorem w_129 : Cond.instanceMethod yX6_init ∈ TBL := tb_4 _ (List.mem_of_getElem? (i := 9) rfl)
theorem w_130 : Cond.methodLink "LoanHouse$Reader" 3 objectInit ∈ TBL := tb_4 _ (List.mem_of_getElem? (i := 10) rfl)
theorem w_131 : Cond.methodLink "LoanHouse$Reader" 11 yJ0_length_8abf5 ∈ TBL := tb_4 _ (List.mem_of_getElem? (i := 11) rfl)
theorem w_132 : Cond.fieldLink "LoanHouse$Reader" 17 "LoanHouse$Reader" "pool" "[B" ∈ TBL := tb_4 _ (List.mem_of_getElem? (i := 12) rfl)
theorem w_133 : Cond.fieldLink "LoanHouse$Reader" 23 "LoanHouse$Reader" "nameStart" "[I" ∈ TBL := tb_4 _ (List.mem_of_getElem? (i := 13) rfl)
theorem w_134 : Cond.fieldLink "LoanHouse$Reader" 27 "LoanHouse$Reader" "nameLength" "[I" ∈ TBL := tb_4 _ (List.mem_of_getElem? (i := 14) rfl)
theorem w_135 : Cond.fieldLink "LoanHouse$Reader" 30 "LoanHouse$Reader" "nameNext" "[I" ∈ TBL := tb_4 _ (List.mem_of_getElem? (i := 15) rfl)
theorem w_136 : Cond.fieldLink "LoanHouse$Reader" 33 "LoanHouse$Reader" "heads" "[I" ∈ TBL := tb_4 _ (List.mem_of_getElem? (i := 16) rfl)
theorem w_137 : Cond.fieldLink "LoanHouse$Reader" 36 "LoanHouse$Reader" "tokenKind" "[I" ∈ TBL := tb_4 _ (List.mem_of_getElem? (i := 17) rfl)
theorem w_138 : Cond.fieldLink "LoanHouse$Reader" 39 "LoanHouse$Reader" "tokenPos" "[I" ∈ TBL := tb_4 _ (List.mem_of_getElem? (i := 18) rfl)
theorem w_139 : Cond.fieldLink "LoanHouse$Reader" 42 "LoanHouse$Reader" "tokenValue" "[J" ∈ TBL := tb_4 _ (List.mem_of_getElem? (i := 19) rfl)
theorem w_140 : Cond.fieldLink "LoanHouse$Reader" 46 "LoanHouse$Reader" "tree" "LLoanHouse$Tree;" ∈ TBL := tb_4 _ (List.mem_of_getElem? (i := 20) rfl)
theorem w_141 : Cond.methodLink "LoanHouse$Reader" 50 yJ0_charAt_5068e ∈ TBL := tb_4 _ (List.mem_of_getElem? (i := 21) rfl)
theorem w_142 : Cond.code yX6_read cX6_read 8 (some .int) ∈ TBL := tb_4 _ (List.mem_of_getElem? (i := 22) rfl)
theorem w_143 : Cond.instanceMethod yX6_read ∈ TBL := tb_4 _ (List.mem_of_getElem? (i := 23) rfl)
theorem w_144 : Cond.selects "LoanHouse$Reader" yX6_read yX6_read ∈ TBL := tb_4 _ (List.mem_of_getElem? (i := 24) rfl)
theorem w_145 : Cond.methodLink "LoanHouse$Reader" 54 arraycopyName ∈ TBL := tb_4 _ (List.mem_of_getElem? (i := 25) rfl)
theorem w_146 : Cond.static arraycopyName ∈ TBL := tb_4 _ (List.mem_of_getElem? (i := 26) rfl)
theorem w_147 : Cond.native arraycopyName ∈ TBL := tb_4 _ (List.mem_of_getElem? (i := 27) rfl)
theorem w_148 : Cond.initialized "java/lang/System" ∈ TBL := tb_4 _ (List.mem_of_getElem? (i := 28) rfl)
theorem w_149 : Cond.fieldLink "LoanHouse$Reader" 60 "LoanHouse$Reader" "at" "I" ∈ TBL := tb_4 _ (List.mem_of_getElem? (i := 29) rfl)
theorem w_150 : Cond.fieldLink "LoanHouse$Reader" 64 "LoanHouse$Reader" "end" "I" ∈ TBL := tb_5 _ (List.mem_of_getElem? (i := 0) rfl)
theorem w_151 : Cond.fieldLink "LoanHouse$Reader" 67 "LoanHouse$Reader" "open" "I" ∈ TBL := tb_5 _ (List.mem_of_getElem? (i := 1) rfl)
theorem w_152 : Cond.fieldLink "LoanHouse$Reader" 70 "LoanHouse$Reader" "wrong" "I" ∈ TBL := tb_5 _ (List.mem_of_getElem? (i := 2) rfl)
theorem w_153 : Cond.methodLink "LoanHouse$Reader" 73 yX6_takeWords ∈ TBL := tb_5 _ (List.mem_of_getElem? (i := 3) rfl)
theorem w_154 : Cond.methodLink "LoanHouse$Reader" 76 yX6_takeTokens ∈ TBL := tb_5 _ (List.mem_of_getElem? (i := 4) rfl)
theorem w_155 : Cond.fieldLink "LoanHouse$Reader" 84 "LoanHouse$Reader" "current" "I" ∈ TBL := tb_5 _ (List.mem_of_getElem? (i := 5) rfl)
theorem w_156 : Cond.methodLink "LoanHouse$Reader" 87 yX6_advance ∈ TBL := tb_5 _ (List.mem_of_getElem? (i := 6) rfl)
theorem w_157 : Cond.fieldLink "LoanHouse$Reader" 94 "LoanHouse$Reader" "kind" "I" ∈ TBL := tb_5 _ (List.mem_of_getElem? (i := 7) rfl)
theorem w_158 : Cond.fieldLink "LoanHouse$Reader" 97 "LoanHouse$Reader" "pos" "I" ∈ TBL := tb_5 _ (List.mem_of_getElem? (i := 8) rfl)
theorem w_159 : Cond.code yX6_takeWords cX6_takeWords 3 none ∈ TBL := tb_5 _ (List.mem_of_getElem? (i := 9) rfl)
theorem w_160 : Cond.instanceMethod yX6_takeWords ∈ TBL := tb_5 _ (List.mem_of_getElem? (i := 10) rfl)
theorem w_161 : Cond.selects "LoanHouse$Reader" yX6_takeWords yX6_takeWords ∈ TBL := tb_5 _ (List.mem_of_getElem? (i := 11) rfl)
theorem w_162 : Cond.fieldLink "LoanHouse$Reader" 119 "LoanHouse$Reader" "names" "I" ∈ TBL := tb_5 _ (List.mem_of_getElem? (i := 12) rfl)
theorem w_163 : Cond.methodLink "LoanHouse$Reader" 122 yX6_nameOf ∈ TBL := tb_5 _ (List.mem_of_getElem? (i := 13) rfl)
theorem w_164 : Cond.code yX6_nameOf cX6_nameOf 6 (some .int) ∈ TBL := tb_5 _ (List.mem_of_getElem? (i := 14) rfl)
theorem w_165 : Cond.instanceMethod yX6_nameOf ∈ TBL := tb_5 _ (List.mem_of_getElem? (i := 15) rfl)
theorem w_166 : Cond.selects "LoanHouse$Reader" yX6_nameOf yX6_nameOf ∈ TBL := tb_5 _ (List.mem_of_getElem? (i := 16) rfl)
theorem w_167 : Cond.methodLink "LoanHouse$Reader" 125 yX6_alike ∈ TBL := tb_5 _ (List.mem_of_getElem? (i := 17) rfl)
theorem w_168 : Cond.code yX6_alike cX6_alike 5 (some .boolean) ∈ TBL := tb_5 _ (List.mem_of_getElem? (i := 18) rfl)
theorem w_169 : Cond.instanceMethod yX6_alike ∈ TBL := tb_5 _ (List.mem_of_getElem? (i := 19) rfl)
theorem w_170 : Cond.selects "LoanHouse$Reader" yX6_alike yX6_alike ∈ TBL := tb_5 _ (List.mem_of_getElem? (i := 20) rfl)
theorem w_171 : Cond.code yX6_takeTokens cX6_takeTokens 3 none ∈ TBL := tb_5 _ (List.mem_of_getElem? (i := 21) rfl)
theorem w_172 : Cond.instanceMethod yX6_takeTokens ∈ TBL := tb_5 _ (List.mem_of_getElem? (i := 22) rfl)
theorem w_173 : Cond.selects "LoanHouse$Reader" yX6_takeTokens yX6_takeTokens ∈ TBL := tb_5 _ (List.mem_of_getElem? (i := 23) rfl)
theorem w_174 : Cond.fieldLink "LoanHouse$Reader" 129 "LoanHouse$Reader" "tokens" "I" ∈ TBL := tb_5 _ (List.mem_of_getElem? (i := 24) rfl)
theorem w_175 : Cond.methodLink "LoanHouse$Reader" 132 yX6_skipBlanks ∈ TBL := tb_5 _ (List.mem_of_getElem? (i := 25) rfl)
theorem w_176 : Cond.code yX6_skipBlanks cX6_skipBlanks 5 none ∈ TBL := tb_5 _ (List.mem_of_getElem? (i := 26) rfl)
theorem w_177 : Cond.instanceMethod yX6_skipBlanks ∈ TBL := tb_5 _ (List.mem_of_getElem? (i := 27) rfl)
theorem w_178 : Cond.selects "LoanHouse$Reader" yX6_skipBlanks yX6_skipBlanks ∈ TBL := tb_5 _ (List.mem_of_getElem? (i := 28) rfl)
theorem w_179 : Cond.code yX6_advance cX6_advance 1 none ∈ TBL := tb_5 _ (List.mem_of_getElem? (i := 29) rfl)
theorem w_180 : Cond.instanceMethod yX6_advance ∈ TBL := tb_6 _ (List.mem_of_getElem? (i := 0) rfl)
theorem w_181 : Cond.selects "LoanHouse$Reader" yX6_advance yX6_advance ∈ TBL := tb_6 _ (List.mem_of_getElem? (i := 1) rfl)
theorem w_182 : Cond.code yX0_init cX0_init 2 none ∈ TBL := tb_6 _ (List.mem_of_getElem? (i := 2) rfl)
theorem w_183 : Cond.instanceMethod yX0_init ∈ TBL := tb_6 _ (List.mem_of_getElem? (i := 3) rfl)
theorem w_184 : Cond.methodLink "LoanHouse$Checker" 3 objectInit ∈ TBL := tb_6 _ (List.mem_of_getElem? (i := 4) rfl)
theorem w_185 : Cond.fieldLink "LoanHouse$Checker" 9 "LoanHouse$Checker" "tree" "LLoanHouse$Tree;" ∈ TBL := tb_6 _ (List.mem_of_getElem? (i := 5) rfl)
theorem w_186 : Cond.code yX0_check cX0_check 6 (some .int) ∈ TBL := tb_6 _ (List.mem_of_getElem? (i := 6) rfl)
theorem w_187 : Cond.instanceMethod yX0_check ∈ TBL := tb_6 _ (List.mem_of_getElem? (i := 7) rfl)
theorem w_188 : Cond.selects "LoanHouse$Checker" yX0_check yX0_check ∈ TBL := tb_6 _ (List.mem_of_getElem? (i := 8) rfl)
theorem w_189 : Cond.fieldLink "LoanHouse$Checker" 21 "LoanHouse$Checker" "types" "LLoanHouse$Types;" ∈ TBL := tb_6 _ (List.mem_of_getElem? (i := 9) rfl)
theorem w_190 : Cond.fieldLink "LoanHouse$Checker" 26 "LoanHouse$Checker" "functions" "LLoanHouse$Functions;" ∈ TBL := tb_6 _ (List.mem_of_getElem? (i := 10) rfl)
theorem w_191 : Cond.fieldLink "LoanHouse$Checker" 31 "LoanHouse$Checker" "variables" "LLoanHouse$Variables;" ∈ TBL := tb_6 _ (List.mem_of_getElem? (i := 11) rfl)
theorem w_192 : Cond.fieldLink "LoanHouse$Checker" 36 "LoanHouse$Checker" "places" "LLoanHouse$Places;" ∈ TBL := tb_6 _ (List.mem_of_getElem? (i := 12) rfl)
theorem w_193 : Cond.constant "LoanHouse$Checker" 37 (1073741824) ∈ TBL := tb_6 _ (List.mem_of_getElem? (i := 13) rfl)
theorem w_194 : Cond.fieldLink "LoanHouse$Checker" 38 "LoanHouse$Checker" "least" "I" ∈ TBL := tb_6 _ (List.mem_of_getElem? (i := 14) rfl)
theorem w_195 : Cond.methodLink "LoanHouse$Checker" 48 yX0_declareAll ∈ TBL := tb_6 _ (List.mem_of_getElem? (i := 15) rfl)
theorem w_196 : Cond.methodLink "LoanHouse$Checker" 67 yX0_measures ∈ TBL := tb_6 _ (List.mem_of_getElem? (i := 16) rfl)
theorem w_197 : Cond.methodLink "LoanHouse$Checker" 81 yX0_mainFunction ∈ TBL := tb_6 _ (List.mem_of_getElem? (i := 17) rfl)
theorem w_198 : Cond.code yX0_declareAll cX0_declareAll 4 none ∈ TBL := tb_6 _ (List.mem_of_getElem? (i := 18) rfl)
theorem w_199 : Cond.instanceMethod yX0_declareAll ∈ TBL := tb_6 _ (List.mem_of_getElem? (i := 19) rfl)
theorem w_200 : Cond.selects "LoanHouse$Checker" yX0_declareAll yX0_declareAll ∈ TBL := tb_6 _ (List.mem_of_getElem? (i := 20) rfl)
theorem w_201 : Cond.code yX0_measures cX0_measures 5 none ∈ TBL := tb_6 _ (List.mem_of_getElem? (i := 21) rfl)
theorem w_202 : Cond.instanceMethod yX0_measures ∈ TBL := tb_6 _ (List.mem_of_getElem? (i := 22) rfl)
theorem w_203 : Cond.selects "LoanHouse$Checker" yX0_measures yX0_measures ∈ TBL := tb_6 _ (List.mem_of_getElem? (i := 23) rfl)
theorem w_204 : Cond.methodLink "LoanHouse$Checker" 126 yX0_broken ∈ TBL := tb_6 _ (List.mem_of_getElem? (i := 24) rfl)
theorem w_205 : Cond.code yX0_mainFunction cX0_mainFunction 4 none ∈ TBL := tb_6 _ (List.mem_of_getElem? (i := 25) rfl)
theorem w_206 : Cond.instanceMethod yX0_mainFunction ∈ TBL := tb_6 _ (List.mem_of_getElem? (i := 26) rfl)
theorem w_207 : Cond.selects "LoanHouse$Checker" yX0_mainFunction yX0_mainFunction ∈ TBL := tb_6 _ (List.mem_of_getElem? (i := 27) rfl)
theorem w_208 : Cond.code yX0_broken cX0_broken 2 none ∈ TBL := tb_6 _ (List.mem_of_getElem? (i := 28) rfl)
theorem w_209 : Cond.instanceMethod yX0_broken ∈ TBL := tb_6 _ (List.mem_of_getElem? (i := 29) rfl)
theorem w_210 : Cond.selects "LoanHouse$Checker" yX0_broken yX0_broken ∈ TBL := tb_7 _ (List.mem_of_getElem? (i := 0) rfl)
theorem w_211 : Cond.methodLink "LoanHouse$Checker" 84 Lib.Math.min.name ∈ TBL := tb_7 _ (List.mem_of_getElem? (i := 1) rfl)
theorem w_212 : Cond.static Lib.Math.min.name ∈ TBL := tb_7 _ (List.mem_of_getElem? (i := 2) rfl)
theorem w_213 : Cond.code Lib.Math.min.name Lib.Math.min.code 2 (some .int) ∈ TBL := tb_7 _ (List.mem_of_getElem? (i := 3) rfl)
theorem w_214 : Cond.initialized "java/lang/Math" ∈ TBL := tb_7 _ (List.mem_of_getElem? (i := 4) rfl)
theorem w_215 : Cond.code yX1_init cX1_init 2 none ∈ TBL := tb_7 _ (List.mem_of_getElem? (i := 5) rfl)
theorem w_216 : Cond.instanceMethod yX1_init ∈ TBL := tb_7 _ (List.mem_of_getElem? (i := 6) rfl)
theorem w_217 : Cond.methodLink "LoanHouse$Emitter" 3 objectInit ∈ TBL := tb_7 _ (List.mem_of_getElem? (i := 7) rfl)
theorem w_218 : Cond.fieldLink "LoanHouse$Emitter" 9 "LoanHouse$Emitter" "tree" "LLoanHouse$Tree;" ∈ TBL := tb_7 _ (List.mem_of_getElem? (i := 8) rfl)
theorem w_219 : Cond.code yX11_init cX11_init 1 none ∈ TBL := tb_7 _ (List.mem_of_getElem? (i := 9) rfl)
theorem w_220 : Cond.instanceMethod yX11_init ∈ TBL := tb_7 _ (List.mem_of_getElem? (i := 10) rfl)
theorem w_221 : Cond.methodLink "LoanHouse$Ways" 5 objectInit ∈ TBL := tb_7 _ (List.mem_of_getElem? (i := 11) rfl)
theorem w_222 : Cond.fieldLink "LoanHouse$Ways" 11 "LoanHouse$Ways" "state" "[J" ∈ TBL := tb_7 _ (List.mem_of_getElem? (i := 12) rfl)
theorem w_223 : Cond.fieldLink "LoanHouse$Ways" 15 "LoanHouse$Ways" "labelState" "[J" ∈ TBL := tb_7 _ (List.mem_of_getElem? (i := 13) rfl)
theorem w_224 : Cond.arrayClass .boolean ∈ TBL := tb_7 _ (List.mem_of_getElem? (i := 14) rfl)
theorem w_225 : Cond.fieldLink "LoanHouse$Ways" 18 "LoanHouse$Ways" "labelCome" "[Z" ∈ TBL := tb_7 _ (List.mem_of_getElem? (i := 15) rfl)
theorem w_226 : Cond.fieldLink "LoanHouse$Ways" 22 "LoanHouse$Ways" "temps" "[J" ∈ TBL := tb_7 _ (List.mem_of_getElem? (i := 16) rfl)
theorem w_227 : Cond.fieldLink "LoanHouse$Ways" 25 "LoanHouse$Ways" "matched" "[J" ∈ TBL := tb_7 _ (List.mem_of_getElem? (i := 17) rfl)
theorem w_228 : Cond.fieldLink "LoanHouse$Ways" 28 "LoanHouse$Ways" "used" "[J" ∈ TBL := tb_7 _ (List.mem_of_getElem? (i := 18) rfl)
theorem w_229 : Cond.fieldLink "LoanHouse$Ways" 31 "LoanHouse$Ways" "met" "[Z" ∈ TBL := tb_7 _ (List.mem_of_getElem? (i := 19) rfl)
theorem w_230 : Cond.code yX3_init cX3_init 1 none ∈ TBL := tb_7 _ (List.mem_of_getElem? (i := 20) rfl)
theorem w_231 : Cond.instanceMethod yX3_init ∈ TBL := tb_7 _ (List.mem_of_getElem? (i := 21) rfl)
theorem w_232 : Cond.methodLink "LoanHouse$Machine" 3 objectInit ∈ TBL := tb_7 _ (List.mem_of_getElem? (i := 22) rfl)
theorem w_233 : Cond.classLink "LoanHouse$Machine" 9 "LoanHouse$Store" ∈ TBL := tb_7 _ (List.mem_of_getElem? (i := 23) rfl)
theorem w_234 : Cond.instantiable "LoanHouse$Store" 19 ∈ TBL := tb_7 _ (List.mem_of_getElem? (i := 24) rfl)
theorem w_235 : Cond.initialized "LoanHouse$Store" ∈ TBL := tb_7 _ (List.mem_of_getElem? (i := 25) rfl)
theorem w_236 : Cond.fieldLink "LoanHouse$Machine" 12 "LoanHouse$Machine" "store" "LLoanHouse$Store;" ∈ TBL := tb_7 _ (List.mem_of_getElem? (i := 26) rfl)
theorem w_237 : Cond.classLink "LoanHouse$Machine" 18 "[[J" ∈ TBL := tb_7 _ (List.mem_of_getElem? (i := 27) rfl)
theorem w_238 : Cond.fieldLink "LoanHouse$Machine" 20 "LoanHouse$Machine" "waiting" "[[J" ∈ TBL := tb_7 _ (List.mem_of_getElem? (i := 28) rfl)
theorem w_239 : Cond.fieldLink "LoanHouse$Machine" 23 "LoanHouse$Machine" "parts" "[J" ∈ TBL := tb_7 _ (List.mem_of_getElem? (i := 29) rfl)
theorem w_240 : Cond.code yX7_init cX7_init 1 none ∈ TBL := tb_8 _ (List.mem_of_getElem? (i := 0) rfl)
theorem w_241 : Cond.instanceMethod yX7_init ∈ TBL := tb_8 _ (List.mem_of_getElem? (i := 1) rfl)
theorem w_242 : Cond.methodLink "LoanHouse$Store" 3 objectInit ∈ TBL := tb_8 _ (List.mem_of_getElem? (i := 2) rfl)
theorem w_243 : Cond.fieldLink "LoanHouse$Store" 9 "LoanHouse$Store" "cells" "[J" ∈ TBL := tb_8 _ (List.mem_of_getElem? (i := 3) rfl)
theorem w_244 : Cond.fieldLink "LoanHouse$Store" 15 "LoanHouse$Store" "boxUsed" "[Z" ∈ TBL := tb_8 _ (List.mem_of_getElem? (i := 4) rfl)
theorem w_245 : Cond.fieldLink "LoanHouse$Store" 19 "LoanHouse$Store" "rowUsed" "[Z" ∈ TBL := tb_8 _ (List.mem_of_getElem? (i := 5) rfl)
theorem w_246 : Cond.fieldLink "LoanHouse$Store" 22 "LoanHouse$Store" "rowLength" "[I" ∈ TBL := tb_8 _ (List.mem_of_getElem? (i := 6) rfl)
theorem w_247 : Cond.fieldLink "LoanHouse$Store" 26 "LoanHouse$Store" "outKind" "[I" ∈ TBL := tb_8 _ (List.mem_of_getElem? (i := 7) rfl)
theorem w_248 : Cond.fieldLink "LoanHouse$Store" 29 "LoanHouse$Store" "outNumber" "[J" ∈ TBL := tb_8 _ (List.mem_of_getElem? (i := 8) rfl)
theorem w_249 : Cond.fieldLink "LoanHouse$Store" 32 "LoanHouse$Store" "dropType" "[I" ∈ TBL := tb_8 _ (List.mem_of_getElem? (i := 9) rfl)
theorem w_250 : Cond.fieldLink "LoanHouse$Store" 35 "LoanHouse$Store" "dropAt" "[I" ∈ TBL := tb_8 _ (List.mem_of_getElem? (i := 10) rfl)
theorem w_251 : Cond.code yX5_init cX5_init 1 none ∈ TBL := tb_8 _ (List.mem_of_getElem? (i := 11) rfl)
theorem w_252 : Cond.instanceMethod yX5_init ∈ TBL := tb_8 _ (List.mem_of_getElem? (i := 12) rfl)
theorem w_253 : Cond.methodLink "LoanHouse$Program" 3 objectInit ∈ TBL := tb_8 _ (List.mem_of_getElem? (i := 13) rfl)
theorem w_254 : Cond.classLink "LoanHouse$Program" 9 "LoanHouse$Types" ∈ TBL := tb_8 _ (List.mem_of_getElem? (i := 14) rfl)
theorem w_255 : Cond.instantiable "LoanHouse$Types" 19 ∈ TBL := tb_8 _ (List.mem_of_getElem? (i := 15) rfl)
theorem w_256 : Cond.initialized "LoanHouse$Types" ∈ TBL := tb_8 _ (List.mem_of_getElem? (i := 16) rfl)
theorem w_257 : Cond.fieldLink "LoanHouse$Program" 12 "LoanHouse$Program" "types" "LLoanHouse$Types;" ∈ TBL := tb_8 _ (List.mem_of_getElem? (i := 17) rfl)
theorem w_258 : Cond.classLink "LoanHouse$Program" 18 "LoanHouse$Functions" ∈ TBL := tb_8 _ (List.mem_of_getElem? (i := 18) rfl)
theorem w_259 : Cond.instantiable "LoanHouse$Functions" 19 ∈ TBL := tb_8 _ (List.mem_of_getElem? (i := 19) rfl)
theorem w_260 : Cond.initialized "LoanHouse$Functions" ∈ TBL := tb_8 _ (List.mem_of_getElem? (i := 20) rfl)
theorem w_261 : Cond.fieldLink "LoanHouse$Program" 21 "LoanHouse$Program" "functions" "LLoanHouse$Functions;" ∈ TBL := tb_8 _ (List.mem_of_getElem? (i := 21) rfl)
theorem w_262 : Cond.classLink "LoanHouse$Program" 25 "LoanHouse$Variables" ∈ TBL := tb_8 _ (List.mem_of_getElem? (i := 22) rfl)
theorem w_263 : Cond.instantiable "LoanHouse$Variables" 12 ∈ TBL := tb_8 _ (List.mem_of_getElem? (i := 23) rfl)
theorem w_264 : Cond.initialized "LoanHouse$Variables" ∈ TBL := tb_8 _ (List.mem_of_getElem? (i := 24) rfl)
theorem w_265 : Cond.fieldLink "LoanHouse$Program" 28 "LoanHouse$Program" "variables" "LLoanHouse$Variables;" ∈ TBL := tb_8 _ (List.mem_of_getElem? (i := 25) rfl)
theorem w_266 : Cond.classLink "LoanHouse$Program" 32 "LoanHouse$Places" ∈ TBL := tb_8 _ (List.mem_of_getElem? (i := 26) rfl)
theorem w_267 : Cond.instantiable "LoanHouse$Places" 20 ∈ TBL := tb_8 _ (List.mem_of_getElem? (i := 27) rfl)
theorem w_268 : Cond.initialized "LoanHouse$Places" ∈ TBL := tb_8 _ (List.mem_of_getElem? (i := 28) rfl)
theorem w_269 : Cond.fieldLink "LoanHouse$Program" 35 "LoanHouse$Program" "places" "LLoanHouse$Places;" ∈ TBL := tb_8 _ (List.mem_of_getElem? (i := 29) rfl)
theorem w_270 : Cond.fieldLink "LoanHouse$Program" 39 "LoanHouse$Program" "op" "[I" ∈ TBL := tb_9 _ (List.mem_of_getElem? (i := 0) rfl)
theorem w_271 : Cond.fieldLink "LoanHouse$Program" 43 "LoanHouse$Program" "x" "[I" ∈ TBL := tb_9 _ (List.mem_of_getElem? (i := 1) rfl)
theorem w_272 : Cond.fieldLink "LoanHouse$Program" 46 "LoanHouse$Program" "y" "[I" ∈ TBL := tb_9 _ (List.mem_of_getElem? (i := 2) rfl)
theorem w_273 : Cond.fieldLink "LoanHouse$Program" 49 "LoanHouse$Program" "z" "[I" ∈ TBL := tb_9 _ (List.mem_of_getElem? (i := 3) rfl)
theorem w_274 : Cond.fieldLink "LoanHouse$Program" 52 "LoanHouse$Program" "pos" "[I" ∈ TBL := tb_9 _ (List.mem_of_getElem? (i := 4) rfl)
theorem w_275 : Cond.fieldLink "LoanHouse$Program" 55 "LoanHouse$Program" "label" "[I" ∈ TBL := tb_9 _ (List.mem_of_getElem? (i := 5) rfl)
theorem w_276 : Cond.fieldLink "LoanHouse$Program" 58 "LoanHouse$Program" "order" "[I" ∈ TBL := tb_9 _ (List.mem_of_getElem? (i := 6) rfl)
theorem w_277 : Cond.code yX5_clear cX5_clear 1 none ∈ TBL := tb_9 _ (List.mem_of_getElem? (i := 7) rfl)
theorem w_278 : Cond.instanceMethod yX5_clear ∈ TBL := tb_9 _ (List.mem_of_getElem? (i := 8) rfl)
theorem w_279 : Cond.selects "LoanHouse$Program" yX5_clear yX5_clear ∈ TBL := tb_9 _ (List.mem_of_getElem? (i := 9) rfl)
theorem w_280 : Cond.fieldLink "LoanHouse$Program" 67 "LoanHouse$Program" "slots" "I" ∈ TBL := tb_9 _ (List.mem_of_getElem? (i := 10) rfl)
theorem w_281 : Cond.fieldLink "LoanHouse$Program" 71 "LoanHouse$Program" "labels" "I" ∈ TBL := tb_9 _ (List.mem_of_getElem? (i := 11) rfl)
theorem w_282 : Cond.fieldLink "LoanHouse$Program" 74 "LoanHouse$Program" "matches" "I" ∈ TBL := tb_9 _ (List.mem_of_getElem? (i := 12) rfl)
theorem w_283 : Cond.fieldLink "LoanHouse$Program" 77 "LoanHouse$Program" "orders" "I" ∈ TBL := tb_9 _ (List.mem_of_getElem? (i := 13) rfl)
theorem w_284 : Cond.code yX9_init cX9_init 1 none ∈ TBL := tb_9 _ (List.mem_of_getElem? (i := 14) rfl)
theorem w_285 : Cond.instanceMethod yX9_init ∈ TBL := tb_9 _ (List.mem_of_getElem? (i := 15) rfl)
theorem w_286 : Cond.methodLink "LoanHouse$Types" 3 objectInit ∈ TBL := tb_9 _ (List.mem_of_getElem? (i := 16) rfl)
theorem w_287 : Cond.fieldLink "LoanHouse$Types" 9 "LoanHouse$Types" "kind" "[I" ∈ TBL := tb_9 _ (List.mem_of_getElem? (i := 17) rfl)
theorem w_288 : Cond.fieldLink "LoanHouse$Types" 15 "LoanHouse$Types" "arg" "[I" ∈ TBL := tb_9 _ (List.mem_of_getElem? (i := 18) rfl)
theorem w_289 : Cond.fieldLink "LoanHouse$Types" 18 "LoanHouse$Types" "declName" "[I" ∈ TBL := tb_9 _ (List.mem_of_getElem? (i := 19) rfl)
theorem w_290 : Cond.fieldLink "LoanHouse$Types" 21 "LoanHouse$Types" "declForm" "[I" ∈ TBL := tb_9 _ (List.mem_of_getElem? (i := 20) rfl)
theorem w_291 : Cond.fieldLink "LoanHouse$Types" 24 "LoanHouse$Types" "declFirst" "[I" ∈ TBL := tb_9 _ (List.mem_of_getElem? (i := 21) rfl)
theorem w_292 : Cond.fieldLink "LoanHouse$Types" 27 "LoanHouse$Types" "declWidth" "[I" ∈ TBL := tb_9 _ (List.mem_of_getElem? (i := 22) rfl)
theorem w_293 : Cond.fieldLink "LoanHouse$Types" 30 "LoanHouse$Types" "declCells" "[I" ∈ TBL := tb_9 _ (List.mem_of_getElem? (i := 23) rfl)
theorem w_294 : Cond.fieldLink "LoanHouse$Types" 33 "LoanHouse$Types" "declParts" "[I" ∈ TBL := tb_9 _ (List.mem_of_getElem? (i := 24) rfl)
theorem w_295 : Cond.fieldLink "LoanHouse$Types" 36 "LoanHouse$Types" "declLeaves" "[I" ∈ TBL := tb_9 _ (List.mem_of_getElem? (i := 25) rfl)
theorem w_296 : Cond.fieldLink "LoanHouse$Types" 39 "LoanHouse$Types" "variantName" "[I" ∈ TBL := tb_9 _ (List.mem_of_getElem? (i := 26) rfl)
theorem w_297 : Cond.fieldLink "LoanHouse$Types" 42 "LoanHouse$Types" "variantFirst" "[I" ∈ TBL := tb_9 _ (List.mem_of_getElem? (i := 27) rfl)
theorem w_298 : Cond.fieldLink "LoanHouse$Types" 45 "LoanHouse$Types" "variantWidth" "[I" ∈ TBL := tb_9 _ (List.mem_of_getElem? (i := 28) rfl)
theorem w_299 : Cond.fieldLink "LoanHouse$Types" 48 "LoanHouse$Types" "memberName" "[I" ∈ TBL := tb_9 _ (List.mem_of_getElem? (i := 29) rfl)
theorem w_300 : Cond.fieldLink "LoanHouse$Types" 51 "LoanHouse$Types" "memberType" "[I" ∈ TBL := tb_10 _ (List.mem_of_getElem? (i := 0) rfl)
theorem w_301 : Cond.fieldLink "LoanHouse$Types" 54 "LoanHouse$Types" "memberCell" "[I" ∈ TBL := tb_10 _ (List.mem_of_getElem? (i := 1) rfl)
theorem w_302 : Cond.code yX9_clear cX9_clear 1 none ∈ TBL := tb_10 _ (List.mem_of_getElem? (i := 2) rfl)
theorem w_303 : Cond.instanceMethod yX9_clear ∈ TBL := tb_10 _ (List.mem_of_getElem? (i := 3) rfl)
theorem w_304 : Cond.selects "LoanHouse$Types" yX9_clear yX9_clear ∈ TBL := tb_10 _ (List.mem_of_getElem? (i := 4) rfl)
theorem w_305 : Cond.fieldLink "LoanHouse$Types" 57 "LoanHouse$Types" "decls" "I" ∈ TBL := tb_10 _ (List.mem_of_getElem? (i := 5) rfl)
theorem w_306 : Cond.fieldLink "LoanHouse$Types" 61 "LoanHouse$Types" "variants" "I" ∈ TBL := tb_10 _ (List.mem_of_getElem? (i := 6) rfl)
theorem w_307 : Cond.fieldLink "LoanHouse$Types" 64 "LoanHouse$Types" "members" "I" ∈ TBL := tb_10 _ (List.mem_of_getElem? (i := 7) rfl)
theorem w_308 : Cond.fieldLink "LoanHouse$Types" 67 "LoanHouse$Types" "total" "I" ∈ TBL := tb_10 _ (List.mem_of_getElem? (i := 8) rfl)
theorem w_309 : Cond.code yX9_measure cX9_measure 4 none ∈ TBL := tb_10 _ (List.mem_of_getElem? (i := 9) rfl)
theorem w_310 : Cond.instanceMethod yX9_measure ∈ TBL := tb_10 _ (List.mem_of_getElem? (i := 10) rfl)
theorem w_311 : Cond.selects "LoanHouse$Types" yX9_measure yX9_measure ∈ TBL := tb_10 _ (List.mem_of_getElem? (i := 11) rfl)
theorem w_312 : Cond.code yX2_init cX2_init 1 none ∈ TBL := tb_10 _ (List.mem_of_getElem? (i := 12) rfl)
theorem w_313 : Cond.instanceMethod yX2_init ∈ TBL := tb_10 _ (List.mem_of_getElem? (i := 13) rfl)
theorem w_314 : Cond.methodLink "LoanHouse$Functions" 3 objectInit ∈ TBL := tb_10 _ (List.mem_of_getElem? (i := 14) rfl)
theorem w_315 : Cond.fieldLink "LoanHouse$Functions" 9 "LoanHouse$Functions" "name" "[I" ∈ TBL := tb_10 _ (List.mem_of_getElem? (i := 15) rfl)
theorem w_316 : Cond.fieldLink "LoanHouse$Functions" 15 "LoanHouse$Functions" "node" "[I" ∈ TBL := tb_10 _ (List.mem_of_getElem? (i := 16) rfl)
theorem w_317 : Cond.fieldLink "LoanHouse$Functions" 18 "LoanHouse$Functions" "result" "[I" ∈ TBL := tb_10 _ (List.mem_of_getElem? (i := 17) rfl)
theorem w_318 : Cond.fieldLink "LoanHouse$Functions" 21 "LoanHouse$Functions" "of" "[J" ∈ TBL := tb_10 _ (List.mem_of_getElem? (i := 18) rfl)
theorem w_319 : Cond.fieldLink "LoanHouse$Functions" 25 "LoanHouse$Functions" "params" "[I" ∈ TBL := tb_10 _ (List.mem_of_getElem? (i := 19) rfl)
theorem w_320 : Cond.fieldLink "LoanHouse$Functions" 28 "LoanHouse$Functions" "firstParam" "[I" ∈ TBL := tb_10 _ (List.mem_of_getElem? (i := 20) rfl)
theorem w_321 : Cond.fieldLink "LoanHouse$Functions" 31 "LoanHouse$Functions" "paramType" "[I" ∈ TBL := tb_10 _ (List.mem_of_getElem? (i := 21) rfl)
theorem w_322 : Cond.fieldLink "LoanHouse$Functions" 34 "LoanHouse$Functions" "firstVariable" "[I" ∈ TBL := tb_10 _ (List.mem_of_getElem? (i := 22) rfl)
theorem w_323 : Cond.fieldLink "LoanHouse$Functions" 37 "LoanHouse$Functions" "variables" "[I" ∈ TBL := tb_10 _ (List.mem_of_getElem? (i := 23) rfl)
theorem w_324 : Cond.fieldLink "LoanHouse$Functions" 40 "LoanHouse$Functions" "firstLeaf" "[I" ∈ TBL := tb_10 _ (List.mem_of_getElem? (i := 24) rfl)
theorem w_325 : Cond.fieldLink "LoanHouse$Functions" 43 "LoanHouse$Functions" "leaves" "[I" ∈ TBL := tb_10 _ (List.mem_of_getElem? (i := 25) rfl)
theorem w_326 : Cond.fieldLink "LoanHouse$Functions" 46 "LoanHouse$Functions" "splits" "[I" ∈ TBL := tb_10 _ (List.mem_of_getElem? (i := 26) rfl)
theorem w_327 : Cond.fieldLink "LoanHouse$Functions" 49 "LoanHouse$Functions" "firstLoan" "[I" ∈ TBL := tb_10 _ (List.mem_of_getElem? (i := 27) rfl)
theorem w_328 : Cond.fieldLink "LoanHouse$Functions" 52 "LoanHouse$Functions" "loans" "[I" ∈ TBL := tb_10 _ (List.mem_of_getElem? (i := 28) rfl)
theorem w_329 : Cond.fieldLink "LoanHouse$Functions" 55 "LoanHouse$Functions" "entry" "[I" ∈ TBL := tb_10 _ (List.mem_of_getElem? (i := 29) rfl)
theorem w_330 : Cond.fieldLink "LoanHouse$Functions" 58 "LoanHouse$Functions" "cells" "[I" ∈ TBL := tb_11 _ (List.mem_of_getElem? (i := 0) rfl)
theorem w_331 : Cond.code yX2_clear cX2_clear 1 none ∈ TBL := tb_11 _ (List.mem_of_getElem? (i := 1) rfl)
theorem w_332 : Cond.instanceMethod yX2_clear ∈ TBL := tb_11 _ (List.mem_of_getElem? (i := 2) rfl)
theorem w_333 : Cond.selects "LoanHouse$Functions" yX2_clear yX2_clear ∈ TBL := tb_11 _ (List.mem_of_getElem? (i := 3) rfl)
theorem w_334 : Cond.fieldLink "LoanHouse$Functions" 61 "LoanHouse$Functions" "total" "I" ∈ TBL := tb_11 _ (List.mem_of_getElem? (i := 4) rfl)
theorem w_335 : Cond.fieldLink "LoanHouse$Functions" 65 "LoanHouse$Functions" "paramTotal" "I" ∈ TBL := tb_11 _ (List.mem_of_getElem? (i := 5) rfl)
theorem w_336 : Cond.fieldLink "LoanHouse$Functions" 68 "LoanHouse$Functions" "main" "I" ∈ TBL := tb_11 _ (List.mem_of_getElem? (i := 6) rfl)
theorem w_337 : Cond.code yX10_init cX10_init 1 none ∈ TBL := tb_11 _ (List.mem_of_getElem? (i := 7) rfl)
theorem w_338 : Cond.instanceMethod yX10_init ∈ TBL := tb_11 _ (List.mem_of_getElem? (i := 8) rfl)
theorem w_339 : Cond.methodLink "LoanHouse$Variables" 3 objectInit ∈ TBL := tb_11 _ (List.mem_of_getElem? (i := 9) rfl)
theorem w_340 : Cond.fieldLink "LoanHouse$Variables" 9 "LoanHouse$Variables" "name" "[I" ∈ TBL := tb_11 _ (List.mem_of_getElem? (i := 10) rfl)
theorem w_341 : Cond.fieldLink "LoanHouse$Variables" 15 "LoanHouse$Variables" "pos" "[I" ∈ TBL := tb_11 _ (List.mem_of_getElem? (i := 11) rfl)
theorem w_342 : Cond.fieldLink "LoanHouse$Variables" 18 "LoanHouse$Variables" "type" "[I" ∈ TBL := tb_11 _ (List.mem_of_getElem? (i := 12) rfl)
theorem w_343 : Cond.fieldLink "LoanHouse$Variables" 21 "LoanHouse$Variables" "outer" "[I" ∈ TBL := tb_11 _ (List.mem_of_getElem? (i := 13) rfl)
theorem w_344 : Cond.fieldLink "LoanHouse$Variables" 24 "LoanHouse$Variables" "firstLeaf" "[I" ∈ TBL := tb_11 _ (List.mem_of_getElem? (i := 14) rfl)
theorem w_345 : Cond.fieldLink "LoanHouse$Variables" 27 "LoanHouse$Variables" "leafCount" "[I" ∈ TBL := tb_11 _ (List.mem_of_getElem? (i := 15) rfl)
theorem w_346 : Cond.fieldLink "LoanHouse$Variables" 30 "LoanHouse$Variables" "cell" "[I" ∈ TBL := tb_11 _ (List.mem_of_getElem? (i := 16) rfl)
theorem w_347 : Cond.fieldLink "LoanHouse$Variables" 33 "LoanHouse$Variables" "loans" "[J" ∈ TBL := tb_11 _ (List.mem_of_getElem? (i := 17) rfl)
theorem w_348 : Cond.fieldLink "LoanHouse$Variables" 37 "LoanHouse$Variables" "leafType" "[I" ∈ TBL := tb_11 _ (List.mem_of_getElem? (i := 18) rfl)
theorem w_349 : Cond.fieldLink "LoanHouse$Variables" 40 "LoanHouse$Variables" "leafCell" "[I" ∈ TBL := tb_11 _ (List.mem_of_getElem? (i := 19) rfl)
theorem w_350 : Cond.code yX10_clear cX10_clear 1 none ∈ TBL := tb_11 _ (List.mem_of_getElem? (i := 20) rfl)
theorem w_351 : Cond.instanceMethod yX10_clear ∈ TBL := tb_11 _ (List.mem_of_getElem? (i := 21) rfl)
theorem w_352 : Cond.selects "LoanHouse$Variables" yX10_clear yX10_clear ∈ TBL := tb_11 _ (List.mem_of_getElem? (i := 22) rfl)
theorem w_353 : Cond.fieldLink "LoanHouse$Variables" 43 "LoanHouse$Variables" "total" "I" ∈ TBL := tb_11 _ (List.mem_of_getElem? (i := 23) rfl)
theorem w_354 : Cond.fieldLink "LoanHouse$Variables" 47 "LoanHouse$Variables" "leaves" "I" ∈ TBL := tb_11 _ (List.mem_of_getElem? (i := 24) rfl)
theorem w_355 : Cond.code yX4_init cX4_init 1 none ∈ TBL := tb_11 _ (List.mem_of_getElem? (i := 25) rfl)
theorem w_356 : Cond.instanceMethod yX4_init ∈ TBL := tb_11 _ (List.mem_of_getElem? (i := 26) rfl)
theorem w_357 : Cond.methodLink "LoanHouse$Places" 3 objectInit ∈ TBL := tb_11 _ (List.mem_of_getElem? (i := 27) rfl)
theorem w_358 : Cond.fieldLink "LoanHouse$Places" 9 "LoanHouse$Places" "pos" "[I" ∈ TBL := tb_11 _ (List.mem_of_getElem? (i := 28) rfl)
theorem w_359 : Cond.fieldLink "LoanHouse$Places" 15 "LoanHouse$Places" "act" "[I" ∈ TBL := tb_11 _ (List.mem_of_getElem? (i := 29) rfl)
theorem w_360 : Cond.fieldLink "LoanHouse$Places" 18 "LoanHouse$Places" "fn" "[I" ∈ TBL := tb_12 _ (List.mem_of_getElem? (i := 0) rfl)
theorem w_361 : Cond.fieldLink "LoanHouse$Places" 21 "LoanHouse$Places" "variable" "[I" ∈ TBL := tb_12 _ (List.mem_of_getElem? (i := 1) rfl)
theorem w_362 : Cond.fieldLink "LoanHouse$Places" 24 "LoanHouse$Places" "type" "[I" ∈ TBL := tb_12 _ (List.mem_of_getElem? (i := 2) rfl)
theorem w_363 : Cond.fieldLink "LoanHouse$Places" 27 "LoanHouse$Places" "firstStep" "[I" ∈ TBL := tb_12 _ (List.mem_of_getElem? (i := 3) rfl)
theorem w_364 : Cond.fieldLink "LoanHouse$Places" 30 "LoanHouse$Places" "steps" "[I" ∈ TBL := tb_12 _ (List.mem_of_getElem? (i := 4) rfl)
theorem w_365 : Cond.fieldLink "LoanHouse$Places" 33 "LoanHouse$Places" "leaf" "[I" ∈ TBL := tb_12 _ (List.mem_of_getElem? (i := 5) rfl)
theorem w_366 : Cond.fieldLink "LoanHouse$Places" 36 "LoanHouse$Places" "leaves" "[I" ∈ TBL := tb_12 _ (List.mem_of_getElem? (i := 6) rfl)
theorem w_367 : Cond.fieldLink "LoanHouse$Places" 39 "LoanHouse$Places" "further" "[Z" ∈ TBL := tb_12 _ (List.mem_of_getElem? (i := 7) rfl)
theorem w_368 : Cond.fieldLink "LoanHouse$Places" 43 "LoanHouse$Places" "come" "[Z" ∈ TBL := tb_12 _ (List.mem_of_getElem? (i := 8) rfl)
theorem w_369 : Cond.fieldLink "LoanHouse$Places" 46 "LoanHouse$Places" "force" "[J" ∈ TBL := tb_12 _ (List.mem_of_getElem? (i := 9) rfl)
theorem w_370 : Cond.fieldLink "LoanHouse$Places" 50 "LoanHouse$Places" "stepKind" "[I" ∈ TBL := tb_12 _ (List.mem_of_getElem? (i := 10) rfl)
theorem w_371 : Cond.fieldLink "LoanHouse$Places" 53 "LoanHouse$Places" "stepCell" "[I" ∈ TBL := tb_12 _ (List.mem_of_getElem? (i := 11) rfl)
theorem w_372 : Cond.fieldLink "LoanHouse$Places" 56 "LoanHouse$Places" "stepPos" "[I" ∈ TBL := tb_12 _ (List.mem_of_getElem? (i := 12) rfl)
theorem w_373 : Cond.fieldLink "LoanHouse$Places" 59 "LoanHouse$Places" "loanPos" "[I" ∈ TBL := tb_12 _ (List.mem_of_getElem? (i := 13) rfl)
theorem w_374 : Cond.fieldLink "LoanHouse$Places" 62 "LoanHouse$Places" "loanPlace" "[I" ∈ TBL := tb_12 _ (List.mem_of_getElem? (i := 14) rfl)
theorem w_375 : Cond.code yX4_clear cX4_clear 1 none ∈ TBL := tb_12 _ (List.mem_of_getElem? (i := 15) rfl)
theorem w_376 : Cond.instanceMethod yX4_clear ∈ TBL := tb_12 _ (List.mem_of_getElem? (i := 16) rfl)
theorem w_377 : Cond.selects "LoanHouse$Places" yX4_clear yX4_clear ∈ TBL := tb_12 _ (List.mem_of_getElem? (i := 17) rfl)
theorem w_378 : Cond.fieldLink "LoanHouse$Places" 65 "LoanHouse$Places" "total" "I" ∈ TBL := tb_12 _ (List.mem_of_getElem? (i := 18) rfl)
theorem w_379 : Cond.fieldLink "LoanHouse$Places" 69 "LoanHouse$Places" "stepTotal" "I" ∈ TBL := tb_12 _ (List.mem_of_getElem? (i := 19) rfl)
theorem w_380 : Cond.fieldLink "LoanHouse$Places" 72 "LoanHouse$Places" "loans" "I" ∈ TBL := tb_12 _ (List.mem_of_getElem? (i := 20) rfl)
theorem w_381 : Cond.code yX30_init cX30_init 1 none ∈ TBL := tb_12 _ (List.mem_of_getElem? (i := 21) rfl)
theorem w_382 : Cond.initialized "LoanHouseModel" ∈ TBL := tb_12 _ (List.mem_of_getElem? (i := 22) rfl)
theorem w_383 : Cond.instanceMethod yX30_init ∈ TBL := tb_12 _ (List.mem_of_getElem? (i := 23) rfl)
theorem w_384 : Cond.methodLink "LoanHouseModel" 3 objectInit ∈ TBL := tb_12 _ (List.mem_of_getElem? (i := 24) rfl)
theorem w_385 : Cond.fieldLink "LoanHouseModel" 9 "LoanHouseModel" "text" "[B" ∈ TBL := tb_12 _ (List.mem_of_getElem? (i := 25) rfl)
theorem w_386 : Cond.fieldLink "LoanHouseModel" 13 "LoanHouseModel" "kindOf" "[I" ∈ TBL := tb_12 _ (List.mem_of_getElem? (i := 26) rfl)
theorem w_387 : Cond.fieldLink "LoanHouseModel" 17 "LoanHouseModel" "placeOf" "[I" ∈ TBL := tb_12 _ (List.mem_of_getElem? (i := 27) rfl)
theorem w_388 : Cond.fieldLink "LoanHouseModel" 20 "LoanHouseModel" "endOf" "[I" ∈ TBL := tb_12 _ (List.mem_of_getElem? (i := 28) rfl)
theorem w_389 : Cond.classLink "LoanHouseModel" 23 "java/lang/String" ∈ TBL := tb_12 _ (List.mem_of_getElem? (i := 29) rfl)
theorem w_390 : Cond.instantiable "java/lang/String" 4 ∈ TBL := tb_13 _ (List.mem_of_getElem? (i := 0) rfl)
theorem w_391 : Cond.initialized "java/lang/String" ∈ TBL := tb_13 _ (List.mem_of_getElem? (i := 1) rfl)
theorem w_392 : Cond.fieldLink "LoanHouseModel" 25 "LoanHouseModel" "wordOf" "[Ljava/lang/String;" ∈ TBL := tb_13 _ (List.mem_of_getElem? (i := 2) rfl)
theorem w_393 : Cond.fieldLink "LoanHouseModel" 29 "LoanHouseModel" "late" "[Ljava/lang/String;" ∈ TBL := tb_13 _ (List.mem_of_getElem? (i := 3) rfl)
theorem w_394 : Cond.classLink "LoanHouseModel" 32 "java/lang/StringBuilder" ∈ TBL := tb_13 _ (List.mem_of_getElem? (i := 4) rfl)
theorem w_395 : Cond.instantiable "java/lang/StringBuilder" 4 ∈ TBL := tb_13 _ (List.mem_of_getElem? (i := 5) rfl)
theorem w_396 : Cond.initialized "java/lang/StringBuilder" ∈ TBL := tb_13 _ (List.mem_of_getElem? (i := 6) rfl)
theorem w_397 : Cond.methodLink "LoanHouseModel" 34 yJ4_init_d00df ∈ TBL := tb_13 _ (List.mem_of_getElem? (i := 7) rfl)
theorem w_398 : Cond.fieldLink "LoanHouseModel" 37 "LoanHouseModel" "builder" "Ljava/lang/StringBuilder;" ∈ TBL := tb_13 _ (List.mem_of_getElem? (i := 8) rfl)
theorem w_399 : Cond.fieldLink "LoanHouseModel" 41 "LoanHouseModel" "ones" "[Ljava/lang/String;" ∈ TBL := tb_13 _ (List.mem_of_getElem? (i := 9) rfl)
theorem w_400 : Cond.classLink "LoanHouseModel" 44 "java/util/ArrayList" ∈ TBL := tb_13 _ (List.mem_of_getElem? (i := 10) rfl)
theorem w_401 : Cond.instantiable "java/util/ArrayList" 3 ∈ TBL := tb_13 _ (List.mem_of_getElem? (i := 11) rfl)
theorem w_402 : Cond.initialized "java/util/ArrayList" ∈ TBL := tb_13 _ (List.mem_of_getElem? (i := 12) rfl)
theorem w_403 : Cond.methodLink "LoanHouseModel" 46 yJx4a65c_init_da8c8 ∈ TBL := tb_13 _ (List.mem_of_getElem? (i := 13) rfl)
theorem w_404 : Cond.fieldLink "LoanHouseModel" 47 "LoanHouseModel" "exps" "Ljava/util/ArrayList;" ∈ TBL := tb_13 _ (List.mem_of_getElem? (i := 14) rfl)
theorem w_405 : Cond.fieldLink "LoanHouseModel" 51 "LoanHouseModel" "takenExps" "Ljava/util/ArrayList;" ∈ TBL := tb_13 _ (List.mem_of_getElem? (i := 15) rfl)
theorem w_406 : Cond.classLink "LoanHouseModel" 54 "LoanHouseModel$Type" ∈ TBL := tb_13 _ (List.mem_of_getElem? (i := 16) rfl)
theorem w_407 : Cond.instantiable "LoanHouseModel$Type" 3 ∈ TBL := tb_13 _ (List.mem_of_getElem? (i := 17) rfl)
theorem w_408 : Cond.initialized "LoanHouseModel$Type" ∈ TBL := tb_13 _ (List.mem_of_getElem? (i := 18) rfl)
theorem w_409 : Cond.methodLink "LoanHouseModel" 56 yX26_init ∈ TBL := tb_13 _ (List.mem_of_getElem? (i := 19) rfl)
theorem w_410 : Cond.fieldLink "LoanHouseModel" 59 "LoanHouseModel" "intType" "LLoanHouseModel$Type;" ∈ TBL := tb_13 _ (List.mem_of_getElem? (i := 20) rfl)
theorem w_411 : Cond.fieldLink "LoanHouseModel" 63 "LoanHouseModel" "boolType" "LLoanHouseModel$Type;" ∈ TBL := tb_13 _ (List.mem_of_getElem? (i := 21) rfl)
theorem w_412 : Cond.fieldLink "LoanHouseModel" 66 "LoanHouseModel" "scope" "Ljava/util/ArrayList;" ∈ TBL := tb_13 _ (List.mem_of_getElem? (i := 22) rfl)
theorem w_413 : Cond.fieldLink "LoanHouseModel" 69 "LoanHouseModel" "nodes" "Ljava/util/ArrayList;" ∈ TBL := tb_13 _ (List.mem_of_getElem? (i := 23) rfl)
theorem w_414 : Cond.fieldLink "LoanHouseModel" 72 "LoanHouseModel" "live" "Ljava/util/ArrayList;" ∈ TBL := tb_13 _ (List.mem_of_getElem? (i := 24) rfl)
theorem w_415 : Cond.fieldLink "LoanHouseModel" 75 "LoanHouseModel" "allNodes" "Ljava/util/ArrayList;" ∈ TBL := tb_13 _ (List.mem_of_getElem? (i := 25) rfl)
theorem w_416 : Cond.fieldLink "LoanHouseModel" 78 "LoanHouseModel" "takenNodes" "Ljava/util/ArrayList;" ∈ TBL := tb_13 _ (List.mem_of_getElem? (i := 26) rfl)
theorem w_417 : Cond.fieldLink "LoanHouseModel" 81 "LoanHouseModel" "all" "[J" ∈ TBL := tb_13 _ (List.mem_of_getElem? (i := 27) rfl)
theorem w_418 : Cond.fieldLink "LoanHouseModel" 85 "LoanHouseModel" "some" "[J" ∈ TBL := tb_13 _ (List.mem_of_getElem? (i := 28) rfl)
theorem w_419 : Cond.fieldLink "LoanHouseModel" 88 "LoanHouseModel" "used" "[J" ∈ TBL := tb_13 _ (List.mem_of_getElem? (i := 29) rfl)
theorem w_420 : Cond.fieldLink "LoanHouseModel" 91 "LoanHouseModel" "holds" "[J" ∈ TBL := tb_14 _ (List.mem_of_getElem? (i := 0) rfl)
theorem w_421 : Cond.fieldLink "LoanHouseModel" 94 "LoanHouseModel" "column" "[I" ∈ TBL := tb_14 _ (List.mem_of_getElem? (i := 1) rfl)
theorem w_422 : Cond.fieldLink "LoanHouseModel" 97 "LoanHouseModel" "mark" "[Z" ∈ TBL := tb_14 _ (List.mem_of_getElem? (i := 2) rfl)
theorem w_423 : Cond.fieldLink "LoanHouseModel" 101 "LoanHouseModel" "now" "[J" ∈ TBL := tb_14 _ (List.mem_of_getElem? (i := 3) rfl)
theorem w_424 : Cond.fieldLink "LoanHouseModel" 104 "LoanHouseModel" "forces" "[J" ∈ TBL := tb_14 _ (List.mem_of_getElem? (i := 4) rfl)
theorem w_425 : Cond.fieldLink "LoanHouseModel" 107 "LoanHouseModel" "entries" "Ljava/util/ArrayList;" ∈ TBL := tb_14 _ (List.mem_of_getElem? (i := 5) rfl)
theorem w_426 : Cond.fieldLink "LoanHouseModel" 110 "LoanHouseModel" "lastFault" "I" ∈ TBL := tb_14 _ (List.mem_of_getElem? (i := 6) rfl)
theorem w_427 : Cond.fieldLink "LoanHouseModel" 114 "LoanHouseModel" "lastPlace" "I" ∈ TBL := tb_14 _ (List.mem_of_getElem? (i := 7) rfl)
theorem w_428 : Cond.fieldLink "LoanHouseModel" 117 "LoanHouseModel" "lastOther" "I" ∈ TBL := tb_14 _ (List.mem_of_getElem? (i := 8) rfl)
theorem w_429 : Cond.fieldLink "LoanHouseModel" 120 "LoanHouseModel" "made" "Ljava/util/ArrayList;" ∈ TBL := tb_14 _ (List.mem_of_getElem? (i := 9) rfl)
theorem w_430 : Cond.fieldLink "LoanHouseModel" 123 "LoanHouseModel" "takenForces" "[J" ∈ TBL := tb_14 _ (List.mem_of_getElem? (i := 10) rfl)
theorem w_431 : Cond.fieldLink "LoanHouseModel" 126 "LoanHouseModel" "type" "[LLoanHouseModel$Type;" ∈ TBL := tb_14 _ (List.mem_of_getElem? (i := 11) rfl)
theorem w_432 : Cond.fieldLink "LoanHouseModel" 130 "LoanHouseModel" "num" "[J" ∈ TBL := tb_14 _ (List.mem_of_getElem? (i := 12) rfl)
theorem w_433 : Cond.fieldLink "LoanHouseModel" 133 "LoanHouseModel" "times" "[J" ∈ TBL := tb_14 _ (List.mem_of_getElem? (i := 13) rfl)
theorem w_434 : Cond.fieldLink "LoanHouseModel" 136 "LoanHouseModel" "tree" "[J" ∈ TBL := tb_14 _ (List.mem_of_getElem? (i := 14) rfl)
theorem w_435 : Cond.fieldLink "LoanHouseModel" 139 "LoanHouseModel" "kin" "[J" ∈ TBL := tb_14 _ (List.mem_of_getElem? (i := 15) rfl)
theorem w_436 : Cond.fieldLink "LoanHouseModel" 142 "LoanHouseModel" "by" "[J" ∈ TBL := tb_14 _ (List.mem_of_getElem? (i := 16) rfl)
theorem w_437 : Cond.constant "LoanHouseModel" 145 (65536) ∈ TBL := tb_14 _ (List.mem_of_getElem? (i := 17) rfl)
theorem w_438 : Cond.fieldLink "LoanHouseModel" 146 "LoanHouseModel" "lentOf" "[I" ∈ TBL := tb_14 _ (List.mem_of_getElem? (i := 18) rfl)
theorem w_439 : Cond.fieldLink "LoanHouseModel" 149 "LoanHouseModel" "heap" "[I" ∈ TBL := tb_14 _ (List.mem_of_getElem? (i := 19) rfl)
theorem w_440 : Cond.fieldLink "LoanHouseModel" 152 "LoanHouseModel" "outKind" "[I" ∈ TBL := tb_14 _ (List.mem_of_getElem? (i := 20) rfl)
theorem w_441 : Cond.fieldLink "LoanHouseModel" 155 "LoanHouseModel" "outNumber" "[J" ∈ TBL := tb_14 _ (List.mem_of_getElem? (i := 21) rfl)
theorem w_442 : Cond.fieldLink "LoanHouseModel" 158 "LoanHouseModel" "renamed" "[I" ∈ TBL := tb_14 _ (List.mem_of_getElem? (i := 22) rfl)
theorem w_443 : Cond.fieldLink "LoanHouseModel" 161 "LoanHouseModel" "gave" "[J" ∈ TBL := tb_14 _ (List.mem_of_getElem? (i := 23) rfl)
theorem w_444 : Cond.fieldLink "LoanHouseModel" 164 "LoanHouseModel" "stack" "[I" ∈ TBL := tb_14 _ (List.mem_of_getElem? (i := 24) rfl)
theorem w_445 : Cond.classLink "LoanHouseModel" 167 "LoanHouseModel$Fn" ∈ TBL := tb_14 _ (List.mem_of_getElem? (i := 25) rfl)
theorem w_446 : Cond.instantiable "LoanHouseModel$Fn" 17 ∈ TBL := tb_14 _ (List.mem_of_getElem? (i := 26) rfl)
theorem w_447 : Cond.initialized "LoanHouseModel$Fn" ∈ TBL := tb_14 _ (List.mem_of_getElem? (i := 27) rfl)
theorem w_448 : Cond.fieldLink "LoanHouseModel" 169 "LoanHouseModel" "callFn" "[LLoanHouseModel$Fn;" ∈ TBL := tb_14 _ (List.mem_of_getElem? (i := 28) rfl)
theorem w_449 : Cond.classLink "LoanHouseModel" 173 "LoanHouseModel$Node" ∈ TBL := tb_14 _ (List.mem_of_getElem? (i := 29) rfl)
theorem w_450 : Cond.instantiable "LoanHouseModel$Node" 15 ∈ TBL := tb_15 _ (List.mem_of_getElem? (i := 0) rfl)
theorem w_451 : Cond.initialized "LoanHouseModel$Node" ∈ TBL := tb_15 _ (List.mem_of_getElem? (i := 1) rfl)
theorem w_452 : Cond.fieldLink "LoanHouseModel" 175 "LoanHouseModel" "callBack" "[LLoanHouseModel$Node;" ∈ TBL := tb_15 _ (List.mem_of_getElem? (i := 2) rfl)
theorem w_453 : Cond.fieldLink "LoanHouseModel" 179 "LoanHouseModel" "callBase" "[I" ∈ TBL := tb_15 _ (List.mem_of_getElem? (i := 3) rfl)
theorem w_454 : Cond.fieldLink "LoanHouseModel" 182 "LoanHouseModel" "actives" "[I" ∈ TBL := tb_15 _ (List.mem_of_getElem? (i := 4) rfl)
theorem w_455 : Cond.fieldLink "LoanHouseModel" 185 "LoanHouseModel" "variable" "[I" ∈ TBL := tb_15 _ (List.mem_of_getElem? (i := 5) rfl)
theorem w_456 : Cond.fieldLink "LoanHouseModel" 188 "LoanHouseModel" "active" "[I" ∈ TBL := tb_15 _ (List.mem_of_getElem? (i := 6) rfl)
theorem w_457 : Cond.fieldLink "LoanHouseModel" 191 "LoanHouseModel" "keptParts" "[I" ∈ TBL := tb_15 _ (List.mem_of_getElem? (i := 7) rfl)
theorem w_458 : Cond.code yX30_feed cX30_feed 8 (some .int) ∈ TBL := tb_15 _ (List.mem_of_getElem? (i := 8) rfl)
theorem w_459 : Cond.instanceMethod yX30_feed ∈ TBL := tb_15 _ (List.mem_of_getElem? (i := 9) rfl)
theorem w_460 : Cond.selects "LoanHouseModel" yX30_feed yX30_feed ∈ TBL := tb_15 _ (List.mem_of_getElem? (i := 10) rfl)
theorem w_461 : Cond.fieldLink "LoanHouseModel" 1231 "LoanHouseModel" "textSize" "I" ∈ TBL := tb_15 _ (List.mem_of_getElem? (i := 11) rfl)
theorem w_462 : Cond.code yX30_judge cX30_judge 4 (some .int) ∈ TBL := tb_15 _ (List.mem_of_getElem? (i := 12) rfl)
theorem w_463 : Cond.instanceMethod yX30_judge ∈ TBL := tb_15 _ (List.mem_of_getElem? (i := 13) rfl)
theorem w_464 : Cond.selects "LoanHouseModel" yX30_judge yX30_judge ∈ TBL := tb_15 _ (List.mem_of_getElem? (i := 14) rfl)
theorem w_465 : Cond.fieldLink "LoanHouseModel" 291 "LoanHouseModel" "fault" "I" ∈ TBL := tb_15 _ (List.mem_of_getElem? (i := 15) rfl)
theorem w_466 : Cond.fieldLink "LoanHouseModel" 294 "LoanHouseModel" "faultPlace" "I" ∈ TBL := tb_15 _ (List.mem_of_getElem? (i := 16) rfl)
theorem w_467 : Cond.fieldLink "LoanHouseModel" 297 "LoanHouseModel" "otherPlace" "I" ∈ TBL := tb_15 _ (List.mem_of_getElem? (i := 17) rfl)
theorem w_468 : Cond.methodLink "LoanHouseModel" 1234 yX30_split ∈ TBL := tb_15 _ (List.mem_of_getElem? (i := 18) rfl)
theorem w_469 : Cond.fieldLink "LoanHouseModel" 284 "LoanHouseModel" "at" "I" ∈ TBL := tb_15 _ (List.mem_of_getElem? (i := 19) rfl)
theorem w_470 : Cond.fieldLink "LoanHouseModel" 313 "LoanHouseModel" "open" "I" ∈ TBL := tb_15 _ (List.mem_of_getElem? (i := 20) rfl)
theorem w_471 : Cond.classLink "LoanHouseModel" 400 "LoanHouseModel$Program" ∈ TBL := tb_15 _ (List.mem_of_getElem? (i := 21) rfl)
theorem w_472 : Cond.instantiable "LoanHouseModel$Program" 4 ∈ TBL := tb_15 _ (List.mem_of_getElem? (i := 22) rfl)
theorem w_473 : Cond.initialized "LoanHouseModel$Program" ∈ TBL := tb_15 _ (List.mem_of_getElem? (i := 23) rfl)
theorem w_474 : Cond.fieldLink "LoanHouseModel" 395 "LoanHouseModel" "program" "LLoanHouseModel$Program;" ∈ TBL := tb_15 _ (List.mem_of_getElem? (i := 24) rfl)
theorem w_475 : Cond.fieldLink "LoanHouseModel" 621 "LoanHouseModel" "expsUsed" "I" ∈ TBL := tb_15 _ (List.mem_of_getElem? (i := 25) rfl)
theorem w_476 : Cond.fieldLink "LoanHouseModel" 1010 "LoanHouseModel" "nodesUsed" "I" ∈ TBL := tb_15 _ (List.mem_of_getElem? (i := 26) rfl)
theorem w_477 : Cond.fieldLink "LoanHouseModel" 489 "LoanHouseModel" "inHand" "LLoanHouseModel$Fn;" ∈ TBL := tb_15 _ (List.mem_of_getElem? (i := 27) rfl)
theorem w_478 : Cond.methodLink "LoanHouseModel" 1238 yX30_readText ∈ TBL := tb_15 _ (List.mem_of_getElem? (i := 28) rfl)
theorem w_479 : Cond.methodLink "LoanHouseModel" 1241 yX30_ruleItems ∈ TBL := tb_15 _ (List.mem_of_getElem? (i := 29) rfl)
theorem w_480 : Cond.methodLink "LoanHouseModel" 1244 yX30_ruleFns ∈ TBL := tb_16 _ (List.mem_of_getElem? (i := 0) rfl)
theorem w_481 : Cond.fieldLink "LoanHouseModel" 1250 "LoanHouseModel" "taken" "LLoanHouseModel$Program;" ∈ TBL := tb_16 _ (List.mem_of_getElem? (i := 1) rfl)
theorem w_482 : Cond.fieldLink "LoanHouseModel" 1253 "LoanHouseModel" "wasRun" "Z" ∈ TBL := tb_16 _ (List.mem_of_getElem? (i := 2) rfl)
theorem w_483 : Cond.code yX30_split cX30_split 9 none ∈ TBL := tb_16 _ (List.mem_of_getElem? (i := 3) rfl)
theorem w_484 : Cond.instanceMethod yX30_split ∈ TBL := tb_16 _ (List.mem_of_getElem? (i := 4) rfl)
theorem w_485 : Cond.selects "LoanHouseModel" yX30_split yX30_split ∈ TBL := tb_16 _ (List.mem_of_getElem? (i := 5) rfl)
theorem w_486 : Cond.fieldLink "LoanHouseModel" 201 "LoanHouseModel" "tokens" "I" ∈ TBL := tb_16 _ (List.mem_of_getElem? (i := 6) rfl)
theorem w_487 : Cond.methodLink "LoanHouseModel" 263 yX30_token ∈ TBL := tb_16 _ (List.mem_of_getElem? (i := 7) rfl)
theorem w_488 : Cond.constantLong "LoanHouseModel" 274 (9223372036854775807) ∈ TBL := tb_16 _ (List.mem_of_getElem? (i := 8) rfl)
theorem w_489 : Cond.constantLong "LoanHouseModel" 276 (10) ∈ TBL := tb_16 _ (List.mem_of_getElem? (i := 9) rfl)
theorem w_490 : Cond.code yX30_token cX30_token 4 none ∈ TBL := tb_16 _ (List.mem_of_getElem? (i := 10) rfl)
theorem w_491 : Cond.instanceMethod yX30_token ∈ TBL := tb_16 _ (List.mem_of_getElem? (i := 11) rfl)
theorem w_492 : Cond.selects "LoanHouseModel" yX30_token yX30_token ∈ TBL := tb_16 _ (List.mem_of_getElem? (i := 12) rfl)
theorem w_493 : Cond.methodLink "LoanHouseModel" 210 yX30_known ∈ TBL := tb_16 _ (List.mem_of_getElem? (i := 13) rfl)
theorem w_494 : Cond.code yX30_known cX30_known 5 (some (.object "java/lang/String")) ∈ TBL := tb_16 _ (List.mem_of_getElem? (i := 14) rfl)
theorem w_495 : Cond.instanceMethod yX30_known ∈ TBL := tb_16 _ (List.mem_of_getElem? (i := 15) rfl)
theorem w_496 : Cond.selects "LoanHouseModel" yX30_known yX30_known ∈ TBL := tb_16 _ (List.mem_of_getElem? (i := 16) rfl)
theorem w_497 : Cond.methodLink "LoanHouseModel" 213 yX30_isLate ∈ TBL := tb_16 _ (List.mem_of_getElem? (i := 17) rfl)
theorem w_498 : Cond.methodLink "LoanHouseModel" 217 yX30_word ∈ TBL := tb_16 _ (List.mem_of_getElem? (i := 18) rfl)
theorem w_499 : Cond.code yX30_isLate cX30_isLate 5 (some .boolean) ∈ TBL := tb_16 _ (List.mem_of_getElem? (i := 19) rfl)
theorem w_500 : Cond.instanceMethod yX30_isLate ∈ TBL := tb_16 _ (List.mem_of_getElem? (i := 20) rfl)
theorem w_501 : Cond.selects "LoanHouseModel" yX30_isLate yX30_isLate ∈ TBL := tb_16 _ (List.mem_of_getElem? (i := 21) rfl)
theorem w_502 : Cond.methodLink "LoanHouseModel" 220 yJ0_length_8abf5 ∈ TBL := tb_16 _ (List.mem_of_getElem? (i := 22) rfl)
theorem w_503 : Cond.methodLink "LoanHouseModel" 224 yJ0_charAt_5068e ∈ TBL := tb_16 _ (List.mem_of_getElem? (i := 23) rfl)
theorem w_504 : Cond.code yX30_word cX30_word 4 (some (.object "java/lang/String")) ∈ TBL := tb_16 _ (List.mem_of_getElem? (i := 24) rfl)
theorem w_505 : Cond.instanceMethod yX30_word ∈ TBL := tb_16 _ (List.mem_of_getElem? (i := 25) rfl)
theorem w_506 : Cond.selects "LoanHouseModel" yX30_word yX30_word ∈ TBL := tb_16 _ (List.mem_of_getElem? (i := 26) rfl)
theorem w_507 : Cond.methodLink "LoanHouseModel" 228 yJ4_setLength_d00df ∈ TBL := tb_16 _ (List.mem_of_getElem? (i := 27) rfl)
theorem w_508 : Cond.methodLink "LoanHouseModel" 235 yJ4_toString_0e30d ∈ TBL := tb_16 _ (List.mem_of_getElem? (i := 28) rfl)
theorem w_509 : Cond.code yX30_readText cX30_readText 1 none ∈ TBL := tb_16 _ (List.mem_of_getElem? (i := 29) rfl)
theorem w_510 : Cond.instanceMethod yX30_readText ∈ TBL := tb_17 _ (List.mem_of_getElem? (i := 0) rfl)
theorem w_511 : Cond.selects "LoanHouseModel" yX30_readText yX30_readText ∈ TBL := tb_17 _ (List.mem_of_getElem? (i := 1) rfl)
theorem w_512 : Cond.methodLink "LoanHouseModel" 300 yX30_isOver ∈ TBL := tb_17 _ (List.mem_of_getElem? (i := 2) rfl)
theorem w_513 : Cond.code yX30_isOver cX30_isOver 1 (some .boolean) ∈ TBL := tb_17 _ (List.mem_of_getElem? (i := 3) rfl)
theorem w_514 : Cond.instanceMethod yX30_isOver ∈ TBL := tb_17 _ (List.mem_of_getElem? (i := 4) rfl)
theorem w_515 : Cond.selects "LoanHouseModel" yX30_isOver yX30_isOver ∈ TBL := tb_17 _ (List.mem_of_getElem? (i := 5) rfl)
theorem w_516 : Cond.code yX30_ruleItems cX30_ruleItems 5 none ∈ TBL := tb_17 _ (List.mem_of_getElem? (i := 6) rfl)
theorem w_517 : Cond.instanceMethod yX30_ruleItems ∈ TBL := tb_17 _ (List.mem_of_getElem? (i := 7) rfl)
theorem w_518 : Cond.selects "LoanHouseModel" yX30_ruleItems yX30_ruleItems ∈ TBL := tb_17 _ (List.mem_of_getElem? (i := 8) rfl)
theorem w_519 : Cond.fieldLink "LoanHouseModel" 399 "LoanHouseModel$Program" "items" "Ljava/util/ArrayList;" ∈ TBL := tb_17 _ (List.mem_of_getElem? (i := 9) rfl)
theorem w_520 : Cond.methodLink "LoanHouseModel" 404 yJx4a65c_size_8abf5 ∈ TBL := tb_17 _ (List.mem_of_getElem? (i := 10) rfl)
theorem w_521 : Cond.classLink "LoanHouseModel" 348 "LoanHouseModel$Item" ∈ TBL := tb_17 _ (List.mem_of_getElem? (i := 11) rfl)
theorem w_522 : Cond.instantiable "LoanHouseModel$Item" 13 ∈ TBL := tb_17 _ (List.mem_of_getElem? (i := 12) rfl)
theorem w_523 : Cond.initialized "LoanHouseModel$Item" ∈ TBL := tb_17 _ (List.mem_of_getElem? (i := 13) rfl)
theorem w_524 : Cond.fieldLink "LoanHouseModel" 351 "LoanHouseModel$Item" "first" "I" ∈ TBL := tb_17 _ (List.mem_of_getElem? (i := 14) rfl)
theorem w_525 : Cond.methodLink "LoanHouseModel" 746 yX30_wrong ∈ TBL := tb_17 _ (List.mem_of_getElem? (i := 15) rfl)
theorem w_526 : Cond.fieldLink "LoanHouseModel" 364 "LoanHouseModel$Item" "name" "Ljava/lang/String;" ∈ TBL := tb_17 _ (List.mem_of_getElem? (i := 16) rfl)
theorem w_527 : Cond.fieldLink "LoanHouseModel" 358 "LoanHouseModel$Item" "place" "I" ∈ TBL := tb_17 _ (List.mem_of_getElem? (i := 17) rfl)
theorem w_528 : Cond.fieldLink "LoanHouseModel" 383 "LoanHouseModel$Item" "fields" "Ljava/util/ArrayList;" ∈ TBL := tb_17 _ (List.mem_of_getElem? (i := 18) rfl)
theorem w_529 : Cond.classLink "LoanHouseModel" 441 "LoanHouseModel$Field" ∈ TBL := tb_17 _ (List.mem_of_getElem? (i := 19) rfl)
theorem w_530 : Cond.instantiable "LoanHouseModel$Field" 4 ∈ TBL := tb_17 _ (List.mem_of_getElem? (i := 20) rfl)
theorem w_531 : Cond.initialized "LoanHouseModel$Field" ∈ TBL := tb_17 _ (List.mem_of_getElem? (i := 21) rfl)
theorem w_532 : Cond.fieldLink "LoanHouseModel" 444 "LoanHouseModel$Field" "place" "I" ∈ TBL := tb_17 _ (List.mem_of_getElem? (i := 22) rfl)
theorem w_533 : Cond.fieldLink "LoanHouseModel" 445 "LoanHouseModel$Field" "name" "Ljava/lang/String;" ∈ TBL := tb_17 _ (List.mem_of_getElem? (i := 23) rfl)
theorem w_534 : Cond.fieldLink "LoanHouseModel" 448 "LoanHouseModel$Field" "told" "LLoanHouseModel$Told;" ∈ TBL := tb_17 _ (List.mem_of_getElem? (i := 24) rfl)
theorem w_535 : Cond.fieldLink "LoanHouseModel" 760 "LoanHouseModel$Field" "type" "LLoanHouseModel$Type;" ∈ TBL := tb_17 _ (List.mem_of_getElem? (i := 25) rfl)
theorem w_536 : Cond.fieldLink "LoanHouseModel" 418 "LoanHouseModel$Item" "variants" "Ljava/util/ArrayList;" ∈ TBL := tb_17 _ (List.mem_of_getElem? (i := 26) rfl)
theorem w_537 : Cond.fieldLink "LoanHouseModel" 369 "LoanHouseModel$Item" "isTold" "Z" ∈ TBL := tb_17 _ (List.mem_of_getElem? (i := 27) rfl)
theorem w_538 : Cond.fieldLink "LoanHouseModel" 769 "LoanHouseModel$Type" "kind" "I" ∈ TBL := tb_17 _ (List.mem_of_getElem? (i := 28) rfl)
theorem w_539 : Cond.fieldLink "LoanHouseModel" 773 "LoanHouseModel$Item" "isBad" "Z" ∈ TBL := tb_17 _ (List.mem_of_getElem? (i := 29) rfl)
theorem w_540 : Cond.fieldLink "LoanHouseModel" 776 "LoanHouseModel$Item" "size" "I" ∈ TBL := tb_18 _ (List.mem_of_getElem? (i := 0) rfl)
theorem w_541 : Cond.fieldLink "LoanHouseModel" 778 "LoanHouseModel$Item" "parts" "I" ∈ TBL := tb_18 _ (List.mem_of_getElem? (i := 1) rfl)
theorem w_542 : Cond.code yX30_ruleFns cX30_ruleFns 5 none ∈ TBL := tb_18 _ (List.mem_of_getElem? (i := 2) rfl)
theorem w_543 : Cond.instanceMethod yX30_ruleFns ∈ TBL := tb_18 _ (List.mem_of_getElem? (i := 3) rfl)
theorem w_544 : Cond.selects "LoanHouseModel" yX30_ruleFns yX30_ruleFns ∈ TBL := tb_18 _ (List.mem_of_getElem? (i := 4) rfl)
theorem w_545 : Cond.fieldLink "LoanHouseModel" 501 "LoanHouseModel$Program" "fns" "Ljava/util/ArrayList;" ∈ TBL := tb_18 _ (List.mem_of_getElem? (i := 5) rfl)
theorem w_546 : Cond.fieldLink "LoanHouseModel" 473 "LoanHouseModel$Fn" "first" "I" ∈ TBL := tb_18 _ (List.mem_of_getElem? (i := 6) rfl)
theorem w_547 : Cond.fieldLink "LoanHouseModel" 475 "LoanHouseModel$Fn" "name" "Ljava/lang/String;" ∈ TBL := tb_18 _ (List.mem_of_getElem? (i := 7) rfl)
theorem w_548 : Cond.methodLink "LoanHouseModel" 805 yX30_fnOf ∈ TBL := tb_18 _ (List.mem_of_getElem? (i := 8) rfl)
theorem w_549 : Cond.fieldLink "LoanHouseModel" 474 "LoanHouseModel$Fn" "place" "I" ∈ TBL := tb_18 _ (List.mem_of_getElem? (i := 9) rfl)
theorem w_550 : Cond.fieldLink "LoanHouseModel" 476 "LoanHouseModel$Fn" "params" "Ljava/util/ArrayList;" ∈ TBL := tb_18 _ (List.mem_of_getElem? (i := 10) rfl)
theorem w_551 : Cond.fieldLink "LoanHouseModel" 479 "LoanHouseModel$Fn" "told" "LLoanHouseModel$Told;" ∈ TBL := tb_18 _ (List.mem_of_getElem? (i := 11) rfl)
theorem w_552 : Cond.fieldLink "LoanHouseModel" 809 "LoanHouseModel$Fn" "result" "LLoanHouseModel$Type;" ∈ TBL := tb_18 _ (List.mem_of_getElem? (i := 12) rfl)
theorem w_553 : Cond.fieldLink "LoanHouseModel" 724 "LoanHouseModel$Program" "places" "Ljava/util/ArrayList;" ∈ TBL := tb_18 _ (List.mem_of_getElem? (i := 13) rfl)
theorem w_554 : Cond.classLink "LoanHouseModel" 717 "LoanHouseModel$Place" ∈ TBL := tb_18 _ (List.mem_of_getElem? (i := 14) rfl)
theorem w_555 : Cond.instantiable "LoanHouseModel$Place" 11 ∈ TBL := tb_18 _ (List.mem_of_getElem? (i := 15) rfl)
theorem w_556 : Cond.initialized "LoanHouseModel$Place" ∈ TBL := tb_18 _ (List.mem_of_getElem? (i := 16) rfl)
theorem w_557 : Cond.fieldLink "LoanHouseModel" 720 "LoanHouseModel$Place" "place" "I" ∈ TBL := tb_18 _ (List.mem_of_getElem? (i := 17) rfl)
theorem w_558 : Cond.code yX30_fnOf cX30_fnOf 3 (some (.object "LoanHouseModel$Fn")) ∈ TBL := tb_18 _ (List.mem_of_getElem? (i := 18) rfl)
theorem w_559 : Cond.instanceMethod yX30_fnOf ∈ TBL := tb_18 _ (List.mem_of_getElem? (i := 19) rfl)
theorem w_560 : Cond.selects "LoanHouseModel" yX30_fnOf yX30_fnOf ∈ TBL := tb_18 _ (List.mem_of_getElem? (i := 20) rfl)
theorem w_561 : Cond.code yX30_wrong cX30_wrong 2 none ∈ TBL := tb_18 _ (List.mem_of_getElem? (i := 21) rfl)
theorem w_562 : Cond.instanceMethod yX30_wrong ∈ TBL := tb_18 _ (List.mem_of_getElem? (i := 22) rfl)
theorem w_563 : Cond.selects "LoanHouseModel" yX30_wrong yX30_wrong ∈ TBL := tb_18 _ (List.mem_of_getElem? (i := 23) rfl)
theorem w_564 : Cond.methodLink "LoanHouseModel" 307 yX30_breaks ∈ TBL := tb_18 _ (List.mem_of_getElem? (i := 24) rfl)
theorem w_565 : Cond.code yX30_breaks cX30_breaks 4 none ∈ TBL := tb_18 _ (List.mem_of_getElem? (i := 25) rfl)
theorem w_566 : Cond.instanceMethod yX30_breaks ∈ TBL := tb_18 _ (List.mem_of_getElem? (i := 26) rfl)
theorem w_567 : Cond.selects "LoanHouseModel" yX30_breaks yX30_breaks ∈ TBL := tb_18 _ (List.mem_of_getElem? (i := 27) rfl)
theorem w_568 : Cond.code yX30_fault cX30_fault 2 (some .int) ∈ TBL := tb_18 _ (List.mem_of_getElem? (i := 28) rfl)
theorem w_569 : Cond.instanceMethod yX30_fault ∈ TBL := tb_18 _ (List.mem_of_getElem? (i := 29) rfl)
theorem w_570 : Cond.selects "LoanHouseModel" yX30_fault yX30_fault ∈ TBL := tb_19 _ (List.mem_of_getElem? (i := 0) rfl)
theorem w_571 : Cond.code yX30_give cX30_give 8 none ∈ TBL := tb_19 _ (List.mem_of_getElem? (i := 1) rfl)
theorem w_572 : Cond.instanceMethod yX30_give ∈ TBL := tb_19 _ (List.mem_of_getElem? (i := 2) rfl)
theorem w_573 : Cond.selects "LoanHouseModel" yX30_give yX30_give ∈ TBL := tb_19 _ (List.mem_of_getElem? (i := 3) rfl)
theorem w_574 : Cond.fieldLink "LoanHouseModel" 839 "LoanHouseModel$Var" "index" "I" ∈ TBL := tb_19 _ (List.mem_of_getElem? (i := 4) rfl)
theorem w_575 : Cond.fieldLink "LoanHouseModel" 1172 "LoanHouseModel" "columns" "I" ∈ TBL := tb_19 _ (List.mem_of_getElem? (i := 5) rfl)
theorem w_576 : Cond.constantLong "LoanHouseModel" 1117 (-1) ∈ TBL := tb_19 _ (List.mem_of_getElem? (i := 6) rfl)
theorem w_577 : Cond.code yX30_run cX30_run 4 (some .int) ∈ TBL := tb_19 _ (List.mem_of_getElem? (i := 7) rfl)
theorem w_578 : Cond.instanceMethod yX30_run ∈ TBL := tb_19 _ (List.mem_of_getElem? (i := 8) rfl)
theorem w_579 : Cond.selects "LoanHouseModel" yX30_run yX30_run ∈ TBL := tb_19 _ (List.mem_of_getElem? (i := 9) rfl)
theorem w_580 : Cond.constant "LoanHouseModel" 1545 (50000) ∈ TBL := tb_19 _ (List.mem_of_getElem? (i := 10) rfl)
theorem w_581 : Cond.fieldLink "LoanHouseModel" 1294 "LoanHouseModel" "pool" "I" ∈ TBL := tb_19 _ (List.mem_of_getElem? (i := 11) rfl)
theorem w_582 : Cond.fieldLink "LoanHouseModel" 1288 "LoanHouseModel" "spare" "I" ∈ TBL := tb_19 _ (List.mem_of_getElem? (i := 12) rfl)
theorem w_583 : Cond.fieldLink "LoanHouseModel" 1341 "LoanHouseModel" "time" "J" ∈ TBL := tb_19 _ (List.mem_of_getElem? (i := 13) rfl)
theorem w_584 : Cond.fieldLink "LoanHouseModel" 1401 "LoanHouseModel" "lends" "I" ∈ TBL := tb_19 _ (List.mem_of_getElem? (i := 14) rfl)
theorem w_585 : Cond.fieldLink "LoanHouseModel" 1359 "LoanHouseModel" "strays" "I" ∈ TBL := tb_19 _ (List.mem_of_getElem? (i := 15) rfl)
theorem w_586 : Cond.fieldLink "LoanHouseModel" 1387 "LoanHouseModel" "twices" "I" ∈ TBL := tb_19 _ (List.mem_of_getElem? (i := 16) rfl)
theorem w_587 : Cond.fieldLink "LoanHouseModel" 1417 "LoanHouseModel" "clashes" "I" ∈ TBL := tb_19 _ (List.mem_of_getElem? (i := 17) rfl)
theorem w_588 : Cond.fieldLink "LoanHouseModel" 1546 "LoanHouseModel" "lefts" "I" ∈ TBL := tb_19 _ (List.mem_of_getElem? (i := 18) rfl)
theorem w_589 : Cond.fieldLink "LoanHouseModel" 1375 "LoanHouseModel" "outs" "I" ∈ TBL := tb_19 _ (List.mem_of_getElem? (i := 19) rfl)
theorem w_590 : Cond.fieldLink "LoanHouseModel" 1477 "LoanHouseModel" "toldMade" "I" ∈ TBL := tb_19 _ (List.mem_of_getElem? (i := 20) rfl)
theorem w_591 : Cond.fieldLink "LoanHouseModel" 1393 "LoanHouseModel" "toldDropped" "I" ∈ TBL := tb_19 _ (List.mem_of_getElem? (i := 21) rfl)
theorem w_592 : Cond.fieldLink "LoanHouseModel" 1396 "LoanHouseModel" "boxes" "I" ∈ TBL := tb_19 _ (List.mem_of_getElem? (i := 22) rfl)
theorem w_593 : Cond.fieldLink "LoanHouseModel" 1399 "LoanHouseModel" "rows" "I" ∈ TBL := tb_19 _ (List.mem_of_getElem? (i := 23) rfl)
theorem w_594 : Cond.fieldLink "LoanHouseModel" 1480 "LoanHouseModel" "mostBoxes" "I" ∈ TBL := tb_19 _ (List.mem_of_getElem? (i := 24) rfl)
theorem w_595 : Cond.fieldLink "LoanHouseModel" 1486 "LoanHouseModel" "mostRows" "I" ∈ TBL := tb_19 _ (List.mem_of_getElem? (i := 25) rfl)
theorem w_596 : Cond.fieldLink "LoanHouseModel" 1496 "LoanHouseModel" "ended" "I" ∈ TBL := tb_19 _ (List.mem_of_getElem? (i := 26) rfl)
theorem w_597 : Cond.fieldLink "LoanHouseModel" 1425 "LoanHouseModel" "failWhy" "I" ∈ TBL := tb_19 _ (List.mem_of_getElem? (i := 27) rfl)
theorem w_598 : Cond.fieldLink "LoanHouseModel" 1428 "LoanHouseModel" "failPlace" "I" ∈ TBL := tb_19 _ (List.mem_of_getElem? (i := 28) rfl)
theorem w_599 : Cond.fieldLink "LoanHouseModel" 1493 "LoanHouseModel" "steps" "I" ∈ TBL := tb_19 _ (List.mem_of_getElem? (i := 29) rfl)
theorem w_600 : Cond.fieldLink "LoanHouseModel" 1499 "LoanHouseModel" "reads" "I" ∈ TBL := tb_20 _ (List.mem_of_getElem? (i := 0) rfl)
theorem w_601 : Cond.fieldLink "LoanHouseModel" 1422 "LoanHouseModel" "high" "I" ∈ TBL := tb_20 _ (List.mem_of_getElem? (i := 1) rfl)
theorem w_602 : Cond.fieldLink "LoanHouseModel" 1431 "LoanHouseModel" "calls" "I" ∈ TBL := tb_20 _ (List.mem_of_getElem? (i := 2) rfl)
theorem w_603 : Cond.fieldLink "LoanHouseModel" 504 "LoanHouseModel$Fn" "index" "I" ∈ TBL := tb_20 _ (List.mem_of_getElem? (i := 3) rfl)
theorem w_604 : Cond.code yX30_about cX30_about 2 (some .int) ∈ TBL := tb_20 _ (List.mem_of_getElem? (i := 4) rfl)
theorem w_605 : Cond.instanceMethod yX30_about ∈ TBL := tb_20 _ (List.mem_of_getElem? (i := 5) rfl)
theorem w_606 : Cond.selects "LoanHouseModel" yX30_about yX30_about ∈ TBL := tb_20 _ (List.mem_of_getElem? (i := 6) rfl)
theorem w_607 : Cond.code yX30_out cX30_out 4 none ∈ TBL := tb_20 _ (List.mem_of_getElem? (i := 7) rfl)
theorem w_608 : Cond.instanceMethod yX30_out ∈ TBL := tb_20 _ (List.mem_of_getElem? (i := 8) rfl)
theorem w_609 : Cond.selects "LoanHouseModel" yX30_out yX30_out ∈ TBL := tb_20 _ (List.mem_of_getElem? (i := 9) rfl)
theorem w_610 : Cond.code yX30_count cX30_count 2 (some .int) ∈ TBL := tb_20 _ (List.mem_of_getElem? (i := 10) rfl)
theorem w_611 : Cond.instanceMethod yX30_count ∈ TBL := tb_20 _ (List.mem_of_getElem? (i := 11) rfl)
theorem w_612 : Cond.selects "LoanHouseModel" yX30_count yX30_count ∈ TBL := tb_20 _ (List.mem_of_getElem? (i := 12) rfl)
theorem w_613 : Cond.fieldLink "LoanHouseModel" 1256 "LoanHouseModel$Program" "loans" "Ljava/util/ArrayList;" ∈ TBL := tb_20 _ (List.mem_of_getElem? (i := 13) rfl)
theorem w_614 : Cond.code yX30_place cX30_place 8 none ∈ TBL := tb_20 _ (List.mem_of_getElem? (i := 14) rfl)
theorem w_615 : Cond.instanceMethod yX30_place ∈ TBL := tb_20 _ (List.mem_of_getElem? (i := 15) rfl)
theorem w_616 : Cond.selects "LoanHouseModel" yX30_place yX30_place ∈ TBL := tb_20 _ (List.mem_of_getElem? (i := 16) rfl)
theorem w_617 : Cond.fieldLink "LoanHouseModel" 928 "LoanHouseModel$Place" "var" "LLoanHouseModel$Var;" ∈ TBL := tb_20 _ (List.mem_of_getElem? (i := 17) rfl)
theorem w_618 : Cond.classLink "LoanHouseModel" 827 "LoanHouseModel$Var" ∈ TBL := tb_20 _ (List.mem_of_getElem? (i := 18) rfl)
theorem w_619 : Cond.instantiable "LoanHouseModel$Var" 7 ∈ TBL := tb_20 _ (List.mem_of_getElem? (i := 19) rfl)
theorem w_620 : Cond.initialized "LoanHouseModel$Var" ∈ TBL := tb_20 _ (List.mem_of_getElem? (i := 20) rfl)
theorem w_621 : Cond.fieldLink "LoanHouseModel" 830 "LoanHouseModel$Var" "name" "Ljava/lang/String;" ∈ TBL := tb_20 _ (List.mem_of_getElem? (i := 21) rfl)
theorem w_622 : Cond.fieldLink "LoanHouseModel" 721 "LoanHouseModel$Place" "name" "Ljava/lang/String;" ∈ TBL := tb_20 _ (List.mem_of_getElem? (i := 22) rfl)
theorem w_623 : Cond.fieldLink "LoanHouseModel" 832 "LoanHouseModel$Var" "type" "LLoanHouseModel$Type;" ∈ TBL := tb_20 _ (List.mem_of_getElem? (i := 23) rfl)
theorem w_624 : Cond.fieldLink "LoanHouseModel" 741 "LoanHouseModel$Place" "parts" "Ljava/util/ArrayList;" ∈ TBL := tb_20 _ (List.mem_of_getElem? (i := 24) rfl)
theorem w_625 : Cond.classLink "LoanHouseModel" 731 "LoanHouseModel$Part" ∈ TBL := tb_20 _ (List.mem_of_getElem? (i := 25) rfl)
theorem w_626 : Cond.instantiable "LoanHouseModel$Part" 7 ∈ TBL := tb_20 _ (List.mem_of_getElem? (i := 26) rfl)
theorem w_627 : Cond.initialized "LoanHouseModel$Part" ∈ TBL := tb_20 _ (List.mem_of_getElem? (i := 27) rfl)
theorem w_628 : Cond.fieldLink "LoanHouseModel" 929 "LoanHouseModel$Part" "of" "LLoanHouseModel$Type;" ∈ TBL := tb_20 _ (List.mem_of_getElem? (i := 28) rfl)
theorem w_629 : Cond.fieldLink "LoanHouseModel" 736 "LoanHouseModel$Part" "kind" "I" ∈ TBL := tb_20 _ (List.mem_of_getElem? (i := 29) rfl)
theorem w_630 : Cond.fieldLink "LoanHouseModel" 739 "LoanHouseModel$Part" "index" "LLoanHouseModel$Exp;" ∈ TBL := tb_21 _ (List.mem_of_getElem? (i := 0) rfl)
theorem w_631 : Cond.fieldLink "LoanHouseModel" 665 "LoanHouseModel$Exp" "first" "I" ∈ TBL := tb_21 _ (List.mem_of_getElem? (i := 1) rfl)
theorem w_632 : Cond.fieldLink "LoanHouseModel" 801 "LoanHouseModel$Type" "item" "LLoanHouseModel$Item;" ∈ TBL := tb_21 _ (List.mem_of_getElem? (i := 2) rfl)
theorem w_633 : Cond.fieldLink "LoanHouseModel" 893 "LoanHouseModel$Exp" "type" "LLoanHouseModel$Type;" ∈ TBL := tb_21 _ (List.mem_of_getElem? (i := 3) rfl)
theorem w_634 : Cond.fieldLink "LoanHouseModel" 908 "LoanHouseModel$Place" "type" "LLoanHouseModel$Type;" ∈ TBL := tb_21 _ (List.mem_of_getElem? (i := 4) rfl)
theorem w_635 : Cond.fieldLink "LoanHouseModel" 937 "LoanHouseModel$Place" "act" "I" ∈ TBL := tb_21 _ (List.mem_of_getElem? (i := 5) rfl)
theorem w_636 : Cond.fieldLink "LoanHouseModel" 727 "LoanHouseModel$Place" "number" "I" ∈ TBL := tb_21 _ (List.mem_of_getElem? (i := 6) rfl)
theorem w_637 : Cond.code yX30_loan cX30_loan 4 (some .int) ∈ TBL := tb_21 _ (List.mem_of_getElem? (i := 7) rfl)
theorem w_638 : Cond.instanceMethod yX30_loan ∈ TBL := tb_21 _ (List.mem_of_getElem? (i := 8) rfl)
theorem w_639 : Cond.selects "LoanHouseModel" yX30_loan yX30_loan ∈ TBL := tb_21 _ (List.mem_of_getElem? (i := 9) rfl)
theorem w_640 : Cond.classLink "LoanHouseModel" 876 "LoanHouseModel$Loan" ∈ TBL := tb_21 _ (List.mem_of_getElem? (i := 10) rfl)
theorem w_641 : Cond.instantiable "LoanHouseModel$Loan" 6 ∈ TBL := tb_21 _ (List.mem_of_getElem? (i := 11) rfl)
theorem w_642 : Cond.initialized "LoanHouseModel$Loan" ∈ TBL := tb_21 _ (List.mem_of_getElem? (i := 12) rfl)
theorem w_643 : Cond.fieldLink "LoanHouseModel" 878 "LoanHouseModel$Loan" "sign" "I" ∈ TBL := tb_21 _ (List.mem_of_getElem? (i := 13) rfl)
theorem w_644 : Cond.fieldLink "LoanHouseModel" 980 "LoanHouseModel$Loan" "isSole" "Z" ∈ TBL := tb_21 _ (List.mem_of_getElem? (i := 14) rfl)
theorem w_645 : Cond.fieldLink "LoanHouseModel" 983 "LoanHouseModel$Loan" "place" "LLoanHouseModel$Place;" ∈ TBL := tb_21 _ (List.mem_of_getElem? (i := 15) rfl)
theorem w_646 : Cond.fieldLink "LoanHouseModel" 1223 "LoanHouseModel$Loan" "acts" "I" ∈ TBL := tb_21 _ (List.mem_of_getElem? (i := 16) rfl)
theorem w_647 : Cond.code yX30_force cX30_force 3 (some .int) ∈ TBL := tb_21 _ (List.mem_of_getElem? (i := 17) rfl)
theorem w_648 : Cond.instanceMethod yX30_force ∈ TBL := tb_21 _ (List.mem_of_getElem? (i := 18) rfl)
theorem w_649 : Cond.selects "LoanHouseModel" yX30_force yX30_force ∈ TBL := tb_21 _ (List.mem_of_getElem? (i := 19) rfl)
theorem w_650 : Cond.code yX30_function cX30_function 4 (some .int) ∈ TBL := tb_21 _ (List.mem_of_getElem? (i := 20) rfl)
theorem w_651 : Cond.instanceMethod yX30_function ∈ TBL := tb_21 _ (List.mem_of_getElem? (i := 21) rfl)
theorem w_652 : Cond.selects "LoanHouseModel" yX30_function yX30_function ∈ TBL := tb_21 _ (List.mem_of_getElem? (i := 22) rfl)
theorem w_653 : Cond.fieldLink "LoanHouseModel" 836 "LoanHouseModel$Fn" "vars" "Ljava/util/ArrayList;" ∈ TBL := tb_21 _ (List.mem_of_getElem? (i := 23) rfl)
theorem w_654 : Cond.fieldLink "LoanHouseModel" 840 "LoanHouseModel$Fn" "leaves" "I" ∈ TBL := tb_21 _ (List.mem_of_getElem? (i := 24) rfl)
theorem w_655 : Cond.fieldLink "LoanHouseModel" 1150 "LoanHouseModel$Fn" "torn" "I" ∈ TBL := tb_21 _ (List.mem_of_getElem? (i := 25) rfl)
theorem w_656 : Cond.fieldLink "LoanHouseModel" 873 "LoanHouseModel$Fn" "loans" "Ljava/util/ArrayList;" ∈ TBL := tb_21 _ (List.mem_of_getElem? (i := 26) rfl)
theorem w_657 : Cond.code yX30_size cX30_size 2 (some .int) ∈ TBL := tb_21 _ (List.mem_of_getElem? (i := 27) rfl)
theorem w_658 : Cond.instanceMethod yX30_size ∈ TBL := tb_21 _ (List.mem_of_getElem? (i := 28) rfl)
theorem w_659 : Cond.selects "LoanHouseModel" yX30_size yX30_size ∈ TBL := tb_21 _ (List.mem_of_getElem? (i := 29) rfl)
theorem w_660 : Cond.code yX30_strays cX30_strays 1 (some .int) ∈ TBL := tb_22 _ (List.mem_of_getElem? (i := 0) rfl)
theorem w_661 : Cond.instanceMethod yX30_strays ∈ TBL := tb_22 _ (List.mem_of_getElem? (i := 1) rfl)
theorem w_662 : Cond.selects "LoanHouseModel" yX30_strays yX30_strays ∈ TBL := tb_22 _ (List.mem_of_getElem? (i := 2) rfl)
theorem w_663 : Cond.code yX30_twices cX30_twices 1 (some .int) ∈ TBL := tb_22 _ (List.mem_of_getElem? (i := 3) rfl)
theorem w_664 : Cond.instanceMethod yX30_twices ∈ TBL := tb_22 _ (List.mem_of_getElem? (i := 4) rfl)
theorem w_665 : Cond.selects "LoanHouseModel" yX30_twices yX30_twices ∈ TBL := tb_22 _ (List.mem_of_getElem? (i := 5) rfl)
theorem w_666 : Cond.code yX30_lefts cX30_lefts 1 (some .int) ∈ TBL := tb_22 _ (List.mem_of_getElem? (i := 6) rfl)
theorem w_667 : Cond.instanceMethod yX30_lefts ∈ TBL := tb_22 _ (List.mem_of_getElem? (i := 7) rfl)
theorem w_668 : Cond.selects "LoanHouseModel" yX30_lefts yX30_lefts ∈ TBL := tb_22 _ (List.mem_of_getElem? (i := 8) rfl)
theorem w_669 : Cond.code yX30_clashes cX30_clashes 2 (some .boolean) ∈ TBL := tb_22 _ (List.mem_of_getElem? (i := 9) rfl)
theorem w_670 : Cond.static yX30_clashes ∈ TBL := tb_22 _ (List.mem_of_getElem? (i := 10) rfl)
theorem w_671 : Cond.code yX26_init cX26_init 4 none ∈ TBL := tb_22 _ (List.mem_of_getElem? (i := 11) rfl)
theorem w_672 : Cond.instanceMethod yX26_init ∈ TBL := tb_22 _ (List.mem_of_getElem? (i := 12) rfl)
theorem w_673 : Cond.methodLink "LoanHouseModel$Type" 3 objectInit ∈ TBL := tb_22 _ (List.mem_of_getElem? (i := 13) rfl)
theorem w_674 : Cond.fieldLink "LoanHouseModel$Type" 9 "LoanHouseModel$Type" "kind" "I" ∈ TBL := tb_22 _ (List.mem_of_getElem? (i := 14) rfl)
theorem w_675 : Cond.fieldLink "LoanHouseModel$Type" 15 "LoanHouseModel$Type" "item" "LLoanHouseModel$Item;" ∈ TBL := tb_22 _ (List.mem_of_getElem? (i := 15) rfl)
theorem w_676 : Cond.fieldLink "LoanHouseModel$Type" 19 "LoanHouseModel$Type" "of" "LLoanHouseModel$Type;" ∈ TBL := tb_22 _ (List.mem_of_getElem? (i := 16) rfl)
theorem w_677 : Cond.code yX23_init cX23_init 1 none ∈ TBL := tb_22 _ (List.mem_of_getElem? (i := 17) rfl)
theorem w_678 : Cond.instanceMethod yX23_init ∈ TBL := tb_22 _ (List.mem_of_getElem? (i := 18) rfl)
theorem w_679 : Cond.methodLink "LoanHouseModel$Program" 1 objectInit ∈ TBL := tb_22 _ (List.mem_of_getElem? (i := 19) rfl)
theorem w_680 : Cond.classLink "LoanHouseModel$Program" 7 "java/util/ArrayList" ∈ TBL := tb_22 _ (List.mem_of_getElem? (i := 20) rfl)
theorem w_681 : Cond.methodLink "LoanHouseModel$Program" 9 yJx4a65c_init_da8c8 ∈ TBL := tb_22 _ (List.mem_of_getElem? (i := 21) rfl)
theorem w_682 : Cond.fieldLink "LoanHouseModel$Program" 10 "LoanHouseModel$Program" "items" "Ljava/util/ArrayList;" ∈ TBL := tb_22 _ (List.mem_of_getElem? (i := 22) rfl)
theorem w_683 : Cond.fieldLink "LoanHouseModel$Program" 16 "LoanHouseModel$Program" "fns" "Ljava/util/ArrayList;" ∈ TBL := tb_22 _ (List.mem_of_getElem? (i := 23) rfl)
theorem w_684 : Cond.fieldLink "LoanHouseModel$Program" 19 "LoanHouseModel$Program" "places" "Ljava/util/ArrayList;" ∈ TBL := tb_22 _ (List.mem_of_getElem? (i := 24) rfl)
theorem w_685 : Cond.fieldLink "LoanHouseModel$Program" 22 "LoanHouseModel$Program" "loans" "Ljava/util/ArrayList;" ∈ TBL := tb_22 _ (List.mem_of_getElem? (i := 25) rfl)
theorem w_686 : Cond.code yJ5_init_d00df cJ5_init_d00df 2 none ∈ TBL := tb_22 _ (List.mem_of_getElem? (i := 26) rfl)
theorem w_687 : Cond.initialized "java/lang/AbstractStringBuilder" ∈ TBL := tb_22 _ (List.mem_of_getElem? (i := 27) rfl)
theorem w_688 : Cond.instanceMethod yJ5_init_d00df ∈ TBL := tb_22 _ (List.mem_of_getElem? (i := 28) rfl)
theorem w_689 : Cond.methodLink "java/lang/AbstractStringBuilder" 3 objectInit ∈ TBL := tb_22 _ (List.mem_of_getElem? (i := 29) rfl)
theorem w_690 : Cond.fieldLink "java/lang/AbstractStringBuilder" 18 "java/lang/String" "COMPACT_STRINGS" "Z" ∈ TBL := tb_23 _ (List.mem_of_getElem? (i := 0) rfl)
theorem w_691 : Cond.fieldLink "java/lang/AbstractStringBuilder" 15 "java/lang/AbstractStringBuilder" "value" "[B" ∈ TBL := tb_23 _ (List.mem_of_getElem? (i := 1) rfl)
theorem w_692 : Cond.fieldLink "java/lang/AbstractStringBuilder" 22 "java/lang/AbstractStringBuilder" "coder" "B" ∈ TBL := tb_23 _ (List.mem_of_getElem? (i := 2) rfl)
theorem w_693 : Cond.code yJ5_length_8abf5 cJ5_length_8abf5 1 (some .int) ∈ TBL := tb_23 _ (List.mem_of_getElem? (i := 3) rfl)
theorem w_694 : Cond.instanceMethod yJ5_length_8abf5 ∈ TBL := tb_23 _ (List.mem_of_getElem? (i := 4) rfl)
theorem w_695 : Cond.fieldLink "java/lang/AbstractStringBuilder" 79 "java/lang/AbstractStringBuilder" "count" "I" ∈ TBL := tb_23 _ (List.mem_of_getElem? (i := 5) rfl)
theorem w_696 : Cond.code yJ5_ensureCapacityInternal_d00df cJ5_ensureCapacityInternal_d00df 3 none ∈ TBL := tb_23 _ (List.mem_of_getElem? (i := 6) rfl)
theorem w_697 : Cond.instanceMethod yJ5_ensureCapacityInternal_d00df ∈ TBL := tb_23 _ (List.mem_of_getElem? (i := 7) rfl)
theorem w_698 : Cond.code yJ5_setLength_d00df cJ5_setLength_d00df 2 none ∈ TBL := tb_23 _ (List.mem_of_getElem? (i := 8) rfl)
theorem w_699 : Cond.instanceMethod yJ5_setLength_d00df ∈ TBL := tb_23 _ (List.mem_of_getElem? (i := 9) rfl)
theorem w_700 : Cond.methodLink "java/lang/AbstractStringBuilder" 100 yJ5_ensureCapacityInternal_d00df ∈ TBL := tb_23 _ (List.mem_of_getElem? (i := 10) rfl)
theorem w_701 : Cond.methodLink "java/lang/AbstractStringBuilder" 83 yJ5_isLatin1_aae02 ∈ TBL := tb_23 _ (List.mem_of_getElem? (i := 11) rfl)
theorem w_702 : Cond.fieldLink "java/lang/AbstractStringBuilder" 73 "java/lang/AbstractStringBuilder" "maybeLatin1" "Z" ∈ TBL := tb_23 _ (List.mem_of_getElem? (i := 12) rfl)
theorem w_703 : Cond.code yJ5_getValue_6d5f1 cJ5_getValue_6d5f1 1 (some (.array .byte)) ∈ TBL := tb_23 _ (List.mem_of_getElem? (i := 13) rfl)
theorem w_704 : Cond.instanceMethod yJ5_getValue_6d5f1 ∈ TBL := tb_23 _ (List.mem_of_getElem? (i := 14) rfl)
theorem w_705 : Cond.code yJ5_isLatin1_aae02 cJ5_isLatin1_aae02 1 (some .boolean) ∈ TBL := tb_23 _ (List.mem_of_getElem? (i := 15) rfl)
theorem w_706 : Cond.instanceMethod yJ5_isLatin1_aae02 ∈ TBL := tb_23 _ (List.mem_of_getElem? (i := 16) rfl)
theorem w_707 : Cond.code yJ4_init_d00df cJ4_init_d00df 2 none ∈ TBL := tb_23 _ (List.mem_of_getElem? (i := 17) rfl)
theorem w_708 : Cond.instanceMethod yJ4_init_d00df ∈ TBL := tb_23 _ (List.mem_of_getElem? (i := 18) rfl)
theorem w_709 : Cond.methodLink "java/lang/StringBuilder" 1 yJ5_init_d00df ∈ TBL := tb_23 _ (List.mem_of_getElem? (i := 19) rfl)
theorem w_710 : Cond.code yJ4_toString_0e30d cJ4_toString_0e30d 1 (some (.object "java/lang/String")) ∈ TBL := tb_23 _ (List.mem_of_getElem? (i := 20) rfl)
theorem w_711 : Cond.instanceMethod yJ4_toString_0e30d ∈ TBL := tb_23 _ (List.mem_of_getElem? (i := 21) rfl)
theorem w_712 : Cond.selects "java/lang/StringBuilder" yJ4_toString_0e30d yJ4_toString_0e30d ∈ TBL := tb_23 _ (List.mem_of_getElem? (i := 22) rfl)
theorem w_713 : Cond.classLink "java/lang/StringBuilder" 18 "java/lang/String" ∈ TBL := tb_23 _ (List.mem_of_getElem? (i := 23) rfl)
theorem w_714 : Cond.methodLink "java/lang/StringBuilder" 137 yJ0_init_81219 ∈ TBL := tb_23 _ (List.mem_of_getElem? (i := 24) rfl)
theorem w_715 : Cond.code yJ4_setLength_d00df cJ4_setLength_d00df 2 none ∈ TBL := tb_23 _ (List.mem_of_getElem? (i := 25) rfl)
theorem w_716 : Cond.instanceMethod yJ4_setLength_d00df ∈ TBL := tb_23 _ (List.mem_of_getElem? (i := 26) rfl)
theorem w_717 : Cond.selects "java/lang/StringBuilder" yJ4_setLength_d00df yJ4_setLength_d00df ∈ TBL := tb_23 _ (List.mem_of_getElem? (i := 27) rfl)
theorem w_718 : Cond.methodLink "java/lang/StringBuilder" 333 yJ5_setLength_d00df ∈ TBL := tb_23 _ (List.mem_of_getElem? (i := 28) rfl)
theorem w_719 : Cond.code yJ4_length_8abf5 cJ4_length_8abf5 1 (some .int) ∈ TBL := tb_23 _ (List.mem_of_getElem? (i := 29) rfl)
theorem w_720 : Cond.instanceMethod yJ4_length_8abf5 ∈ TBL := tb_24 _ (List.mem_of_getElem? (i := 0) rfl)
theorem w_721 : Cond.methodLink "java/lang/StringBuilder" 343 yJ5_length_8abf5 ∈ TBL := tb_24 _ (List.mem_of_getElem? (i := 1) rfl)
theorem w_722 : Cond.code yJ0_init_81219 cJ0_init_81219 2 none ∈ TBL := tb_24 _ (List.mem_of_getElem? (i := 2) rfl)
theorem w_723 : Cond.instanceMethod yJ0_init_81219 ∈ TBL := tb_24 _ (List.mem_of_getElem? (i := 3) rfl)
theorem w_724 : Cond.methodLink "java/lang/String" 489 yJ0_init_db425 ∈ TBL := tb_24 _ (List.mem_of_getElem? (i := 4) rfl)
theorem w_725 : Cond.code yJ0_init_db425 cJ0_init_db425 5 none ∈ TBL := tb_24 _ (List.mem_of_getElem? (i := 5) rfl)
theorem w_726 : Cond.instanceMethod yJ0_init_db425 ∈ TBL := tb_24 _ (List.mem_of_getElem? (i := 6) rfl)
theorem w_727 : Cond.methodLink "java/lang/String" 1 objectInit ∈ TBL := tb_24 _ (List.mem_of_getElem? (i := 7) rfl)
theorem w_728 : Cond.methodLink "java/lang/String" 552 yJ5_getValue_6d5f1 ∈ TBL := tb_24 _ (List.mem_of_getElem? (i := 8) rfl)
theorem w_729 : Cond.methodLink "java/lang/String" 549 yJ5_length_8abf5 ∈ TBL := tb_24 _ (List.mem_of_getElem? (i := 9) rfl)
theorem w_730 : Cond.methodLink "java/lang/String" 1047 yJ5_isLatin1_aae02 ∈ TBL := tb_24 _ (List.mem_of_getElem? (i := 10) rfl)
theorem w_731 : Cond.fieldLink "java/lang/String" 15 "java/lang/String" "coder" "B" ∈ TBL := tb_24 _ (List.mem_of_getElem? (i := 11) rfl)
theorem w_732 : Cond.methodLink "java/lang/String" 54 yJ7_copyOfRange_39247 ∈ TBL := tb_24 _ (List.mem_of_getElem? (i := 12) rfl)
theorem w_733 : Cond.fieldLink "java/lang/String" 9 "java/lang/String" "value" "[B" ∈ TBL := tb_24 _ (List.mem_of_getElem? (i := 13) rfl)
theorem w_734 : Cond.fieldLink "java/lang/String" 38 "java/lang/String" "COMPACT_STRINGS" "Z" ∈ TBL := tb_24 _ (List.mem_of_getElem? (i := 14) rfl)
theorem w_735 : Cond.fieldLink "java/lang/String" 1048 "java/lang/AbstractStringBuilder" "maybeLatin1" "Z" ∈ TBL := tb_24 _ (List.mem_of_getElem? (i := 15) rfl)
theorem w_736 : Cond.code yJ0_length_8abf5 cJ0_length_8abf5 1 (some .int) ∈ TBL := tb_24 _ (List.mem_of_getElem? (i := 16) rfl)
theorem w_737 : Cond.instanceMethod yJ0_length_8abf5 ∈ TBL := tb_24 _ (List.mem_of_getElem? (i := 17) rfl)
theorem w_738 : Cond.selects "java/lang/String" yJ0_length_8abf5 yJ0_length_8abf5 ∈ TBL := tb_24 _ (List.mem_of_getElem? (i := 18) rfl)
theorem w_739 : Cond.methodLink "java/lang/String" 335 yJ0_coder_7d493 ∈ TBL := tb_24 _ (List.mem_of_getElem? (i := 19) rfl)
theorem w_740 : Cond.code yJ0_charAt_5068e cJ0_charAt_5068e 2 (some .char) ∈ TBL := tb_24 _ (List.mem_of_getElem? (i := 20) rfl)
theorem w_741 : Cond.instanceMethod yJ0_charAt_5068e ∈ TBL := tb_24 _ (List.mem_of_getElem? (i := 21) rfl)
theorem w_742 : Cond.selects "java/lang/String" yJ0_charAt_5068e yJ0_charAt_5068e ∈ TBL := tb_24 _ (List.mem_of_getElem? (i := 22) rfl)
theorem w_743 : Cond.methodLink "java/lang/String" 492 yJ0_isLatin1_aae02 ∈ TBL := tb_24 _ (List.mem_of_getElem? (i := 23) rfl)
theorem w_744 : Cond.methodLink "java/lang/String" 495 yJ1_charAt_3b067 ∈ TBL := tb_24 _ (List.mem_of_getElem? (i := 24) rfl)
theorem w_745 : Cond.code yJ0_coder_7d493 cJ0_coder_7d493 1 (some .byte) ∈ TBL := tb_24 _ (List.mem_of_getElem? (i := 25) rfl)
theorem w_746 : Cond.instanceMethod yJ0_coder_7d493 ∈ TBL := tb_24 _ (List.mem_of_getElem? (i := 26) rfl)
theorem w_747 : Cond.selects "java/lang/String" yJ0_coder_7d493 yJ0_coder_7d493 ∈ TBL := tb_24 _ (List.mem_of_getElem? (i := 27) rfl)
theorem w_748 : Cond.code yJ0_isLatin1_aae02 cJ0_isLatin1_aae02 1 (some .boolean) ∈ TBL := tb_24 _ (List.mem_of_getElem? (i := 28) rfl)
theorem w_749 : Cond.instanceMethod yJ0_isLatin1_aae02 ∈ TBL := tb_24 _ (List.mem_of_getElem? (i := 29) rfl)
theorem w_750 : Cond.selects "java/lang/String" yJ0_isLatin1_aae02 yJ0_isLatin1_aae02 ∈ TBL := tb_25 _ (List.mem_of_getElem? (i := 0) rfl)
theorem w_751 : Cond.code yJ0_checkIndex_df160 cJ0_checkIndex_df160 2 none ∈ TBL := tb_25 _ (List.mem_of_getElem? (i := 1) rfl)
theorem w_752 : Cond.static yJ0_checkIndex_df160 ∈ TBL := tb_25 _ (List.mem_of_getElem? (i := 2) rfl)
theorem w_753 : Cond.fieldLink "java/lang/String" 1053 "jdk/internal/util/Preconditions" "SIOOBE_FORMATTER" "Ljava/util/function/BiFunction;" ∈ TBL := tb_25 _ (List.mem_of_getElem? (i := 3) rfl)
theorem w_754 : Cond.methodLink "java/lang/String" 1059 yJ3_checkIndex_8e157 ∈ TBL := tb_25 _ (List.mem_of_getElem? (i := 4) rfl)
theorem w_755 : Cond.code yJ1_charAt_3b067 cJ1_charAt_3b067 2 (some .char) ∈ TBL := tb_25 _ (List.mem_of_getElem? (i := 5) rfl)
theorem w_756 : Cond.initialized "java/lang/StringLatin1" ∈ TBL := tb_25 _ (List.mem_of_getElem? (i := 6) rfl)
theorem w_757 : Cond.static yJ1_charAt_3b067 ∈ TBL := tb_25 _ (List.mem_of_getElem? (i := 7) rfl)
theorem w_758 : Cond.methodLink "java/lang/StringLatin1" 9 yJ0_checkIndex_df160 ∈ TBL := tb_25 _ (List.mem_of_getElem? (i := 8) rfl)
theorem w_759 : Cond.code yJ3_checkIndex_8e157 cJ3_checkIndex_8e157 3 (some .int) ∈ TBL := tb_25 _ (List.mem_of_getElem? (i := 9) rfl)
theorem w_760 : Cond.initialized "jdk/internal/util/Preconditions" ∈ TBL := tb_25 _ (List.mem_of_getElem? (i := 10) rfl)
theorem w_761 : Cond.static yJ3_checkIndex_8e157 ∈ TBL := tb_25 _ (List.mem_of_getElem? (i := 11) rfl)
theorem w_762 : Cond.code yJ7_copyOfRange_39247 cJ7_copyOfRange_39247 3 (some (.array .byte)) ∈ TBL := tb_25 _ (List.mem_of_getElem? (i := 12) rfl)
theorem w_763 : Cond.initialized "java/util/Arrays" ∈ TBL := tb_25 _ (List.mem_of_getElem? (i := 13) rfl)
theorem w_764 : Cond.static yJ7_copyOfRange_39247 ∈ TBL := tb_25 _ (List.mem_of_getElem? (i := 14) rfl)
theorem w_765 : Cond.methodLink "java/util/Arrays" 339 yJ7_copyOfRangeByte_39247 ∈ TBL := tb_25 _ (List.mem_of_getElem? (i := 15) rfl)
theorem w_766 : Cond.classLink "java/util/Arrays" 311 "[B" ∈ TBL := tb_25 _ (List.mem_of_getElem? (i := 16) rfl)
theorem w_767 : Cond.code yJ7_copyOfRangeByte_39247 cJ7_copyOfRangeByte_39247 5 (some (.array .byte)) ∈ TBL := tb_25 _ (List.mem_of_getElem? (i := 17) rfl)
theorem w_768 : Cond.static yJ7_copyOfRangeByte_39247 ∈ TBL := tb_25 _ (List.mem_of_getElem? (i := 18) rfl)
theorem w_769 : Cond.methodLink "java/util/Arrays" 304 Lib.Math.min.name ∈ TBL := tb_25 _ (List.mem_of_getElem? (i := 19) rfl)
theorem w_770 : Cond.methodLink "java/util/Arrays" 150 arraycopyName ∈ TBL := tb_25 _ (List.mem_of_getElem? (i := 20) rfl)
theorem w_771 : Cond.code yJxa1e45_init_da8c8 cJxa1e45_init_da8c8 1 none ∈ TBL := tb_25 _ (List.mem_of_getElem? (i := 21) rfl)
theorem w_772 : Cond.initialized "java/util/AbstractCollection" ∈ TBL := tb_25 _ (List.mem_of_getElem? (i := 22) rfl)
theorem w_773 : Cond.instanceMethod yJxa1e45_init_da8c8 ∈ TBL := tb_25 _ (List.mem_of_getElem? (i := 23) rfl)
theorem w_774 : Cond.methodLink "java/util/AbstractCollection" 1 objectInit ∈ TBL := tb_25 _ (List.mem_of_getElem? (i := 24) rfl)
theorem w_775 : Cond.code yJxc12de_init_da8c8 cJxc12de_init_da8c8 1 none ∈ TBL := tb_25 _ (List.mem_of_getElem? (i := 25) rfl)
theorem w_776 : Cond.initialized "java/util/AbstractList" ∈ TBL := tb_25 _ (List.mem_of_getElem? (i := 26) rfl)
theorem w_777 : Cond.instanceMethod yJxc12de_init_da8c8 ∈ TBL := tb_25 _ (List.mem_of_getElem? (i := 27) rfl)
theorem w_778 : Cond.methodLink "java/util/AbstractList" 1 yJxa1e45_init_da8c8 ∈ TBL := tb_25 _ (List.mem_of_getElem? (i := 28) rfl)
theorem w_779 : Cond.fieldLink "java/util/AbstractList" 7 "java/util/AbstractList" "modCount" "I" ∈ TBL := tb_25 _ (List.mem_of_getElem? (i := 29) rfl)
theorem w_780 : Cond.code yJx4a65c_init_da8c8 cJx4a65c_init_da8c8 1 none ∈ TBL := tb_26 _ (List.mem_of_getElem? (i := 0) rfl)
theorem w_781 : Cond.instanceMethod yJx4a65c_init_da8c8 ∈ TBL := tb_26 _ (List.mem_of_getElem? (i := 1) rfl)
theorem w_782 : Cond.methodLink "java/util/ArrayList" 1 yJxc12de_init_da8c8 ∈ TBL := tb_26 _ (List.mem_of_getElem? (i := 2) rfl)
theorem w_783 : Cond.fieldLink "java/util/ArrayList" 39 "java/util/ArrayList" "DEFAULTCAPACITY_EMPTY_ELEMENTDATA" "[Ljava/lang/Object;" ∈ TBL := tb_26 _ (List.mem_of_getElem? (i := 3) rfl)
theorem w_784 : Cond.fieldLink "java/util/ArrayList" 9 "java/util/ArrayList" "elementData" "[Ljava/lang/Object;" ∈ TBL := tb_26 _ (List.mem_of_getElem? (i := 4) rfl)
theorem w_785 : Cond.code yJx4a65c_size_8abf5 cJx4a65c_size_8abf5 1 (some .int) ∈ TBL := tb_26 _ (List.mem_of_getElem? (i := 5) rfl)
theorem w_786 : Cond.instanceMethod yJx4a65c_size_8abf5 ∈ TBL := tb_26 _ (List.mem_of_getElem? (i := 6) rfl)
theorem w_787 : Cond.selects "java/util/ArrayList" yJx4a65c_size_8abf5 yJx4a65c_size_8abf5 ∈ TBL := tb_26 _ (List.mem_of_getElem? (i := 7) rfl)
theorem w_788 : Cond.fieldLink "java/util/ArrayList" 48 "java/util/ArrayList" "size" "I" ∈ TBL := tb_26 _ (List.mem_of_getElem? (i := 8) rfl)
theorem w_789 : Cond.classLink "LoanHouseLaw" 7 "LoanHouse" ∈ TBL := tb_26 _ (List.mem_of_getElem? (i := 9) rfl)
theorem w_790 : Cond.instantiable "LoanHouse" 17 ∈ TBL := tb_26 _ (List.mem_of_getElem? (i := 10) rfl)
theorem w_791 : Cond.methodLink "LoanHouseLaw" 9 yX12_init ∈ TBL := tb_26 _ (List.mem_of_getElem? (i := 11) rfl)
theorem w_792 : Cond.classLink "LoanHouseLaw" 10 "LoanHouseModel" ∈ TBL := tb_26 _ (List.mem_of_getElem? (i := 12) rfl)
theorem w_793 : Cond.instantiable "LoanHouseModel" 95 ∈ TBL := tb_26 _ (List.mem_of_getElem? (i := 13) rfl)
theorem w_794 : Cond.methodLink "LoanHouseLaw" 12 yX30_init ∈ TBL := tb_26 _ (List.mem_of_getElem? (i := 14) rfl)
theorem w_795 : Cond.methodLink "LoanHouseLaw" 13 yX12_feed ∈ TBL := tb_26 _ (List.mem_of_getElem? (i := 15) rfl)
theorem w_796 : Cond.methodLink "LoanHouseLaw" 17 yX30_feed ∈ TBL := tb_26 _ (List.mem_of_getElem? (i := 16) rfl)
theorem w_797 : Cond.methodLink "LoanHouseLaw" 18 yX12_judge ∈ TBL := tb_26 _ (List.mem_of_getElem? (i := 17) rfl)
theorem w_798 : Cond.methodLink "LoanHouseLaw" 22 yX30_judge ∈ TBL := tb_26 _ (List.mem_of_getElem? (i := 18) rfl)
theorem w_799 : Cond.methodLink "LoanHouseLaw" 23 yX12_fault ∈ TBL := tb_26 _ (List.mem_of_getElem? (i := 19) rfl)
theorem w_800 : Cond.methodLink "LoanHouseLaw" 26 yX30_fault ∈ TBL := tb_26 _ (List.mem_of_getElem? (i := 20) rfl)
theorem w_801 : Cond.constantLong "LoanHouseLaw" 27 (4294967295) ∈ TBL := tb_26 _ (List.mem_of_getElem? (i := 21) rfl)
theorem w_802 : Cond.methodLink "LoanHouseLaw" 29 yX12_give ∈ TBL := tb_26 _ (List.mem_of_getElem? (i := 22) rfl)
theorem w_803 : Cond.methodLink "LoanHouseLaw" 34 yX12_run ∈ TBL := tb_26 _ (List.mem_of_getElem? (i := 23) rfl)
theorem w_804 : Cond.methodLink "LoanHouseLaw" 37 yX30_run ∈ TBL := tb_26 _ (List.mem_of_getElem? (i := 24) rfl)
theorem w_805 : Cond.methodLink "LoanHouseLaw" 38 yX12_about ∈ TBL := tb_26 _ (List.mem_of_getElem? (i := 25) rfl)
theorem w_806 : Cond.methodLink "LoanHouseLaw" 41 yX30_about ∈ TBL := tb_26 _ (List.mem_of_getElem? (i := 26) rfl)
theorem w_807 : Cond.methodLink "LoanHouseLaw" 42 yX12_out ∈ TBL := tb_26 _ (List.mem_of_getElem? (i := 27) rfl)
theorem w_808 : Cond.methodLink "LoanHouseLaw" 47 yX12_count ∈ TBL := tb_26 _ (List.mem_of_getElem? (i := 28) rfl)
theorem w_809 : Cond.methodLink "LoanHouseLaw" 50 yX30_count ∈ TBL := tb_26 _ (List.mem_of_getElem? (i := 29) rfl)
theorem w_810 : Cond.methodLink "LoanHouseLaw" 51 yX12_place ∈ TBL := tb_27 _ (List.mem_of_getElem? (i := 0) rfl)
theorem w_811 : Cond.methodLink "LoanHouseLaw" 56 yX12_loan ∈ TBL := tb_27 _ (List.mem_of_getElem? (i := 1) rfl)
theorem w_812 : Cond.methodLink "LoanHouseLaw" 59 yX30_loan ∈ TBL := tb_27 _ (List.mem_of_getElem? (i := 2) rfl)
theorem w_813 : Cond.methodLink "LoanHouseLaw" 60 yX12_force ∈ TBL := tb_27 _ (List.mem_of_getElem? (i := 3) rfl)
theorem w_814 : Cond.methodLink "LoanHouseLaw" 63 yX30_force ∈ TBL := tb_27 _ (List.mem_of_getElem? (i := 4) rfl)
theorem w_815 : Cond.methodLink "LoanHouseLaw" 64 yX12_function ∈ TBL := tb_27 _ (List.mem_of_getElem? (i := 5) rfl)
theorem w_816 : Cond.methodLink "LoanHouseLaw" 67 yX30_function ∈ TBL := tb_27 _ (List.mem_of_getElem? (i := 6) rfl)
theorem w_817 : Cond.methodLink "LoanHouseLaw" 68 yX12_size ∈ TBL := tb_27 _ (List.mem_of_getElem? (i := 7) rfl)
theorem w_818 : Cond.methodLink "LoanHouseLaw" 71 yX30_size ∈ TBL := tb_27 _ (List.mem_of_getElem? (i := 8) rfl)
theorem w_819 : Cond.methodLink "LoanHouseLaw" 72 yX12_strays ∈ TBL := tb_27 _ (List.mem_of_getElem? (i := 9) rfl)
theorem w_820 : Cond.methodLink "LoanHouseLaw" 76 yX30_strays ∈ TBL := tb_27 _ (List.mem_of_getElem? (i := 10) rfl)
theorem w_821 : Cond.methodLink "LoanHouseLaw" 77 yX12_twices ∈ TBL := tb_27 _ (List.mem_of_getElem? (i := 11) rfl)
theorem w_822 : Cond.methodLink "LoanHouseLaw" 80 yX30_twices ∈ TBL := tb_27 _ (List.mem_of_getElem? (i := 12) rfl)
theorem w_823 : Cond.methodLink "LoanHouseLaw" 81 yX12_lefts ∈ TBL := tb_27 _ (List.mem_of_getElem? (i := 13) rfl)
theorem w_824 : Cond.methodLink "LoanHouseLaw" 84 yX30_lefts ∈ TBL := tb_27 _ (List.mem_of_getElem? (i := 14) rfl)
theorem w_825 : Cond.methodLink "LoanHouseLaw" 85 yX12_clashes ∈ TBL := tb_27 _ (List.mem_of_getElem? (i := 15) rfl)
theorem w_826 : Cond.sameField "java/util/ArrayList" "java/util/AbstractList" "modCount" "I" ∈ TBL := tb_27 _ (List.mem_of_getElem? (i := 16) rfl)
theorem w_827 : Cond.superclass "java/lang/StringBuilder" "java/lang/AbstractStringBuilder" ∈ TBL := tb_27 _ (List.mem_of_getElem? (i := 17) rfl)
theorem w_828 : Cond.sameMethod "java/lang/AbstractStringBuilder" "java/lang/AbstractStringBuilder" "isLatin1" "()Z" ∈ TBL := tb_27 _ (List.mem_of_getElem? (i := 18) rfl)
theorem w_829 : Cond.selects "java/lang/StringBuilder" yJ5_isLatin1_aae02 yJ5_isLatin1_aae02 ∈ TBL := tb_27 _ (List.mem_of_getElem? (i := 19) rfl)
theorem w_830 : Cond.sameMethod "java/lang/AbstractStringBuilder" "java/lang/AbstractStringBuilder" "getValue" "()[B" ∈ TBL := tb_27 _ (List.mem_of_getElem? (i := 20) rfl)
theorem w_831 : Cond.selects "java/lang/StringBuilder" yJ5_getValue_6d5f1 yJ5_getValue_6d5f1 ∈ TBL := tb_27 _ (List.mem_of_getElem? (i := 21) rfl)
theorem w_832 : Cond.sameMethod "java/lang/AbstractStringBuilder" "java/lang/AbstractStringBuilder" "length" "()I" ∈ TBL := tb_27 _ (List.mem_of_getElem? (i := 22) rfl)
theorem w_833 : Cond.selects "java/lang/StringBuilder" yJ5_length_8abf5 yJ4_length_8abf5 ∈ TBL := tb_27 _ (List.mem_of_getElem? (i := 23) rfl)
theorem w_834 : Cond.sameMethod "java/lang/AbstractStringBuilder" "java/lang/AbstractStringBuilder" "setLength" "(I)V" ∈ TBL := tb_27 _ (List.mem_of_getElem? (i := 24) rfl)
theorem w_835 : Cond.sameMethod "java/lang/AbstractStringBuilder" "java/lang/AbstractStringBuilder" "ensureCapacityInternal" "(I)V" ∈ TBL := tb_27 _ (List.mem_of_getElem? (i := 25) rfl)
theorem tbx_ok : TBX.all goodWord = true := by decide +kernel
theorem gw_0 : TB0.all goodWord = true := by decide +kernel
theorem gw_1 : TB1.all goodWord = true := by decide +kernel
theorem gw_2 : TB2.all goodWord = true := by decide +kernel
theorem gw_3 : TB3.all goodWord = true := by decide +kernel
theorem gw_4 : TB4.all goodWord = true := by decide +kernel
theorem gw_5 : TB5.all goodWord = true := by decide +kernel
theorem gw_6 : TB6.all goodWord = true := by decide +kernel
theorem gw_7 : TB7.all goodWord = true := by decide +kernel
theorem gw_8 : TB8.all goodWord = true := by decide +kernel
theorem gw_9 : TB9.all goodWord = true := by decide +kernel
theorem gw_10 : TB10.all goodWord = true := by decide +kernel
theorem gw_11 : TB11.all goodWord = true := by decide +kernel
theorem gw_12 : TB12.all goodWord = true := by decide +kernel
theorem gw_13 : TB13.all goodWord = true := by decide +kernel
theorem gw_14 : TB14.all goodWord = true := by decide +kernel
theorem gw_15 : TB15.all goodWord = true := by decide +kernel
theorem gw_16 : TB16.all goodWord = true := by decide +kernel
theorem gw_17 : TB17.all goodWord = true := by decide +kernel
theorem gw_18 : TB18.all goodWord = true := by decide +kernel
theorem gw_19 : TB19.all goodWord = true := by decide +kernel
theorem gw_20 : TB20.all goodWord = true := by decide +kernel
theorem gw_21 : TB21.all goodWord = true := by decide +kernel
theorem gw_22 : TB22.all goodWord = true := by decide +kernel
theorem gw_23 : TB23.all goodWord = true := by decide +kernel
theorem gw_24 : TB24.all goodWord = true := by decide +kernel
theorem gw_25 : TB25.all goodWord = true := by decide +kernel
theorem gw_26 : TB26.all goodWord = true := by decide +kernel
theorem gw_27 : TB27.all goodWord = true := by decide +kernel
theorem gw_X12 : (u_ws "LoanHouse" TX12 17).all goodWord = true := by decide +kernel
theorem gw_X8 : (u_ws "LoanHouse$Tree" TX8 12).all goodWord = true := by decide +kernel
theorem gw_X6 : (u_ws "LoanHouse$Reader" TX6 18).all goodWord = true := by decide +kernel
theorem gw_X0 : (u_ws "LoanHouse$Checker" TX0 11).all goodWord = true := by decide +kernel
theorem gw_X1 : (u_ws "LoanHouse$Emitter" TX1 10).all goodWord = true := by decide +kernel
theorem gw_X11 : (u_ws "LoanHouse$Ways" TX11 22).all goodWord = true := by decide +kernel
theorem gw_X3 : (u_ws "LoanHouse$Machine" TX3 21).all goodWord = true := by decide +kernel
theorem gw_X7 : (u_ws "LoanHouse$Store" TX7 19).all goodWord = true := by decide +kernel
theorem gw_X5 : (u_ws "LoanHouse$Program" TX5 15).all goodWord = true := by decide +kernel
theorem gw_X9 : (u_ws "LoanHouse$Types" TX9 19).all goodWord = true := by decide +kernel
theorem gw_X2 : (u_ws "LoanHouse$Functions" TX2 19).all goodWord = true := by decide +kernel
theorem gw_X10 : (u_ws "LoanHouse$Variables" TX10 12).all goodWord = true := by decide +kernel
theorem gw_X4 : (u_ws "LoanHouse$Places" TX4 20).all goodWord = true := by decide +kernel
theorem gw_X30 : (u_ws "LoanHouseModel" TX30 95).all goodWord = true := by decide +kernel
theorem gw_X26 : (u_ws "LoanHouseModel$Type" TX26 3).all goodWord = true := by decide +kernel
theorem gw_X23 : (u_ws "LoanHouseModel$Program" TX23 4).all goodWord = true := by decide +kernel
theorem gw_J4 : (u_ws "java/lang/StringBuilder" TJ4 4).all goodWord = true := by decide +kernel
theorem gw_J0 : (u_ws "java/lang/String" TJ0 4).all goodWord = true := by decide +kernel
theorem gw_Jx4a65c : (u_ws "java/util/ArrayList" TJx4a65c 3).all goodWord = true := by decide +kernel
theorem tbl_ok : ∀ w ∈ TBL, ((w.onTables && w.keeps) = true ∨ ∃ ty, w = .arrayClass ty) := fun w h => good_of_word ((show w ∈ TBL → goodWord w = true from fun h => (List.mem_append.mp h).elim (fun h => List.all_eq_true.mp tbx_ok w h) (fun h => (List.mem_append.mp h).elim (fun h => List.all_eq_true.mp gw_0 w h) (fun h => (List.mem_append.mp h).elim (fun h => List.all_eq_true.mp gw_1 w h) (fun h => (List.mem_append.mp h).elim (fun h => List.all_eq_true.mp gw_2 w h) (fun h => (List.mem_append.mp h).elim (fun h => List.all_eq_true.mp gw_3 w h) (fun h => (List.mem_append.mp h).elim (fun h => List.all_eq_true.mp gw_4 w h) (fun h => (List.mem_append.mp h).elim (fun h => List.all_eq_true.mp gw_5 w h) (fun h => (List.mem_append.mp h).elim (fun h => List.all_eq_true.mp gw_6 w h) (fun h => (List.mem_append.mp h).elim (fun h => List.all_eq_true.mp gw_7 w h) (fun h => (List.mem_append.mp h).elim (fun h => List.all_eq_true.mp gw_8 w h) (fun h => (List.mem_append.mp h).elim (fun h => List.all_eq_true.mp gw_9 w h) (fun h => (List.mem_append.mp h).elim (fun h => List.all_eq_true.mp gw_10 w h) (fun h => (List.mem_append.mp h).elim (fun h => List.all_eq_true.mp gw_11 w h) (fun h => (List.mem_append.mp h).elim (fun h => List.all_eq_true.mp gw_12 w h) (fun h => (List.mem_append.mp h).elim (fun h => List.all_eq_true.mp gw_13 w h) (fun h => (List.mem_append.mp h).elim (fun h => List.all_eq_true.mp gw_14 w h) (fun h => (List.mem_append.mp h).elim (fun h => List.all_eq_true.mp gw_15 w h) (fun h => (List.mem_append.mp h).elim (fun h => List.all_eq_true.mp gw_16 w h) (fun h => (List.mem_append.mp h).elim (fun h => List.all_eq_true.mp gw_17 w h) (fun h => (List.mem_append.mp h).elim (fun h => List.all_eq_true.mp gw_18 w h) (fun h => (List.mem_append.mp h).elim (fun h => List.all_eq_true.mp gw_19 w h) (fun h => (List.mem_append.mp h).elim (fun h => List.all_eq_true.mp gw_20 w h) (fun h => (List.mem_append.mp h).elim (fun h => List.all_eq_true.mp gw_21 w h) (fun h => (List.mem_append.mp h).elim (fun h => List.all_eq_true.mp gw_22 w h) (fun h => (List.mem_append.mp h).elim (fun h => List.all_eq_true.mp gw_23 w h) (fun h => (List.mem_append.mp h).elim (fun h => List.all_eq_true.mp gw_24 w h) (fun h => (List.mem_append.mp h).elim (fun h => List.all_eq_true.mp gw_25 w h) (fun h => (List.mem_append.mp h).elim (fun h => List.all_eq_true.mp gw_26 w h) (fun h => (List.mem_append.mp h).elim (fun h => List.all_eq_true.mp gw_27 w h) (fun h => (List.mem_append.mp h).elim (fun h => List.all_eq_true.mp gw_X12 w h) (fun h => (List.mem_append.mp h).elim (fun h => List.all_eq_true.mp gw_X8 w h) (fun h => (List.mem_append.mp h).elim (fun h => List.all_eq_true.mp gw_X6 w h) (fun h => (List.mem_append.mp h).elim (fun h => List.all_eq_true.mp gw_X0 w h) (fun h => (List.mem_append.mp h).elim (fun h => List.all_eq_true.mp gw_X1 w h) (fun h => (List.mem_append.mp h).elim (fun h => List.all_eq_true.mp gw_X11 w h) (fun h => (List.mem_append.mp h).elim (fun h => List.all_eq_true.mp gw_X3 w h) (fun h => (List.mem_append.mp h).elim (fun h => List.all_eq_true.mp gw_X7 w h) (fun h => (List.mem_append.mp h).elim (fun h => List.all_eq_true.mp gw_X5 w h) (fun h => (List.mem_append.mp h).elim (fun h => List.all_eq_true.mp gw_X9 w h) (fun h => (List.mem_append.mp h).elim (fun h => List.all_eq_true.mp gw_X2 w h) (fun h => (List.mem_append.mp h).elim (fun h => List.all_eq_true.mp gw_X10 w h) (fun h => (List.mem_append.mp h).elim (fun h => List.all_eq_true.mp gw_X4 w h) (fun h => (List.mem_append.mp h).elim (fun h => List.all_eq_true.mp gw_X30 w h) (fun h => (List.mem_append.mp h).elim (fun h => List.all_eq_true.mp gw_X26 w h) (fun h => (List.mem_append.mp h).elim (fun h => List.all_eq_true.mp gw_X23 w h) (fun h => (List.mem_append.mp h).elim (fun h => List.all_eq_true.mp gw_J4 w h) (fun h => (List.mem_append.mp h).elim (fun h => List.all_eq_true.mp gw_J0 w h) (fun h => List.all_eq_true.mp gw_Jx4a65c w h)))))))))))))))))))))))))))))))))))))))))))))))) h)
def NST : List Cond := [.methodLinkNest "LoanHouse" 19 yX8_init "LoanHouse", .methodLinkNest "LoanHouse" 26 yX6_init "LoanHouse", .methodLinkNest "LoanHouse" 35 yX0_init "LoanHouse", .methodLinkNest "LoanHouse" 42 yX1_init "LoanHouse", .methodLinkNest "LoanHouse" 49 yX11_init "LoanHouse", .methodLinkNest "LoanHouse" 56 yX3_init "LoanHouse", .methodLinkNest "LoanHouse" 63 yX5_init "LoanHouse", .methodLinkNest "LoanHouse" 85 yX6_read "LoanHouse", .methodLinkNest "LoanHouse" 106 yX5_clear "LoanHouse", .methodLinkNest "LoanHouse" 109 yX0_check "LoanHouse", .methodLinkNest "LoanHouse" 113 ⟨"LoanHouse$Emitter", "emitAll", "(LLoanHouse$Program;)V"⟩ "LoanHouse", .methodLinkNest "LoanHouse" 117 ⟨"LoanHouse$Ways", "follow", "(LLoanHouse$Program;)V"⟩ "LoanHouse", .methodLinkNest "LoanHouse" 120 ⟨"LoanHouse$Ways", "strayPlace", "()I"⟩ "LoanHouse", .methodLinkNest "LoanHouse" 124 ⟨"LoanHouse$Ways", "strayOther", "()I"⟩ "LoanHouse", .methodLinkNest "LoanHouse" 127 ⟨"LoanHouse$Ways", "clashPlace", "()I"⟩ "LoanHouse", .methodLinkNest "LoanHouse" 130 ⟨"LoanHouse$Ways", "clashOther", "()I"⟩ "LoanHouse", .methodLinkNest "LoanHouse" 137 ⟨"LoanHouse$Machine", "start", "(LLoanHouse$Program;[JII)I"⟩ "LoanHouse", .methodLinkNest "LoanHouse" 141 ⟨"LoanHouse$Machine", "tell", "(I)I"⟩ "LoanHouse", .fieldLinkNest "LoanHouse" 144 "LoanHouse$Machine" "store" "LLoanHouse$Store;" "LoanHouse", .methodLinkNest "LoanHouse" 148 ⟨"LoanHouse$Store", "entry", "(II)J"⟩ "LoanHouse", .fieldLinkNest "LoanHouse" 154 "LoanHouse$Program" "types" "LLoanHouse$Types;" "LoanHouse", .fieldLinkNest "LoanHouse" 158 "LoanHouse$Types" "decls" "I" "LoanHouse", .fieldLinkNest "LoanHouse" 163 "LoanHouse$Program" "functions" "LLoanHouse$Functions;" "LoanHouse", .fieldLinkNest "LoanHouse" 167 "LoanHouse$Functions" "total" "I" "LoanHouse", .fieldLinkNest "LoanHouse" 172 "LoanHouse$Program" "places" "LLoanHouse$Places;" "LoanHouse", .fieldLinkNest "LoanHouse" 176 "LoanHouse$Places" "total" "I" "LoanHouse", .fieldLinkNest "LoanHouse" 179 "LoanHouse$Places" "loans" "I" "LoanHouse", .methodLinkNest "LoanHouse" 182 ⟨"LoanHouse$Places", "tell", "(II)I"⟩ "LoanHouse", .methodLinkNest "LoanHouse" 185 ⟨"LoanHouse$Program", "tellLoan", "(II)I"⟩ "LoanHouse", .methodLinkNest "LoanHouse" 188 ⟨"LoanHouse$Program", "inForce", "(II)I"⟩ "LoanHouse", .methodLinkNest "LoanHouse" 191 ⟨"LoanHouse$Functions", "tell", "(II)I"⟩ "LoanHouse", .fieldLinkNest "LoanHouse" 192 "LoanHouse$Types" "declCells" "[I" "LoanHouse", .fieldLinkNest "LoanHouse" 196 "LoanHouse$Store" "strays" "I" "LoanHouse", .fieldLinkNest "LoanHouse" 199 "LoanHouse$Store" "twices" "I" "LoanHouse", .methodLinkNest "LoanHouse" 202 ⟨"LoanHouse$Machine", "left", "()I"⟩ "LoanHouse", .methodLinkNest "LoanHouse$Reader" 79 yX8_clear "LoanHouse", .methodLinkNest "LoanHouse$Reader" 90 yX8_add "LoanHouse", .fieldLinkNest "LoanHouse$Reader" 112 "LoanHouse$Tree" "from" "[I" "LoanHouse", .methodLinkNest "LoanHouse$Reader" 115 ⟨"LoanHouse$Tree", "append", "(III)I"⟩ "LoanHouse", .fieldLinkNest "LoanHouse$Checker" 15 "LoanHouse$Program" "types" "LLoanHouse$Types;" "LoanHouse", .fieldLinkNest "LoanHouse$Checker" 22 "LoanHouse$Program" "functions" "LLoanHouse$Functions;" "LoanHouse", .fieldLinkNest "LoanHouse$Checker" 27 "LoanHouse$Program" "variables" "LLoanHouse$Variables;" "LoanHouse", .fieldLinkNest "LoanHouse$Checker" 32 "LoanHouse$Program" "places" "LLoanHouse$Places;" "LoanHouse", .fieldLinkNest "LoanHouse$Checker" 42 "LoanHouse$Tree" "a" "[I" "LoanHouse", .fieldLinkNest "LoanHouse$Checker" 52 "LoanHouse$Tree" "kind" "[I" "LoanHouse", .fieldLinkNest "LoanHouse$Checker" 59 "LoanHouse$Tree" "next" "[I" "LoanHouse", .methodLinkNest "LoanHouse$Checker" 62 yX9_measure "LoanHouse", .fieldLinkNest "LoanHouse$Checker" 70 "LoanHouse$Functions" "total" "I" "LoanHouse", .fieldLinkNest "LoanHouse$Checker" 90 "LoanHouse$Tree" "name" "[I" "LoanHouse", .fieldLinkNest "LoanHouse$Checker" 93 "LoanHouse$Tree" "from" "[I" "LoanHouse", .methodLinkNest "LoanHouse$Checker" 100 ⟨"LoanHouse$Functions", "find", "(I)I"⟩ "LoanHouse", .fieldLinkNest "LoanHouse$Checker" 104 "LoanHouse$Tree" "pos" "[I" "LoanHouse", .methodLinkNest "LoanHouse$Checker" 111 ⟨"LoanHouse$Functions", "add", "(II)V"⟩ "LoanHouse", .fieldLinkNest "LoanHouse$Checker" 114 "LoanHouse$Types" "decls" "I" "LoanHouse", .methodLinkNest "LoanHouse$Checker" 117 ⟨"LoanHouse$Types", "findDecl", "(I)I"⟩ "LoanHouse", .fieldLinkNest "LoanHouse$Checker" 120 "LoanHouse$Tree" "ref" "[I" "LoanHouse", .methodLinkNest "LoanHouse$Checker" 123 ⟨"LoanHouse$Types", "addDecl", "(II)V"⟩ "LoanHouse", .fieldLinkNest "LoanHouse$Checker" 174 "LoanHouse$Types" "declCells" "[I" "LoanHouse", .fieldLinkNest "LoanHouse$Checker" 177 "LoanHouse$Types" "declParts" "[I" "LoanHouse", .fieldLinkNest "LoanHouse$Checker" 180 "LoanHouse$Functions" "node" "[I" "LoanHouse", .fieldLinkNest "LoanHouse$Checker" 201 "LoanHouse$Tree" "b" "[I" "LoanHouse", .fieldLinkNest "LoanHouse$Checker" 224 "LoanHouse$Functions" "main" "I" "LoanHouse", .methodLinkNest "LoanHouse$Machine" 11 yX7_init "LoanHouse", .methodLinkNest "LoanHouse$Program" 11 yX9_init "LoanHouse", .methodLinkNest "LoanHouse$Program" 20 yX2_init "LoanHouse", .methodLinkNest "LoanHouse$Program" 27 yX10_init "LoanHouse", .methodLinkNest "LoanHouse$Program" 34 yX4_init "LoanHouse", .methodLinkNest "LoanHouse$Program" 61 yX9_clear "LoanHouse", .methodLinkNest "LoanHouse$Program" 64 yX2_clear "LoanHouse", .methodLinkNest "LoanHouse$Program" 65 yX10_clear "LoanHouse", .methodLinkNest "LoanHouse$Program" 66 yX4_clear "LoanHouse", .methodLinkNest "LoanHouseModel" 1237 yX23_init "LoanHouseModel"]
theorem nw_0 : Cond.methodLinkNest "LoanHouse" 19 yX8_init "LoanHouse" ∈ NST := List.mem_of_getElem? (i := 0) rfl
theorem nw_1 : Cond.methodLinkNest "LoanHouse" 26 yX6_init "LoanHouse" ∈ NST := List.mem_of_getElem? (i := 1) rfl
theorem nw_2 : Cond.methodLinkNest "LoanHouse" 35 yX0_init "LoanHouse" ∈ NST := List.mem_of_getElem? (i := 2) rfl
theorem nw_3 : Cond.methodLinkNest "LoanHouse" 42 yX1_init "LoanHouse" ∈ NST := List.mem_of_getElem? (i := 3) rfl
theorem nw_4 : Cond.methodLinkNest "LoanHouse" 49 yX11_init "LoanHouse" ∈ NST := List.mem_of_getElem? (i := 4) rfl
theorem nw_5 : Cond.methodLinkNest "LoanHouse" 56 yX3_init "LoanHouse" ∈ NST := List.mem_of_getElem? (i := 5) rfl
theorem nw_6 : Cond.methodLinkNest "LoanHouse" 63 yX5_init "LoanHouse" ∈ NST := List.mem_of_getElem? (i := 6) rfl
theorem nw_7 : Cond.methodLinkNest "LoanHouse" 85 yX6_read "LoanHouse" ∈ NST := List.mem_of_getElem? (i := 7) rfl
theorem nw_8 : Cond.methodLinkNest "LoanHouse" 106 yX5_clear "LoanHouse" ∈ NST := List.mem_of_getElem? (i := 8) rfl
theorem nw_9 : Cond.methodLinkNest "LoanHouse" 109 yX0_check "LoanHouse" ∈ NST := List.mem_of_getElem? (i := 9) rfl
theorem nw_10 : Cond.methodLinkNest "LoanHouse" 113 ⟨"LoanHouse$Emitter", "emitAll", "(LLoanHouse$Program;)V"⟩ "LoanHouse" ∈ NST := List.mem_of_getElem? (i := 10) rfl
theorem nw_11 : Cond.methodLinkNest "LoanHouse" 117 ⟨"LoanHouse$Ways", "follow", "(LLoanHouse$Program;)V"⟩ "LoanHouse" ∈ NST := List.mem_of_getElem? (i := 11) rfl
theorem nw_12 : Cond.methodLinkNest "LoanHouse" 120 ⟨"LoanHouse$Ways", "strayPlace", "()I"⟩ "LoanHouse" ∈ NST := List.mem_of_getElem? (i := 12) rfl
theorem nw_13 : Cond.methodLinkNest "LoanHouse" 124 ⟨"LoanHouse$Ways", "strayOther", "()I"⟩ "LoanHouse" ∈ NST := List.mem_of_getElem? (i := 13) rfl
theorem nw_14 : Cond.methodLinkNest "LoanHouse" 127 ⟨"LoanHouse$Ways", "clashPlace", "()I"⟩ "LoanHouse" ∈ NST := List.mem_of_getElem? (i := 14) rfl
theorem nw_15 : Cond.methodLinkNest "LoanHouse" 130 ⟨"LoanHouse$Ways", "clashOther", "()I"⟩ "LoanHouse" ∈ NST := List.mem_of_getElem? (i := 15) rfl
theorem nw_16 : Cond.methodLinkNest "LoanHouse" 137 ⟨"LoanHouse$Machine", "start", "(LLoanHouse$Program;[JII)I"⟩ "LoanHouse" ∈ NST := List.mem_of_getElem? (i := 16) rfl
theorem nw_17 : Cond.methodLinkNest "LoanHouse" 141 ⟨"LoanHouse$Machine", "tell", "(I)I"⟩ "LoanHouse" ∈ NST := List.mem_of_getElem? (i := 17) rfl
theorem nw_18 : Cond.fieldLinkNest "LoanHouse" 144 "LoanHouse$Machine" "store" "LLoanHouse$Store;" "LoanHouse" ∈ NST := List.mem_of_getElem? (i := 18) rfl
theorem nw_19 : Cond.methodLinkNest "LoanHouse" 148 ⟨"LoanHouse$Store", "entry", "(II)J"⟩ "LoanHouse" ∈ NST := List.mem_of_getElem? (i := 19) rfl
theorem nw_20 : Cond.fieldLinkNest "LoanHouse" 154 "LoanHouse$Program" "types" "LLoanHouse$Types;" "LoanHouse" ∈ NST := List.mem_of_getElem? (i := 20) rfl
theorem nw_21 : Cond.fieldLinkNest "LoanHouse" 158 "LoanHouse$Types" "decls" "I" "LoanHouse" ∈ NST := List.mem_of_getElem? (i := 21) rfl
theorem nw_22 : Cond.fieldLinkNest "LoanHouse" 163 "LoanHouse$Program" "functions" "LLoanHouse$Functions;" "LoanHouse" ∈ NST := List.mem_of_getElem? (i := 22) rfl
theorem nw_23 : Cond.fieldLinkNest "LoanHouse" 167 "LoanHouse$Functions" "total" "I" "LoanHouse" ∈ NST := List.mem_of_getElem? (i := 23) rfl
theorem nw_24 : Cond.fieldLinkNest "LoanHouse" 172 "LoanHouse$Program" "places" "LLoanHouse$Places;" "LoanHouse" ∈ NST := List.mem_of_getElem? (i := 24) rfl
theorem nw_25 : Cond.fieldLinkNest "LoanHouse" 176 "LoanHouse$Places" "total" "I" "LoanHouse" ∈ NST := List.mem_of_getElem? (i := 25) rfl
theorem nw_26 : Cond.fieldLinkNest "LoanHouse" 179 "LoanHouse$Places" "loans" "I" "LoanHouse" ∈ NST := List.mem_of_getElem? (i := 26) rfl
theorem nw_27 : Cond.methodLinkNest "LoanHouse" 182 ⟨"LoanHouse$Places", "tell", "(II)I"⟩ "LoanHouse" ∈ NST := List.mem_of_getElem? (i := 27) rfl
theorem nw_28 : Cond.methodLinkNest "LoanHouse" 185 ⟨"LoanHouse$Program", "tellLoan", "(II)I"⟩ "LoanHouse" ∈ NST := List.mem_of_getElem? (i := 28) rfl
theorem nw_29 : Cond.methodLinkNest "LoanHouse" 188 ⟨"LoanHouse$Program", "inForce", "(II)I"⟩ "LoanHouse" ∈ NST := List.mem_of_getElem? (i := 29) rfl
theorem nw_30 : Cond.methodLinkNest "LoanHouse" 191 ⟨"LoanHouse$Functions", "tell", "(II)I"⟩ "LoanHouse" ∈ NST := List.mem_of_getElem? (i := 30) rfl
theorem nw_31 : Cond.fieldLinkNest "LoanHouse" 192 "LoanHouse$Types" "declCells" "[I" "LoanHouse" ∈ NST := List.mem_of_getElem? (i := 31) rfl
theorem nw_32 : Cond.fieldLinkNest "LoanHouse" 196 "LoanHouse$Store" "strays" "I" "LoanHouse" ∈ NST := List.mem_of_getElem? (i := 32) rfl
theorem nw_33 : Cond.fieldLinkNest "LoanHouse" 199 "LoanHouse$Store" "twices" "I" "LoanHouse" ∈ NST := List.mem_of_getElem? (i := 33) rfl
theorem nw_34 : Cond.methodLinkNest "LoanHouse" 202 ⟨"LoanHouse$Machine", "left", "()I"⟩ "LoanHouse" ∈ NST := List.mem_of_getElem? (i := 34) rfl
theorem nw_35 : Cond.methodLinkNest "LoanHouse$Reader" 79 yX8_clear "LoanHouse" ∈ NST := List.mem_of_getElem? (i := 35) rfl
theorem nw_36 : Cond.methodLinkNest "LoanHouse$Reader" 90 yX8_add "LoanHouse" ∈ NST := List.mem_of_getElem? (i := 36) rfl
theorem nw_37 : Cond.fieldLinkNest "LoanHouse$Reader" 112 "LoanHouse$Tree" "from" "[I" "LoanHouse" ∈ NST := List.mem_of_getElem? (i := 37) rfl
theorem nw_38 : Cond.methodLinkNest "LoanHouse$Reader" 115 ⟨"LoanHouse$Tree", "append", "(III)I"⟩ "LoanHouse" ∈ NST := List.mem_of_getElem? (i := 38) rfl
theorem nw_39 : Cond.fieldLinkNest "LoanHouse$Checker" 15 "LoanHouse$Program" "types" "LLoanHouse$Types;" "LoanHouse" ∈ NST := List.mem_of_getElem? (i := 39) rfl
theorem nw_40 : Cond.fieldLinkNest "LoanHouse$Checker" 22 "LoanHouse$Program" "functions" "LLoanHouse$Functions;" "LoanHouse" ∈ NST := List.mem_of_getElem? (i := 40) rfl
theorem nw_41 : Cond.fieldLinkNest "LoanHouse$Checker" 27 "LoanHouse$Program" "variables" "LLoanHouse$Variables;" "LoanHouse" ∈ NST := List.mem_of_getElem? (i := 41) rfl
theorem nw_42 : Cond.fieldLinkNest "LoanHouse$Checker" 32 "LoanHouse$Program" "places" "LLoanHouse$Places;" "LoanHouse" ∈ NST := List.mem_of_getElem? (i := 42) rfl
theorem nw_43 : Cond.fieldLinkNest "LoanHouse$Checker" 42 "LoanHouse$Tree" "a" "[I" "LoanHouse" ∈ NST := List.mem_of_getElem? (i := 43) rfl
theorem nw_44 : Cond.fieldLinkNest "LoanHouse$Checker" 52 "LoanHouse$Tree" "kind" "[I" "LoanHouse" ∈ NST := List.mem_of_getElem? (i := 44) rfl
theorem nw_45 : Cond.fieldLinkNest "LoanHouse$Checker" 59 "LoanHouse$Tree" "next" "[I" "LoanHouse" ∈ NST := List.mem_of_getElem? (i := 45) rfl
theorem nw_46 : Cond.methodLinkNest "LoanHouse$Checker" 62 yX9_measure "LoanHouse" ∈ NST := List.mem_of_getElem? (i := 46) rfl
theorem nw_47 : Cond.fieldLinkNest "LoanHouse$Checker" 70 "LoanHouse$Functions" "total" "I" "LoanHouse" ∈ NST := List.mem_of_getElem? (i := 47) rfl
theorem nw_48 : Cond.fieldLinkNest "LoanHouse$Checker" 90 "LoanHouse$Tree" "name" "[I" "LoanHouse" ∈ NST := List.mem_of_getElem? (i := 48) rfl
theorem nw_49 : Cond.fieldLinkNest "LoanHouse$Checker" 93 "LoanHouse$Tree" "from" "[I" "LoanHouse" ∈ NST := List.mem_of_getElem? (i := 49) rfl
theorem nw_50 : Cond.methodLinkNest "LoanHouse$Checker" 100 ⟨"LoanHouse$Functions", "find", "(I)I"⟩ "LoanHouse" ∈ NST := List.mem_of_getElem? (i := 50) rfl
theorem nw_51 : Cond.fieldLinkNest "LoanHouse$Checker" 104 "LoanHouse$Tree" "pos" "[I" "LoanHouse" ∈ NST := List.mem_of_getElem? (i := 51) rfl
theorem nw_52 : Cond.methodLinkNest "LoanHouse$Checker" 111 ⟨"LoanHouse$Functions", "add", "(II)V"⟩ "LoanHouse" ∈ NST := List.mem_of_getElem? (i := 52) rfl
theorem nw_53 : Cond.fieldLinkNest "LoanHouse$Checker" 114 "LoanHouse$Types" "decls" "I" "LoanHouse" ∈ NST := List.mem_of_getElem? (i := 53) rfl
theorem nw_54 : Cond.methodLinkNest "LoanHouse$Checker" 117 ⟨"LoanHouse$Types", "findDecl", "(I)I"⟩ "LoanHouse" ∈ NST := List.mem_of_getElem? (i := 54) rfl
theorem nw_55 : Cond.fieldLinkNest "LoanHouse$Checker" 120 "LoanHouse$Tree" "ref" "[I" "LoanHouse" ∈ NST := List.mem_of_getElem? (i := 55) rfl
theorem nw_56 : Cond.methodLinkNest "LoanHouse$Checker" 123 ⟨"LoanHouse$Types", "addDecl", "(II)V"⟩ "LoanHouse" ∈ NST := List.mem_of_getElem? (i := 56) rfl
theorem nw_57 : Cond.fieldLinkNest "LoanHouse$Checker" 174 "LoanHouse$Types" "declCells" "[I" "LoanHouse" ∈ NST := List.mem_of_getElem? (i := 57) rfl
theorem nw_58 : Cond.fieldLinkNest "LoanHouse$Checker" 177 "LoanHouse$Types" "declParts" "[I" "LoanHouse" ∈ NST := List.mem_of_getElem? (i := 58) rfl
theorem nw_59 : Cond.fieldLinkNest "LoanHouse$Checker" 180 "LoanHouse$Functions" "node" "[I" "LoanHouse" ∈ NST := List.mem_of_getElem? (i := 59) rfl
theorem nw_60 : Cond.fieldLinkNest "LoanHouse$Checker" 201 "LoanHouse$Tree" "b" "[I" "LoanHouse" ∈ NST := List.mem_of_getElem? (i := 60) rfl
theorem nw_61 : Cond.fieldLinkNest "LoanHouse$Checker" 224 "LoanHouse$Functions" "main" "I" "LoanHouse" ∈ NST := List.mem_of_getElem? (i := 61) rfl
theorem nw_62 : Cond.methodLinkNest "LoanHouse$Machine" 11 yX7_init "LoanHouse" ∈ NST := List.mem_of_getElem? (i := 62) rfl
theorem nw_63 : Cond.methodLinkNest "LoanHouse$Program" 11 yX9_init "LoanHouse" ∈ NST := List.mem_of_getElem? (i := 63) rfl
theorem nw_64 : Cond.methodLinkNest "LoanHouse$Program" 20 yX2_init "LoanHouse" ∈ NST := List.mem_of_getElem? (i := 64) rfl
theorem nw_65 : Cond.methodLinkNest "LoanHouse$Program" 27 yX10_init "LoanHouse" ∈ NST := List.mem_of_getElem? (i := 65) rfl
theorem nw_66 : Cond.methodLinkNest "LoanHouse$Program" 34 yX4_init "LoanHouse" ∈ NST := List.mem_of_getElem? (i := 66) rfl
theorem nw_67 : Cond.methodLinkNest "LoanHouse$Program" 61 yX9_clear "LoanHouse" ∈ NST := List.mem_of_getElem? (i := 67) rfl
theorem nw_68 : Cond.methodLinkNest "LoanHouse$Program" 64 yX2_clear "LoanHouse" ∈ NST := List.mem_of_getElem? (i := 68) rfl
theorem nw_69 : Cond.methodLinkNest "LoanHouse$Program" 65 yX10_clear "LoanHouse" ∈ NST := List.mem_of_getElem? (i := 69) rfl
theorem nw_70 : Cond.methodLinkNest "LoanHouse$Program" 66 yX4_clear "LoanHouse" ∈ NST := List.mem_of_getElem? (i := 70) rfl
theorem nw_71 : Cond.methodLinkNest "LoanHouseModel" 1237 yX23_init "LoanHouseModel" ∈ NST := List.mem_of_getElem? (i := 71) rfl
def isNest : Cond → Bool
  | .fieldLinkNest .. => true
  | .methodLinkNest .. => true
  | _ => false
theorem nst_ok : ∀ w ∈ NST, isNest w = true := by decide +kernel
def CL : List vw_C := [("LoanHouse", TX12, 17), ("LoanHouse$Tree", TX8, 12), ("LoanHouse$Reader", TX6, 18), ("LoanHouse$Checker", TX0, 11), ("LoanHouse$Emitter", TX1, 10), ("LoanHouse$Ways", TX11, 22), ("LoanHouse$Machine", TX3, 21), ("LoanHouse$Store", TX7, 19), ("LoanHouse$Program", TX5, 15), ("LoanHouse$Types", TX9, 19), ("LoanHouse$Functions", TX2, 19), ("LoanHouse$Variables", TX10, 12), ("LoanHouse$Places", TX4, 20), ("LoanHouseModel", TX30, 95), ("LoanHouseModel$Type", TX26, 3), ("LoanHouseModel$Program", TX23, 4), ("java/lang/StringBuilder", TJ4, 4), ("java/lang/String", TJ0, 4), ("java/util/ArrayList", TJx4a65c, 3)]
end
section
/-! a layer of its own over the kit: the heap, the locals and the rest of the machine are hidden in one judgement G over the listed world, the listed locals, the stack -/
abbrev KS : Type := Nat → Nat
def TYS (K : KS) : List (ClassId × FieldType) := [(K 0, .int), (K 1, .long), (K 2, .byte), (K 3, .boolean), (K 4, .object "java/lang/String")]
def AOS : List String := ["LoanHouseModel$Exp", "LoanHouseModel$Fn", "LoanHouseModel$Node", "LoanHouseModel$Type", "LoanHouseModel$Var", "java/lang/Object", "java/lang/String"]
def txW : String := "record choice told fn of let if else while break continue return match print fail read new box row open len push pop swap int bool true false and or not main"
def byW : List Int32 := [114, 101, 99, 111, 114, 100, 32, 99, 104, 111, 105, 99, 101, 32, 116, 111, 108, 100, 32, 102, 110, 32, 111, 102, 32, 108, 101, 116, 32, 105, 102, 32, 101, 108, 115, 101, 32, 119, 104, 105, 108, 101, 32, 98, 114, 101, 97, 107, 32, 99, 111, 110, 116, 105, 110, 117, 101, 32, 114, 101, 116, 117, 114, 110, 32, 109, 97, 116, 99, 104, 32, 112, 114, 105, 110, 116, 32, 102, 97, 105, 108, 32, 114, 101, 97, 100, 32, 110, 101, 119, 32, 98, 111, 120, 32, 114, 111, 119, 32, 111, 112, 101, 110, 32, 108, 101, 110, 32, 112, 117, 115, 104, 32, 112, 111, 112, 32, 115, 119, 97, 112, 32, 105, 110, 116, 32, 98, 111, 111, 108, 32, 116, 114, 117, 101, 32, 102, 97, 108, 115, 101, 32, 97, 110, 100, 32, 111, 114, 32, 110, 111, 116, 32, 109, 97, 105, 110]
def fW (j : Nat) : Int32 := byW.getD j 0
def EV (K : KS) (A : Nat → Prop) (U : State) (H : Heap) : Prop :=
  (∀ w ∈ NST, va_Nw w U) ∧ (∀ C ∈ AOS, va_AO C U) ∧ vk_R "LoanHouse$Reader" 9 txW (K 10) U ∧ vk_R "LoanHouseModel" 208 "" (K 13) U ∧ vk_R "LoanHouseModel" 816 "main" (K 14) U ∧
  va_Z "java/lang/String" "COMPACT_STRINGS" "Z" (.int 1) A U H ∧ va_Zq "jdk/internal/util/Preconditions" "SIOOBE_FORMATTER" "Ljava/util/function/BiFunction;" A U H ∧ va_Z "java/util/ArrayList" "DEFAULTCAPACITY_EMPTY_ELEMENTDATA" "[Ljava/lang/Object;" (.ref (K 12)) A U H ∧
  va_O "java/lang/String" (K 10) A U H ∧ va_OF "java/lang/String" "coder" "B" (.int 0) (K 10) A U H ∧ va_OF "java/lang/String" "value" "[B" (.ref (K 11)) (K 10) A U H ∧ va_T .byte (K 11) 157 (fun j => .int (fW j)) A U H ∧ va_O "java/lang/String" (K 13) A U H ∧ (Cond.arrayOver (.array .long)).before #[] U = true
theorem nst_tab {w : Cond} (h : isNest w = true) : w.onTables = true := by
  cases w <;> first | rfl | (simp [isNest] at h)
theorem nst_warm {w : Cond} (h : isNest w = true) {s U : State} (hW : s.WarmedH U.vm) (hZ : va_Nw w s) : va_Nw w U := by
  cases w <;> first | exact va_Nw.warmF hW hZ | exact va_Nw.warmM hW hZ | (simp [isNest] at h)
theorem EV.to {K : KS} {A B : Nat → Prop} {s U : State} {H : Heap} {locs : List Loc} (h : EV K A s s.heap) (hW : s.WarmedH U.vm) (hS : va_S A s.heap H locs) (hH : U.heap = H) (hAB : ∀ q, B q → A q) : EV K B U U.heap := by
  obtain ⟨h1, h2, h3, h4, h5, h6, h7, h8, h9, h10, h11, h12, h13, h14⟩ := h
  have hk := hS.2.1
  subst hH
  have ha := hW.alike
  exact ⟨fun w hw => nst_warm (nst_ok w hw) hW (h1 w hw), fun C hC => (h2 C hC).moved ha, h3.warm hW, h4.warm hW, h5.warm hW, va_Z.moved ha ((h6.kept hk).narrow hAB), va_Zq.moved ha ((h7.kept hk).narrow hAB), va_Z.moved ha ((h8.kept hk).narrow hAB), va_O.moved ha ((h9.kept hk).narrow hAB), va_OF.moved ha ((h10.kept hk).narrow hAB), va_OF.moved ha ((h11.kept hk).narrow hAB), va_T.moved ha ((h12.kept hk).narrow hAB), va_O.moved ha ((h13.kept hk).narrow hAB), over_moved ha h14⟩
theorem EV.same {K : KS} {A : Nat → Prop} {u U : State} {H : Heap} (h : EV K A u H) (hv : U.vm = u.vm) : EV K A U H := by
  obtain ⟨h1, h2, h3, h4, h5, h6, h7, h8, h9, h10, h11, h12, h13, h14⟩ := h
  have ha : u.vm.Alike U.vm := by rw [hv]; exact Vm.Alike.refl u.vm
  exact ⟨fun w hw => va_Nw.same (nst_tab (nst_ok w hw)) hv.symm (h1 w hw), fun C hC => (h2 C hC).moved ha, h3.same hv, h4.same hv, h5.same hv, va_Z.moved ha h6, va_Zq.moved ha h7, va_Z.moved ha h8, va_O.moved ha h9, va_OF.moved ha h10, va_OF.moved ha h11, va_T.moved ha h12, va_O.moved ha h13, over_moved ha h14⟩
/-- what a walk stands in: program, launch, env, room, state, method, arguments, below, method, code, end, classes, K, A, locals -/
abbrev GX : Type := Program × Launch × Env × Room × State × MethodId × Array Value × List Frame × Method × Code × (State → Prop) × va_G × KS × (Nat → Prop) × Nat
abbrev gp (X : GX) : Program := X.1
abbrev gl (X : GX) : Launch := X.2.1
abbrev ge (X : GX) : Env := X.2.2.1
abbrev gR (X : GX) : Room := X.2.2.2.1
abbrev gs (X : GX) : State := X.2.2.2.2.1
abbrev gm (X : GX) : MethodId := X.2.2.2.2.2.1
abbrev ga (X : GX) : Array Value := X.2.2.2.2.2.2.1
abbrev gb (X : GX) : List Frame := X.2.2.2.2.2.2.2.1
abbrev gt (X : GX) : Method := X.2.2.2.2.2.2.2.2.1
abbrev gc (X : GX) : Code := X.2.2.2.2.2.2.2.2.2.1
abbrev gQ (X : GX) : State → Prop := X.2.2.2.2.2.2.2.2.2.2.1
abbrev gD (X : GX) : va_G := X.2.2.2.2.2.2.2.2.2.2.2.1
abbrev gK (X : GX) : KS := X.2.2.2.2.2.2.2.2.2.2.2.2.1
abbrev gA (X : GX) : Nat → Prop := X.2.2.2.2.2.2.2.2.2.2.2.2.2.1
abbrev gn (X : GX) : Nat := X.2.2.2.2.2.2.2.2.2.2.2.2.2.2
def G (X : GX) (cells slots : Nat) (ws : va_W) (lv : List (Nat × Value)) (pc : Nat) (st : List Value) : Prop :=
  ∀ (H : Heap) (locs : List Loc) (ls : Array Slot), va_P (gD X) CL ws H → va_D (gA X) ws → va_S (gA X) (gs X).heap H locs → lv_has ls (gn X) lv → W (gp X) (gl X) (ge X) (gR X) (gs X) (gm X) (ga X) (gb X) (gt X) (gc X) H locs cells slots (gQ X) (F0 (gm X) pc ls st)
def GC (X : GX) (cc : ByteArray) (nL : Nat) (own : String) (ret : Option FieldType) : Prop :=
  (gp X).tables.exec = Jvm.exec ∧ (gc X).code = cc ∧ (gt X).sig.returnType = ret ∧ (gc X).maxLocals = nL ∧ gn X = nL ∧ (gs X).vm.findClass own = some (gm X).cls ∧ (∀ w ∈ TBL, w.before (ga X) (gs X) = true) ∧ va_K (gD X) CL (TYS (gK X)) (gs X) ∧ (∀ q, (gs X).heap.size ≤ q → (gA X) q) ∧ (gt X).locks = false ∧ EV (gK X) (gA X) (gs X) (gs X).heap
def WPost (D : va_G) (ws : va_W) (sz : Nat) (Post : Option Value → va_W → Prop) : Array Value → State → Outcome → State → Prop := fun _ st oc t => (∃ (v : Option Value) (ws' : va_W), oc = .returned v ∧ Post v ws' ∧ va_P D CL ws' t.heap ∧ va_D (va_A ws sz) ws') ∧ va_F (va_A ws sz) st t
def WPre (D : va_G) (K : KS) (ws : va_W) (sz : Nat) : State → Prop := fun U => U.heap.size = sz ∧ va_P D CL ws U.heap ∧ va_K D CL (TYS K) U ∧ va_D (fun _ => True) ws ∧ EV K (va_A ws sz) U U.heap
/-- a contract: from the world ws, with the arguments av, the method returns, and the answer and the world behind it are as Post says -/
def Con (l : Launch) (D : va_G) (K : KS) (y : MethodName) (cc : ByteArray) (nL : Nat) (ret : Option FieldType) (fr lo mc ms : Nat) (av : List Value) (ws : va_W) (Post : Option Value → va_W → Prop) : Prop :=
  ∀ sz : Nat, Met l y (Cond.code y cc nL ret :: TBL) ({ frames := fr, cells := mc, slots := ms, locals := lo }) (va_Pc av (WPre D K ws sz)) (WPost D ws sz Post) mc ms (va_A ws sz)
def GR (X : GX) (fr lo mc ms : Nat) : Prop := gR X = { frames := fr, cells := mc, slots := ms, locals := lo }
def GQ (X : GX) (ws : va_W) (mc ms : Nat) (Post : Option Value → va_W → Prop) : Prop := gQ X = MQ (gb X) (WPost (gD X) ws (gs X).heap.size Post) (ga X) (gs X) mc ms (va_A ws (gs X).heap.size) ∧ gA X = va_A ws (gs X).heap.size
theorem Con.of {l : Launch} {D : va_G} {K : KS} {y : MethodName} {cc : ByteArray} {nL : Nat} {ret : Option FieldType} {fr lo mc ms : Nat} {av : List Value} {ws : va_W} {Post : Option Value → va_W → Prop} (hy : plainName y.cls = true) (hlen : (lg_sl av).length ≤ nL)
    (h : ∀ X : GX, gl X = l → gD X = D → gK X = K → GC X cc nL y.cls ret → GR X fr lo mc ms → GQ X ws mc ms Post → (gt X).name = y.name → G X 0 0 ws (lv_args 0 av) 0 []) : Con l D K y cc nL ret fr lo mc ms av ws Post := by
  intro sz
  refine Met.ofW (cc := cc) (maxL := nL) (ret := ret) hy rfl ?_
  intro p e s m args below meth c s₁ B hml hv
  obtain ⟨rfl, hsz, hP, hK, hD0, hE⟩ := hv
  have hts := atoms_spec (ws := Cond.code y cc nL ret :: TBL) B.pre
  have hown : s.vm.findClass y.cls = some m.cls := findClass_of_methodNamed B.named
  have hname := (name_of_methodNamed B.named B.method).1
  subst hsz
  have hl := lv_entry av (n := nL) hlen
  rw [lg_entry_eq]
  have hA : ∀ q : Nat, s.heap.size ≤ q → va_A ws s.heap.size q := fun q h => Or.inr h
  exact h (p, l, e, _, s, m, av.toArray, below, meth, c, _, D, K, va_A ws s.heap.size, nL) rfl rfl rfl ⟨B.exec, B.bytes, B.returns, hml, rfl, hown, fun w hw => hts w (List.mem_cons_of_mem _ hw), hK, hA, B.notSynchronized, hE⟩ rfl ⟨rfl, rfl⟩ hname s.heap [] _ hP hD0.self va_S.rf hl
section G2
variable {X : GX} {cc : ByteArray} {nL : Nat} {own : String} {ret : Option FieldType} {a b : Nat} {ws : va_W} {lv : List (Nat × Value)} {pc z : Nat} {st : List Value}
theorem g_ws {w2 : va_W} (h : ws = w2) (k : G X a b w2 lv pc st) : G X a b ws lv pc st := h ▸ k
theorem g_st {s2 : List Value} (h : st = s2) (k : G X a b ws lv pc s2) : G X a b ws lv pc st := h ▸ k
theorem g_lv {l2 : List (Nat × Value)} (ks : List Nat) (h : lv_pick lv ks = l2) (k : G X a b ws l2 pc st) : G X a b ws lv pc st := fun H locs ls hP hD hS hl => k H locs ls hP hD hS (lv_sub hl ks h)
theorem g_pc (h : pc = z) (k : G X a b ws lv z st) : G X a b ws lv pc st := h ▸ k
/-- fewer cells, in any order, by their places -/
theorem g_sub {w2 : va_W} (is : List Nat) (hn : va_nd is = true) (hs : is.map (fun i => ws[i]?) = w2.map some) (hf : is.filterMap (fun i => ws[i]?) = w2) (k : G X a b w2 lv pc st) : G X a b ws lv pc st := fun H locs ls hP hD hS hl => k H locs ls (hP.sub is hf) (hD.sub is hn hs) hS hl
theorem g_widen {a2 b2 : Nat} (h1 : a ≤ a2) (h2 : b ≤ b2) (k : G X a2 b2 ws lv pc st) : G X a b ws lv pc st := fun H locs ls hP hD hS hl => W.widen h1 h2 (k H locs ls hP hD hS hl)
theorem g_iconst {n : Int} {v : Int32} (C : GC X cc nL own ret) (hdg : decode cc pc = .ok (.iconst n, 1)) (hv : Int32.ofInt n = v) (hz : pc + 1 = z) (k : G X a b ws lv z (.int v :: st)) : G X a b ws lv pc (st) := fun H locs ls hP hD hS hl => by
  subst hz
  exact lv_iconst C.1 C.2.1 hdg hv (k H locs ls hP hD hS hl)
theorem g_bipush {n : Int} {v : Int32} (C : GC X cc nL own ret) (hdg : decode cc pc = .ok (.bipush n, 2)) (hv : (Int8.ofInt n).toInt32 = v) (hz : pc + 2 = z) (k : G X a b ws lv z (.int v :: st)) : G X a b ws lv pc (st) := fun H locs ls hP hD hS hl => by
  subst hz
  exact lv_bipush C.1 C.2.1 hdg hv (k H locs ls hP hD hS hl)
theorem g_sipush {n : Int} {v : Int32} (C : GC X cc nL own ret) (hdg : decode cc pc = .ok (.sipush n, 3)) (hv : (Int16.ofInt n).toInt32 = v) (hz : pc + 3 = z) (k : G X a b ws lv z (.int v :: st)) : G X a b ws lv pc (st) := fun H locs ls hP hD hS hl => by
  subst hz
  exact lv_sipush C.1 C.2.1 hdg hv (k H locs ls hP hD hS hl)
theorem g_lconst {n : Fin 2} {v : Int64} (C : GC X cc nL own ret) (hdg : decode cc pc = .ok (.lconst n, 1)) (hv : Int64.ofNat (n : Nat) = v) (hz : pc + 1 = z) (k : G X a b ws lv z (.long v :: st)) : G X a b ws lv pc (st) := fun H locs ls hP hD hS hl => by
  subst hz
  exact lv_lconst C.1 C.2.1 hdg hv (k H locs ls hP hD hS hl)
theorem g_null  (C : GC X cc nL own ret) (hdg : decode cc pc = .ok (.aconst_null, 1)) (hz : pc + 1 = z) (k : G X a b ws lv z (.null :: st)) : G X a b ws lv pc (st) := fun H locs ls hP hD hS hl => by
  subst hz
  exact lv_null C.1 C.2.1 hdg (k H locs ls hP hD hS hl)
theorem g_iload_n {k0 : Fin 4} {i : Nat} {x : Int32} (C : GC X cc nL own ret) (hdg : decode cc pc = .ok (.iload_n k0, 1)) (j : Nat) (hi : (k0 : Nat) = i) (hj : lv[j]? = some (i, .int x)) (hz : pc + 1 = z) (k : G X a b ws lv z (.int x :: st)) : G X a b ws lv pc (st) := fun H locs ls hP hD hS hl => by
  subst hz
  exact lv_iload_n C.1 C.2.1 hdg hi (lv_at hl j hj) (k H locs ls hP hD hS hl)
theorem g_iload {i : Nat} {x : Int32} (C : GC X cc nL own ret) (hdg : decode cc pc = .ok (.iload i, 2)) (j : Nat) (hj : lv[j]? = some (i, .int x)) (hz : pc + 2 = z) (k : G X a b ws lv z (.int x :: st)) : G X a b ws lv pc (st) := fun H locs ls hP hD hS hl => by
  subst hz
  exact lv_iload C.1 C.2.1 hdg (lv_at hl j hj) (k H locs ls hP hD hS hl)
theorem g_lload_n {k0 : Fin 4} {i : Nat} {x : Int64} (C : GC X cc nL own ret) (hdg : decode cc pc = .ok (.lload_n k0, 1)) (j : Nat) (hi : (k0 : Nat) = i) (hj : lv[j]? = some (i, .long x)) (hz : pc + 1 = z) (k : G X a b ws lv z (.long x :: st)) : G X a b ws lv pc (st) := fun H locs ls hP hD hS hl => by
  subst hz
  exact lv_lload_n C.1 C.2.1 hdg hi (lv_at hl j hj) (k H locs ls hP hD hS hl)
theorem g_lload {i : Nat} {x : Int64} (C : GC X cc nL own ret) (hdg : decode cc pc = .ok (.lload i, 2)) (j : Nat) (hj : lv[j]? = some (i, .long x)) (hz : pc + 2 = z) (k : G X a b ws lv z (.long x :: st)) : G X a b ws lv pc (st) := fun H locs ls hP hD hS hl => by
  subst hz
  exact lv_lload C.1 C.2.1 hdg (lv_at hl j hj) (k H locs ls hP hD hS hl)
theorem g_aload_n {k0 : Fin 4} {i : Nat} {x : Nat} (C : GC X cc nL own ret) (hdg : decode cc pc = .ok (.aload_n k0, 1)) (j : Nat) (hi : (k0 : Nat) = i) (hj : lv[j]? = some (i, .ref x)) (hz : pc + 1 = z) (k : G X a b ws lv z (.ref x :: st)) : G X a b ws lv pc (st) := fun H locs ls hP hD hS hl => by
  subst hz
  exact lv_aload_n C.1 C.2.1 hdg hi (lv_at hl j hj) (k H locs ls hP hD hS hl)
theorem g_aload {i : Nat} {x : Nat} (C : GC X cc nL own ret) (hdg : decode cc pc = .ok (.aload i, 2)) (j : Nat) (hj : lv[j]? = some (i, .ref x)) (hz : pc + 2 = z) (k : G X a b ws lv z (.ref x :: st)) : G X a b ws lv pc (st) := fun H locs ls hP hD hS hl => by
  subst hz
  exact lv_aload C.1 C.2.1 hdg (lv_at hl j hj) (k H locs ls hP hD hS hl)
theorem g_aload_nN {k0 : Fin 4} {i : Nat} (C : GC X cc nL own ret) (hdg : decode cc pc = .ok (.aload_n k0, 1)) (j : Nat) (hi : (k0 : Nat) = i) (hj : lv[j]? = some (i, .null)) (hz : pc + 1 = z) (k : G X a b ws lv z (.null :: st)) : G X a b ws lv pc (st) := fun H locs ls hP hD hS hl => by
  subst hz
  exact lv_aload_nN C.1 C.2.1 hdg hi (lv_at hl j hj) (k H locs ls hP hD hS hl)
theorem g_aloadN {i : Nat} (C : GC X cc nL own ret) (hdg : decode cc pc = .ok (.aload i, 2)) (j : Nat) (hj : lv[j]? = some (i, .null)) (hz : pc + 2 = z) (k : G X a b ws lv z (.null :: st)) : G X a b ws lv pc (st) := fun H locs ls hP hD hS hl => by
  subst hz
  exact lv_aloadN C.1 C.2.1 hdg (lv_at hl j hj) (k H locs ls hP hD hS hl)
theorem g_istore_n {k0 : Fin 4} {i : Nat} {x : Int32} {l2 : List (Nat × Value)} (C : GC X cc nL own ret) (hdg : decode cc pc = .ok (.istore_n k0, 1)) (hi : (k0 : Nat) = i) (hn : i < nL) (hf : (i, Value.int x) :: lv.filter (fun q => !(q.1 == i) && !(q.1 + 1 == i && q.2.category == 2)) = l2) (hz : pc + 1 = z) (k : G X a b ws l2 z st) : G X a b ws lv pc (.int x :: st) := fun H locs ls hP hD hS hl => by
  subst hz
  exact lv_istore_n C.1 C.2.1 hdg hi hl (by rw [C.2.2.2.2.1]; exact hn) hf (fun ls hl => k H locs ls hP hD hS hl)
theorem g_istore {i : Nat} {x : Int32} {l2 : List (Nat × Value)} (C : GC X cc nL own ret) (hdg : decode cc pc = .ok (.istore i, 2)) (hn : i < nL) (hf : (i, Value.int x) :: lv.filter (fun q => !(q.1 == i) && !(q.1 + 1 == i && q.2.category == 2)) = l2) (hz : pc + 2 = z) (k : G X a b ws l2 z st) : G X a b ws lv pc (.int x :: st) := fun H locs ls hP hD hS hl => by
  subst hz
  exact lv_istore C.1 C.2.1 hdg hl (by rw [C.2.2.2.2.1]; exact hn) hf (fun ls hl => k H locs ls hP hD hS hl)
theorem g_astore_n {k0 : Fin 4} {i : Nat} {x : Nat} {l2 : List (Nat × Value)} (C : GC X cc nL own ret) (hdg : decode cc pc = .ok (.astore_n k0, 1)) (hi : (k0 : Nat) = i) (hn : i < nL) (hf : (i, Value.ref x) :: lv.filter (fun q => !(q.1 == i) && !(q.1 + 1 == i && q.2.category == 2)) = l2) (hz : pc + 1 = z) (k : G X a b ws l2 z st) : G X a b ws lv pc (.ref x :: st) := fun H locs ls hP hD hS hl => by
  subst hz
  exact lv_astore_n C.1 C.2.1 hdg hi hl (by rw [C.2.2.2.2.1]; exact hn) hf (fun ls hl => k H locs ls hP hD hS hl)
theorem g_astore {i : Nat} {x : Nat} {l2 : List (Nat × Value)} (C : GC X cc nL own ret) (hdg : decode cc pc = .ok (.astore i, 2)) (hn : i < nL) (hf : (i, Value.ref x) :: lv.filter (fun q => !(q.1 == i) && !(q.1 + 1 == i && q.2.category == 2)) = l2) (hz : pc + 2 = z) (k : G X a b ws l2 z st) : G X a b ws lv pc (.ref x :: st) := fun H locs ls hP hD hS hl => by
  subst hz
  exact lv_astore C.1 C.2.1 hdg hl (by rw [C.2.2.2.2.1]; exact hn) hf (fun ls hl => k H locs ls hP hD hS hl)
theorem g_astore_nN {k0 : Fin 4} {i : Nat} {l2 : List (Nat × Value)} (C : GC X cc nL own ret) (hdg : decode cc pc = .ok (.astore_n k0, 1)) (hi : (k0 : Nat) = i) (hn : i < nL) (hf : (i, Value.null) :: lv.filter (fun q => !(q.1 == i) && !(q.1 + 1 == i && q.2.category == 2)) = l2) (hz : pc + 1 = z) (k : G X a b ws l2 z st) : G X a b ws lv pc (.null :: st) := fun H locs ls hP hD hS hl => by
  subst hz
  exact lv_astore_nN C.1 C.2.1 hdg hi hl (by rw [C.2.2.2.2.1]; exact hn) hf (fun ls hl => k H locs ls hP hD hS hl)
theorem g_astoreN {i : Nat} {l2 : List (Nat × Value)} (C : GC X cc nL own ret) (hdg : decode cc pc = .ok (.astore i, 2)) (hn : i < nL) (hf : (i, Value.null) :: lv.filter (fun q => !(q.1 == i) && !(q.1 + 1 == i && q.2.category == 2)) = l2) (hz : pc + 2 = z) (k : G X a b ws l2 z st) : G X a b ws lv pc (.null :: st) := fun H locs ls hP hD hS hl => by
  subst hz
  exact lv_astoreN C.1 C.2.1 hdg hl (by rw [C.2.2.2.2.1]; exact hn) hf (fun ls hl => k H locs ls hP hD hS hl)
theorem g_iinc {i : Nat} {n : Int} {x v : Int32} {l2 : List (Nat × Value)} (C : GC X cc nL own ret) (hdg : decode cc pc = .ok (.iinc i n, 3)) (j : Nat) (hj : lv[j]? = some (i, .int x)) (hv : x + Int32.ofInt n = v) (hn : i < nL) (hf : (i, Value.int v) :: lv.filter (fun q => !(q.1 == i) && !(q.1 + 1 == i && q.2.category == 2)) = l2) (hz : pc + 3 = z) (k : G X a b ws l2 z st) : G X a b ws lv pc st := fun H locs ls hP hD hS hl => by
  subst hz
  exact lv_iinc C.1 C.2.1 hdg hl (k := j) hj hv (by rw [C.2.2.2.2.1]; exact hn) hf (fun ls hl => k H locs ls hP hD hS hl)
theorem g_iadd {x y v : Int32} (C : GC X cc nL own ret) (hdg : decode cc pc = .ok (.iadd, 1)) (hv : x + y = v) (hz : pc + 1 = z) (k : G X a b ws lv z (.int v :: st)) : G X a b ws lv pc (.int y :: .int x :: st) := fun H locs ls hP hD hS hl => by
  subst hz; subst hv
  exact lv_iadd C.1 C.2.1 hdg (k H locs ls hP hD hS hl)
theorem g_isub {x y v : Int32} (C : GC X cc nL own ret) (hdg : decode cc pc = .ok (.isub, 1)) (hv : x - y = v) (hz : pc + 1 = z) (k : G X a b ws lv z (.int v :: st)) : G X a b ws lv pc (.int y :: .int x :: st) := fun H locs ls hP hD hS hl => by
  subst hz; subst hv
  exact lv_isub C.1 C.2.1 hdg (k H locs ls hP hD hS hl)
theorem g_imul {x y v : Int32} (C : GC X cc nL own ret) (hdg : decode cc pc = .ok (.imul, 1)) (hv : x * y = v) (hz : pc + 1 = z) (k : G X a b ws lv z (.int v :: st)) : G X a b ws lv pc (.int y :: .int x :: st) := fun H locs ls hP hD hS hl => by
  subst hz; subst hv
  exact lv_imul C.1 C.2.1 hdg (k H locs ls hP hD hS hl)
theorem g_iand {x y v : Int32} (C : GC X cc nL own ret) (hdg : decode cc pc = .ok (.iand, 1)) (hv : x &&& y = v) (hz : pc + 1 = z) (k : G X a b ws lv z (.int v :: st)) : G X a b ws lv pc (.int y :: .int x :: st) := fun H locs ls hP hD hS hl => by
  subst hz; subst hv
  exact lv_iand C.1 C.2.1 hdg (k H locs ls hP hD hS hl)
theorem g_ior {x y v : Int32} (C : GC X cc nL own ret) (hdg : decode cc pc = .ok (.ior, 1)) (hv : x ||| y = v) (hz : pc + 1 = z) (k : G X a b ws lv z (.int v :: st)) : G X a b ws lv pc (.int y :: .int x :: st) := fun H locs ls hP hD hS hl => by
  subst hz; subst hv
  exact lv_ior C.1 C.2.1 hdg (k H locs ls hP hD hS hl)
theorem g_ixor {x y v : Int32} (C : GC X cc nL own ret) (hdg : decode cc pc = .ok (.ixor, 1)) (hv : x ^^^ y = v) (hz : pc + 1 = z) (k : G X a b ws lv z (.int v :: st)) : G X a b ws lv pc (.int y :: .int x :: st) := fun H locs ls hP hD hS hl => by
  subst hz; subst hv
  exact lv_ixor C.1 C.2.1 hdg (k H locs ls hP hD hS hl)
theorem g_ishr {x y v : Int32} (C : GC X cc nL own ret) (hdg : decode cc pc = .ok (.ishr, 1)) (hv : x >>> (y &&& 31) = v) (hz : pc + 1 = z) (k : G X a b ws lv z (.int v :: st)) : G X a b ws lv pc (.int y :: .int x :: st) := fun H locs ls hP hD hS hl => by
  subst hz; subst hv
  exact lv_ishr C.1 C.2.1 hdg (k H locs ls hP hD hS hl)
theorem g_ishl {x y v : Int32} (C : GC X cc nL own ret) (hdg : decode cc pc = .ok (.ishl, 1)) (hv : x <<< (y &&& 31) = v) (hz : pc + 1 = z) (k : G X a b ws lv z (.int v :: st)) : G X a b ws lv pc (.int y :: .int x :: st) := fun H locs ls hP hD hS hl => by
  subst hz; subst hv
  exact lv_ishl C.1 C.2.1 hdg (k H locs ls hP hD hS hl)
theorem g_iushr {x y v : Int32} (C : GC X cc nL own ret) (hdg : decode cc pc = .ok (.iushr, 1)) (hv : (x.toUInt32 >>> (y.toUInt32 &&& Int32.toUInt32 31)).toInt32 = v) (hz : pc + 1 = z) (k : G X a b ws lv z (.int v :: st)) : G X a b ws lv pc (.int y :: .int x :: st) := fun H locs ls hP hD hS hl => by
  subst hz
  exact lv_iushr C.1 C.2.1 hdg hv (k H locs ls hP hD hS hl)
theorem g_land {x y v : Int64} (C : GC X cc nL own ret) (hdg : decode cc pc = .ok (.land, 1)) (hv : x &&& y = v) (hz : pc + 1 = z) (k : G X a b ws lv z (.long v :: st)) : G X a b ws lv pc (.long y :: .long x :: st) := fun H locs ls hP hD hS hl => by
  subst hz; subst hv
  exact lv_land C.1 C.2.1 hdg (k H locs ls hP hD hS hl)
theorem g_lor {x y v : Int64} (C : GC X cc nL own ret) (hdg : decode cc pc = .ok (.lor, 1)) (hv : x ||| y = v) (hz : pc + 1 = z) (k : G X a b ws lv z (.long v :: st)) : G X a b ws lv pc (.long y :: .long x :: st) := fun H locs ls hP hD hS hl => by
  subst hz; subst hv
  exact lv_lor C.1 C.2.1 hdg (k H locs ls hP hD hS hl)
theorem g_ladd {x y v : Int64} (C : GC X cc nL own ret) (hdg : decode cc pc = .ok (.ladd, 1)) (hv : x + y = v) (hz : pc + 1 = z) (k : G X a b ws lv z (.long v :: st)) : G X a b ws lv pc (.long y :: .long x :: st) := fun H locs ls hP hD hS hl => by
  subst hz; subst hv
  exact lv_ladd C.1 C.2.1 hdg (k H locs ls hP hD hS hl)
theorem g_lshl {x v : Int64} {y : Int32} (C : GC X cc nL own ret) (hdg : decode cc pc = .ok (.lshl, 1)) (hv : x <<< (y.toInt64 &&& 63) = v) (hz : pc + 1 = z) (k : G X a b ws lv z (.long v :: st)) : G X a b ws lv pc (.int y :: .long x :: st) := fun H locs ls hP hD hS hl => by
  subst hz
  exact lv_lshl C.1 C.2.1 hdg hv (k H locs ls hP hD hS hl)
theorem g_lcmp {x y : Int64} {v : Int32} (C : GC X cc nL own ret) (hdg : decode cc pc = .ok (.lcmp, 1)) (hv : lg_cmp x y = v) (hz : pc + 1 = z) (k : G X a b ws lv z (.int v :: st)) : G X a b ws lv pc (.long y :: .long x :: st) := fun H locs ls hP hD hS hl => by
  subst hz; subst hv
  exact W.lcmp C.1 C.2.1 hdg (k H locs ls hP hD hS hl)
theorem g_i2b {x : Int32} {v : Int32} (C : GC X cc nL own ret) (hdg : decode cc pc = .ok (.i2b, 1)) (hv : x.toInt8.toInt32 = v) (hz : pc + 1 = z) (k : G X a b ws lv z (.int v :: st)) : G X a b ws lv pc (.int x :: st) := fun H locs ls hP hD hS hl => by
  subst hz
  exact lv_i2b C.1 C.2.1 hdg hv (k H locs ls hP hD hS hl)
theorem g_i2c {x : Int32} {v : Int32} (C : GC X cc nL own ret) (hdg : decode cc pc = .ok (.i2c, 1)) (hv : (x.toUInt32 % 65536).toInt32 = v) (hz : pc + 1 = z) (k : G X a b ws lv z (.int v :: st)) : G X a b ws lv pc (.int x :: st) := fun H locs ls hP hD hS hl => by
  subst hz
  exact lv_i2c C.1 C.2.1 hdg hv (k H locs ls hP hD hS hl)
theorem g_i2l {x : Int32} {v : Int64} (C : GC X cc nL own ret) (hdg : decode cc pc = .ok (.i2l, 1)) (hv : x.toInt64 = v) (hz : pc + 1 = z) (k : G X a b ws lv z (.long v :: st)) : G X a b ws lv pc (.int x :: st) := fun H locs ls hP hD hS hl => by
  subst hz
  exact lv_i2l C.1 C.2.1 hdg hv (k H locs ls hP hD hS hl)
theorem g_dup {va : Value} (C : GC X cc nL own ret) (hdg : decode cc pc = .ok (.dup, 1)) (hc : va.category = 1) (hz : pc + 1 = z) (k : G X a b ws lv z (va :: va :: st)) : G X a b ws lv pc (va :: st) := fun H locs ls hP hD hS hl => by
  subst hz
  exact lv_dup C.1 C.2.1 hdg hc (k H locs ls hP hD hS hl)
theorem g_pop {va : Value} (C : GC X cc nL own ret) (hdg : decode cc pc = .ok (.pop, 1)) (hc : va.category = 1) (hz : pc + 1 = z) (k : G X a b ws lv z (st)) : G X a b ws lv pc (va :: st) := fun H locs ls hP hD hS hl => by
  subst hz
  exact lv_pop C.1 C.2.1 hdg hc (k H locs ls hP hD hS hl)
theorem g_dup_x1 {va vb : Value} (C : GC X cc nL own ret) (hdg : decode cc pc = .ok (.dup_x1, 1)) (hc : va.category = 1) (hc2 : vb.category = 1) (hz : pc + 1 = z) (k : G X a b ws lv z (va :: vb :: va :: st)) : G X a b ws lv pc (va :: vb :: st) := fun H locs ls hP hD hS hl => by
  subst hz
  exact lv_dup_x1 C.1 C.2.1 hdg hc hc2 (k H locs ls hP hD hS hl)
theorem g_goto {off : Int} (C : GC X cc nL own ret) (hdg : decode cc pc = .ok (.goto off, 3)) (ht : (pc : Int) + off = (z : Int)) (k : G X a b ws lv z st) : G X a b ws lv pc st := fun H locs ls hP hD hS hl => lv_goto C.1 C.2.1 hdg ht (k H locs ls hP hD hS hl)
theorem g_if_eq {x : Int32} {off : Int} {z2 : Nat} (C : GC X cc nL own ret) (hdg : decode cc pc = .ok (.ifCond .eq off, 3)) (ht : (pc : Int) + off = (z2 : Int)) (hz : pc + 3 = z) (kt : x = 0 → G X a b ws lv z2 st) (kf : ¬ x = 0 → G X a b ws lv z st) : G X a b ws lv pc (.int x :: st) := fun H locs ls hP hD hS hl => by
  subst hz
  exact lv_if_eq C.1 C.2.1 hdg ht (fun h => kt h H locs ls hP hD hS hl) (fun h => kf h H locs ls hP hD hS hl)
theorem g_if_eq_t {x : Int32} {off : Int} (C : GC X cc nL own ret) (hdg : decode cc pc = .ok (.ifCond .eq off, 3)) (h : x = 0) (ht : (pc : Int) + off = (z : Int)) (kt : G X a b ws lv z st) : G X a b ws lv pc (.int x :: st) := fun H locs ls hP hD hS hl => lv_if_eq C.1 C.2.1 hdg ht (fun _ => kt H locs ls hP hD hS hl) (fun h2 => by first | exact absurd h h2 | exact absurd h2 h)
theorem g_if_eq_f {x : Int32} {off : Int} (z2 : Nat) (C : GC X cc nL own ret) (hdg : decode cc pc = .ok (.ifCond .eq off, 3)) (h : ¬ x = 0) (ht : (pc : Int) + off = (z2 : Int)) (hz : pc + 3 = z) (kf : G X a b ws lv z st) : G X a b ws lv pc (.int x :: st) := fun H locs ls hP hD hS hl => by
  subst hz
  exact lv_if_eq C.1 C.2.1 hdg ht (fun h2 => by first | exact absurd h h2 | exact absurd h2 h) (fun _ => kf H locs ls hP hD hS hl)
theorem g_icmp_eq {x y : Int32} {off : Int} {z2 : Nat} (C : GC X cc nL own ret) (hdg : decode cc pc = .ok (.if_icmp .eq off, 3)) (ht : (pc : Int) + off = (z2 : Int)) (hz : pc + 3 = z) (kt : x = y → G X a b ws lv z2 st) (kf : ¬ x = y → G X a b ws lv z st) : G X a b ws lv pc (.int y :: .int x :: st) := fun H locs ls hP hD hS hl => by
  subst hz
  exact lv_icmp_eq C.1 C.2.1 hdg ht (fun h => kt h H locs ls hP hD hS hl) (fun h => kf h H locs ls hP hD hS hl)
theorem g_icmp_eq_t {x y : Int32} {off : Int} (C : GC X cc nL own ret) (hdg : decode cc pc = .ok (.if_icmp .eq off, 3)) (h : x = y) (ht : (pc : Int) + off = (z : Int)) (kt : G X a b ws lv z st) : G X a b ws lv pc (.int y :: .int x :: st) := fun H locs ls hP hD hS hl => lv_icmp_eq C.1 C.2.1 hdg ht (fun _ => kt H locs ls hP hD hS hl) (fun h2 => by first | exact absurd h h2 | exact absurd h2 h)
theorem g_icmp_eq_f {x y : Int32} {off : Int} (z2 : Nat) (C : GC X cc nL own ret) (hdg : decode cc pc = .ok (.if_icmp .eq off, 3)) (h : ¬ x = y) (ht : (pc : Int) + off = (z2 : Int)) (hz : pc + 3 = z) (kf : G X a b ws lv z st) : G X a b ws lv pc (.int y :: .int x :: st) := fun H locs ls hP hD hS hl => by
  subst hz
  exact lv_icmp_eq C.1 C.2.1 hdg ht (fun h2 => by first | exact absurd h h2 | exact absurd h2 h) (fun _ => kf H locs ls hP hD hS hl)
theorem g_if_ne {x : Int32} {off : Int} {z2 : Nat} (C : GC X cc nL own ret) (hdg : decode cc pc = .ok (.ifCond .ne off, 3)) (ht : (pc : Int) + off = (z2 : Int)) (hz : pc + 3 = z) (kt : ¬ x = 0 → G X a b ws lv z2 st) (kf : x = 0 → G X a b ws lv z st) : G X a b ws lv pc (.int x :: st) := fun H locs ls hP hD hS hl => by
  subst hz
  exact lv_if_ne C.1 C.2.1 hdg ht (fun h => kt h H locs ls hP hD hS hl) (fun h => kf h H locs ls hP hD hS hl)
theorem g_if_ne_t {x : Int32} {off : Int} (C : GC X cc nL own ret) (hdg : decode cc pc = .ok (.ifCond .ne off, 3)) (h : ¬ x = 0) (ht : (pc : Int) + off = (z : Int)) (kt : G X a b ws lv z st) : G X a b ws lv pc (.int x :: st) := fun H locs ls hP hD hS hl => lv_if_ne C.1 C.2.1 hdg ht (fun _ => kt H locs ls hP hD hS hl) (fun h2 => by first | exact absurd h h2 | exact absurd h2 h)
theorem g_if_ne_f {x : Int32} {off : Int} (z2 : Nat) (C : GC X cc nL own ret) (hdg : decode cc pc = .ok (.ifCond .ne off, 3)) (h : x = 0) (ht : (pc : Int) + off = (z2 : Int)) (hz : pc + 3 = z) (kf : G X a b ws lv z st) : G X a b ws lv pc (.int x :: st) := fun H locs ls hP hD hS hl => by
  subst hz
  exact lv_if_ne C.1 C.2.1 hdg ht (fun h2 => by first | exact absurd h h2 | exact absurd h2 h) (fun _ => kf H locs ls hP hD hS hl)
theorem g_icmp_ne {x y : Int32} {off : Int} {z2 : Nat} (C : GC X cc nL own ret) (hdg : decode cc pc = .ok (.if_icmp .ne off, 3)) (ht : (pc : Int) + off = (z2 : Int)) (hz : pc + 3 = z) (kt : ¬ x = y → G X a b ws lv z2 st) (kf : x = y → G X a b ws lv z st) : G X a b ws lv pc (.int y :: .int x :: st) := fun H locs ls hP hD hS hl => by
  subst hz
  exact lv_icmp_ne C.1 C.2.1 hdg ht (fun h => kt h H locs ls hP hD hS hl) (fun h => kf h H locs ls hP hD hS hl)
theorem g_icmp_ne_t {x y : Int32} {off : Int} (C : GC X cc nL own ret) (hdg : decode cc pc = .ok (.if_icmp .ne off, 3)) (h : ¬ x = y) (ht : (pc : Int) + off = (z : Int)) (kt : G X a b ws lv z st) : G X a b ws lv pc (.int y :: .int x :: st) := fun H locs ls hP hD hS hl => lv_icmp_ne C.1 C.2.1 hdg ht (fun _ => kt H locs ls hP hD hS hl) (fun h2 => by first | exact absurd h h2 | exact absurd h2 h)
theorem g_icmp_ne_f {x y : Int32} {off : Int} (z2 : Nat) (C : GC X cc nL own ret) (hdg : decode cc pc = .ok (.if_icmp .ne off, 3)) (h : x = y) (ht : (pc : Int) + off = (z2 : Int)) (hz : pc + 3 = z) (kf : G X a b ws lv z st) : G X a b ws lv pc (.int y :: .int x :: st) := fun H locs ls hP hD hS hl => by
  subst hz
  exact lv_icmp_ne C.1 C.2.1 hdg ht (fun h2 => by first | exact absurd h h2 | exact absurd h2 h) (fun _ => kf H locs ls hP hD hS hl)
theorem g_if_lt {x : Int32} {off : Int} {z2 : Nat} (C : GC X cc nL own ret) (hdg : decode cc pc = .ok (.ifCond .lt off, 3)) (ht : (pc : Int) + off = (z2 : Int)) (hz : pc + 3 = z) (kt : x < 0 → G X a b ws lv z2 st) (kf : ¬ x < 0 → G X a b ws lv z st) : G X a b ws lv pc (.int x :: st) := fun H locs ls hP hD hS hl => by
  subst hz
  exact lv_if_lt C.1 C.2.1 hdg ht (fun h => kt h H locs ls hP hD hS hl) (fun h => kf h H locs ls hP hD hS hl)
theorem g_if_lt_t {x : Int32} {off : Int} (C : GC X cc nL own ret) (hdg : decode cc pc = .ok (.ifCond .lt off, 3)) (h : x < 0) (ht : (pc : Int) + off = (z : Int)) (kt : G X a b ws lv z st) : G X a b ws lv pc (.int x :: st) := fun H locs ls hP hD hS hl => lv_if_lt C.1 C.2.1 hdg ht (fun _ => kt H locs ls hP hD hS hl) (fun h2 => by first | exact absurd h h2 | exact absurd h2 h)
theorem g_if_lt_f {x : Int32} {off : Int} (z2 : Nat) (C : GC X cc nL own ret) (hdg : decode cc pc = .ok (.ifCond .lt off, 3)) (h : ¬ x < 0) (ht : (pc : Int) + off = (z2 : Int)) (hz : pc + 3 = z) (kf : G X a b ws lv z st) : G X a b ws lv pc (.int x :: st) := fun H locs ls hP hD hS hl => by
  subst hz
  exact lv_if_lt C.1 C.2.1 hdg ht (fun h2 => by first | exact absurd h h2 | exact absurd h2 h) (fun _ => kf H locs ls hP hD hS hl)
theorem g_icmp_lt {x y : Int32} {off : Int} {z2 : Nat} (C : GC X cc nL own ret) (hdg : decode cc pc = .ok (.if_icmp .lt off, 3)) (ht : (pc : Int) + off = (z2 : Int)) (hz : pc + 3 = z) (kt : x < y → G X a b ws lv z2 st) (kf : ¬ x < y → G X a b ws lv z st) : G X a b ws lv pc (.int y :: .int x :: st) := fun H locs ls hP hD hS hl => by
  subst hz
  exact lv_icmp_lt C.1 C.2.1 hdg ht (fun h => kt h H locs ls hP hD hS hl) (fun h => kf h H locs ls hP hD hS hl)
theorem g_icmp_lt_t {x y : Int32} {off : Int} (C : GC X cc nL own ret) (hdg : decode cc pc = .ok (.if_icmp .lt off, 3)) (h : x < y) (ht : (pc : Int) + off = (z : Int)) (kt : G X a b ws lv z st) : G X a b ws lv pc (.int y :: .int x :: st) := fun H locs ls hP hD hS hl => lv_icmp_lt C.1 C.2.1 hdg ht (fun _ => kt H locs ls hP hD hS hl) (fun h2 => by first | exact absurd h h2 | exact absurd h2 h)
theorem g_icmp_lt_f {x y : Int32} {off : Int} (z2 : Nat) (C : GC X cc nL own ret) (hdg : decode cc pc = .ok (.if_icmp .lt off, 3)) (h : ¬ x < y) (ht : (pc : Int) + off = (z2 : Int)) (hz : pc + 3 = z) (kf : G X a b ws lv z st) : G X a b ws lv pc (.int y :: .int x :: st) := fun H locs ls hP hD hS hl => by
  subst hz
  exact lv_icmp_lt C.1 C.2.1 hdg ht (fun h2 => by first | exact absurd h h2 | exact absurd h2 h) (fun _ => kf H locs ls hP hD hS hl)
theorem g_if_ge {x : Int32} {off : Int} {z2 : Nat} (C : GC X cc nL own ret) (hdg : decode cc pc = .ok (.ifCond .ge off, 3)) (ht : (pc : Int) + off = (z2 : Int)) (hz : pc + 3 = z) (kt : 0 ≤ x → G X a b ws lv z2 st) (kf : ¬ 0 ≤ x → G X a b ws lv z st) : G X a b ws lv pc (.int x :: st) := fun H locs ls hP hD hS hl => by
  subst hz
  exact lv_if_ge C.1 C.2.1 hdg ht (fun h => kt h H locs ls hP hD hS hl) (fun h => kf h H locs ls hP hD hS hl)
theorem g_if_ge_t {x : Int32} {off : Int} (C : GC X cc nL own ret) (hdg : decode cc pc = .ok (.ifCond .ge off, 3)) (h : 0 ≤ x) (ht : (pc : Int) + off = (z : Int)) (kt : G X a b ws lv z st) : G X a b ws lv pc (.int x :: st) := fun H locs ls hP hD hS hl => lv_if_ge C.1 C.2.1 hdg ht (fun _ => kt H locs ls hP hD hS hl) (fun h2 => by first | exact absurd h h2 | exact absurd h2 h)
theorem g_if_ge_f {x : Int32} {off : Int} (z2 : Nat) (C : GC X cc nL own ret) (hdg : decode cc pc = .ok (.ifCond .ge off, 3)) (h : ¬ 0 ≤ x) (ht : (pc : Int) + off = (z2 : Int)) (hz : pc + 3 = z) (kf : G X a b ws lv z st) : G X a b ws lv pc (.int x :: st) := fun H locs ls hP hD hS hl => by
  subst hz
  exact lv_if_ge C.1 C.2.1 hdg ht (fun h2 => by first | exact absurd h h2 | exact absurd h2 h) (fun _ => kf H locs ls hP hD hS hl)
theorem g_icmp_ge {x y : Int32} {off : Int} {z2 : Nat} (C : GC X cc nL own ret) (hdg : decode cc pc = .ok (.if_icmp .ge off, 3)) (ht : (pc : Int) + off = (z2 : Int)) (hz : pc + 3 = z) (kt : y ≤ x → G X a b ws lv z2 st) (kf : ¬ y ≤ x → G X a b ws lv z st) : G X a b ws lv pc (.int y :: .int x :: st) := fun H locs ls hP hD hS hl => by
  subst hz
  exact lv_icmp_ge C.1 C.2.1 hdg ht (fun h => kt h H locs ls hP hD hS hl) (fun h => kf h H locs ls hP hD hS hl)
theorem g_icmp_ge_t {x y : Int32} {off : Int} (C : GC X cc nL own ret) (hdg : decode cc pc = .ok (.if_icmp .ge off, 3)) (h : y ≤ x) (ht : (pc : Int) + off = (z : Int)) (kt : G X a b ws lv z st) : G X a b ws lv pc (.int y :: .int x :: st) := fun H locs ls hP hD hS hl => lv_icmp_ge C.1 C.2.1 hdg ht (fun _ => kt H locs ls hP hD hS hl) (fun h2 => by first | exact absurd h h2 | exact absurd h2 h)
theorem g_icmp_ge_f {x y : Int32} {off : Int} (z2 : Nat) (C : GC X cc nL own ret) (hdg : decode cc pc = .ok (.if_icmp .ge off, 3)) (h : ¬ y ≤ x) (ht : (pc : Int) + off = (z2 : Int)) (hz : pc + 3 = z) (kf : G X a b ws lv z st) : G X a b ws lv pc (.int y :: .int x :: st) := fun H locs ls hP hD hS hl => by
  subst hz
  exact lv_icmp_ge C.1 C.2.1 hdg ht (fun h2 => by first | exact absurd h h2 | exact absurd h2 h) (fun _ => kf H locs ls hP hD hS hl)
theorem g_if_gt {x : Int32} {off : Int} {z2 : Nat} (C : GC X cc nL own ret) (hdg : decode cc pc = .ok (.ifCond .gt off, 3)) (ht : (pc : Int) + off = (z2 : Int)) (hz : pc + 3 = z) (kt : 0 < x → G X a b ws lv z2 st) (kf : ¬ 0 < x → G X a b ws lv z st) : G X a b ws lv pc (.int x :: st) := fun H locs ls hP hD hS hl => by
  subst hz
  exact lv_if_gt C.1 C.2.1 hdg ht (fun h => kt h H locs ls hP hD hS hl) (fun h => kf h H locs ls hP hD hS hl)
theorem g_if_gt_t {x : Int32} {off : Int} (C : GC X cc nL own ret) (hdg : decode cc pc = .ok (.ifCond .gt off, 3)) (h : 0 < x) (ht : (pc : Int) + off = (z : Int)) (kt : G X a b ws lv z st) : G X a b ws lv pc (.int x :: st) := fun H locs ls hP hD hS hl => lv_if_gt C.1 C.2.1 hdg ht (fun _ => kt H locs ls hP hD hS hl) (fun h2 => by first | exact absurd h h2 | exact absurd h2 h)
theorem g_if_gt_f {x : Int32} {off : Int} (z2 : Nat) (C : GC X cc nL own ret) (hdg : decode cc pc = .ok (.ifCond .gt off, 3)) (h : ¬ 0 < x) (ht : (pc : Int) + off = (z2 : Int)) (hz : pc + 3 = z) (kf : G X a b ws lv z st) : G X a b ws lv pc (.int x :: st) := fun H locs ls hP hD hS hl => by
  subst hz
  exact lv_if_gt C.1 C.2.1 hdg ht (fun h2 => by first | exact absurd h h2 | exact absurd h2 h) (fun _ => kf H locs ls hP hD hS hl)
theorem g_icmp_gt {x y : Int32} {off : Int} {z2 : Nat} (C : GC X cc nL own ret) (hdg : decode cc pc = .ok (.if_icmp .gt off, 3)) (ht : (pc : Int) + off = (z2 : Int)) (hz : pc + 3 = z) (kt : y < x → G X a b ws lv z2 st) (kf : ¬ y < x → G X a b ws lv z st) : G X a b ws lv pc (.int y :: .int x :: st) := fun H locs ls hP hD hS hl => by
  subst hz
  exact lv_icmp_gt C.1 C.2.1 hdg ht (fun h => kt h H locs ls hP hD hS hl) (fun h => kf h H locs ls hP hD hS hl)
theorem g_icmp_gt_t {x y : Int32} {off : Int} (C : GC X cc nL own ret) (hdg : decode cc pc = .ok (.if_icmp .gt off, 3)) (h : y < x) (ht : (pc : Int) + off = (z : Int)) (kt : G X a b ws lv z st) : G X a b ws lv pc (.int y :: .int x :: st) := fun H locs ls hP hD hS hl => lv_icmp_gt C.1 C.2.1 hdg ht (fun _ => kt H locs ls hP hD hS hl) (fun h2 => by first | exact absurd h h2 | exact absurd h2 h)
theorem g_icmp_gt_f {x y : Int32} {off : Int} (z2 : Nat) (C : GC X cc nL own ret) (hdg : decode cc pc = .ok (.if_icmp .gt off, 3)) (h : ¬ y < x) (ht : (pc : Int) + off = (z2 : Int)) (hz : pc + 3 = z) (kf : G X a b ws lv z st) : G X a b ws lv pc (.int y :: .int x :: st) := fun H locs ls hP hD hS hl => by
  subst hz
  exact lv_icmp_gt C.1 C.2.1 hdg ht (fun h2 => by first | exact absurd h h2 | exact absurd h2 h) (fun _ => kf H locs ls hP hD hS hl)
theorem g_if_le {x : Int32} {off : Int} {z2 : Nat} (C : GC X cc nL own ret) (hdg : decode cc pc = .ok (.ifCond .le off, 3)) (ht : (pc : Int) + off = (z2 : Int)) (hz : pc + 3 = z) (kt : x ≤ 0 → G X a b ws lv z2 st) (kf : ¬ x ≤ 0 → G X a b ws lv z st) : G X a b ws lv pc (.int x :: st) := fun H locs ls hP hD hS hl => by
  subst hz
  exact lv_if_le C.1 C.2.1 hdg ht (fun h => kt h H locs ls hP hD hS hl) (fun h => kf h H locs ls hP hD hS hl)
theorem g_if_le_t {x : Int32} {off : Int} (C : GC X cc nL own ret) (hdg : decode cc pc = .ok (.ifCond .le off, 3)) (h : x ≤ 0) (ht : (pc : Int) + off = (z : Int)) (kt : G X a b ws lv z st) : G X a b ws lv pc (.int x :: st) := fun H locs ls hP hD hS hl => lv_if_le C.1 C.2.1 hdg ht (fun _ => kt H locs ls hP hD hS hl) (fun h2 => by first | exact absurd h h2 | exact absurd h2 h)
theorem g_if_le_f {x : Int32} {off : Int} (z2 : Nat) (C : GC X cc nL own ret) (hdg : decode cc pc = .ok (.ifCond .le off, 3)) (h : ¬ x ≤ 0) (ht : (pc : Int) + off = (z2 : Int)) (hz : pc + 3 = z) (kf : G X a b ws lv z st) : G X a b ws lv pc (.int x :: st) := fun H locs ls hP hD hS hl => by
  subst hz
  exact lv_if_le C.1 C.2.1 hdg ht (fun h2 => by first | exact absurd h h2 | exact absurd h2 h) (fun _ => kf H locs ls hP hD hS hl)
theorem g_icmp_le {x y : Int32} {off : Int} {z2 : Nat} (C : GC X cc nL own ret) (hdg : decode cc pc = .ok (.if_icmp .le off, 3)) (ht : (pc : Int) + off = (z2 : Int)) (hz : pc + 3 = z) (kt : x ≤ y → G X a b ws lv z2 st) (kf : ¬ x ≤ y → G X a b ws lv z st) : G X a b ws lv pc (.int y :: .int x :: st) := fun H locs ls hP hD hS hl => by
  subst hz
  exact lv_icmp_le C.1 C.2.1 hdg ht (fun h => kt h H locs ls hP hD hS hl) (fun h => kf h H locs ls hP hD hS hl)
theorem g_icmp_le_t {x y : Int32} {off : Int} (C : GC X cc nL own ret) (hdg : decode cc pc = .ok (.if_icmp .le off, 3)) (h : x ≤ y) (ht : (pc : Int) + off = (z : Int)) (kt : G X a b ws lv z st) : G X a b ws lv pc (.int y :: .int x :: st) := fun H locs ls hP hD hS hl => lv_icmp_le C.1 C.2.1 hdg ht (fun _ => kt H locs ls hP hD hS hl) (fun h2 => by first | exact absurd h h2 | exact absurd h2 h)
theorem g_icmp_le_f {x y : Int32} {off : Int} (z2 : Nat) (C : GC X cc nL own ret) (hdg : decode cc pc = .ok (.if_icmp .le off, 3)) (h : ¬ x ≤ y) (ht : (pc : Int) + off = (z2 : Int)) (hz : pc + 3 = z) (kf : G X a b ws lv z st) : G X a b ws lv pc (.int y :: .int x :: st) := fun H locs ls hP hD hS hl => by
  subst hz
  exact lv_icmp_le C.1 C.2.1 hdg ht (fun h2 => by first | exact absurd h h2 | exact absurd h2 h) (fun _ => kf H locs ls hP hD hS hl)
theorem g_nullN {off : Int} (C : GC X cc nL own ret) (hdg : decode cc pc = .ok (.ifnull off, 3)) (ht : (pc : Int) + off = (z : Int)) (k : G X a b ws lv z st) : G X a b ws lv pc (.null :: st) := fun H locs ls hP hD hS hl => lv_ifnullN C.1 C.2.1 hdg ht (k H locs ls hP hD hS hl)
theorem g_nullR {off : Int} {x : Nat} (C : GC X cc nL own ret) (hdg : decode cc pc = .ok (.ifnull off, 3)) (hz : pc + 3 = z) (k : G X a b ws lv z st) : G X a b ws lv pc (.ref x :: st) := fun H locs ls hP hD hS hl => by
  subst hz
  exact lv_ifnull C.1 C.2.1 hdg (k H locs ls hP hD hS hl)
theorem g_nonnullN {off : Int} (C : GC X cc nL own ret) (hdg : decode cc pc = .ok (.ifnonnull off, 3)) (hz : pc + 3 = z) (k : G X a b ws lv z st) : G X a b ws lv pc (.null :: st) := fun H locs ls hP hD hS hl => by
  subst hz
  exact lv_ifnonnullN C.1 C.2.1 hdg (k H locs ls hP hD hS hl)
theorem g_nonnullR {off : Int} {x : Nat} (C : GC X cc nL own ret) (hdg : decode cc pc = .ok (.ifnonnull off, 3)) (ht : (pc : Int) + off = (z : Int)) (k : G X a b ws lv z st) : G X a b ws lv pc (.ref x :: st) := fun H locs ls hP hD hS hl => lv_ifnonnull C.1 C.2.1 hdg ht (k H locs ls hP hD hS hl)
theorem g_tableOut {dflt lo hi : Int} {offs : Array Int} {len : Nat} {x : Int32} (C : GC X cc nL own ret) (hdg : decode cc pc = .ok (.tableswitch dflt lo hi offs, len)) (h : x.toInt < lo ∨ hi < x.toInt) (ht : (pc : Int) + dflt = (z : Int)) (k : G X a b ws lv z st) : G X a b ws lv pc (.int x :: st) := fun H locs ls hP hD hS hl => lv_tableOut C.1 C.2.1 hdg h ht (k H locs ls hP hD hS hl)
theorem g_tableIn {dflt lo hi : Int} {offs : Array Int} {len : Nat} {x : Int32} {off : Int} (C : GC X cc nL own ret) (hdg : decode cc pc = .ok (.tableswitch dflt lo hi offs, len)) (h1 : ¬ x.toInt < lo) (h2 : ¬ hi < x.toInt) (ho : offs[(x.toInt - lo).toNat]? = some off) (ht : (pc : Int) + off = (z : Int)) (k : G X a b ws lv z st) : G X a b ws lv pc (.int x :: st) := fun H locs ls hP hD hS hl => lv_tableIn C.1 C.2.1 hdg h1 h2 ho ht (k H locs ls hP hD hS hl)
theorem g_topi {x : Int32} (k : ∀ y : Int32, y = x → G X a b ws lv pc (.int y :: st)) : G X a b ws lv pc (.int x :: st) := k x rfl
theorem g_ldc {index : Nat} {v : Int32} (C : GC X cc nL own ret) (hdg : decode cc pc = .ok (.ldc index, 2)) (hw : Cond.constant own index v ∈ TBL) (hz : pc + 2 = z) (k : G X a b ws lv z (.int v :: st)) : G X a b ws lv pc st := fun H locs ls hP hD hS hl => by
  subst hz
  exact lv_ldc C.1 C.2.1 C.2.2.2.2.2.1 (C.2.2.2.2.2.2.1 _ hw) hdg (k H locs ls hP hD hS hl)
theorem g_ldcw {index : Nat} {v : Int32} (C : GC X cc nL own ret) (hdg : decode cc pc = .ok (.ldc_w index, 3)) (hw : Cond.constant own index v ∈ TBL) (hz : pc + 3 = z) (k : G X a b ws lv z (.int v :: st)) : G X a b ws lv pc st := fun H locs ls hP hD hS hl => by
  subst hz
  exact lv_ldcw C.1 C.2.1 C.2.2.2.2.2.1 (C.2.2.2.2.2.2.1 _ hw) hdg (k H locs ls hP hD hS hl)
theorem g_ldc2 {index : Nat} {v : Int64} (C : GC X cc nL own ret) (hdg : decode cc pc = .ok (.ldc2_w index, 3)) (hw : Cond.constantLong own index v ∈ TBL) (hz : pc + 3 = z) (k : G X a b ws lv z (.long v :: st)) : G X a b ws lv pc st := fun H locs ls hP hD hS hl => by
  subst hz
  exact lv_ldc2 C.1 C.2.1 C.2.2.2.2.2.1 (C.2.2.2.2.2.2.1 _ hw) hdg (k H locs ls hP hD hS hl)
theorem g_ldcS {index q : Nat} {tx : String} (C : GC X cc nL own ret) (hdg : decode cc pc = .ok (.ldc index, 2)) (hZ : vk_R own index tx q (gs X)) (hz : pc + 2 = z) (k : G X a b ws lv z (.ref q :: st)) : G X a b ws lv pc st := fun H locs ls hP hD hS hl => by
  subst hz
  exact va_ldcS C.1 C.2.1 C.2.2.2.2.2.1 hZ hdg (k H locs ls hP hD hS hl)
theorem g_gets {Cn n d : String} {v : Value} {index : Nat} (C : GC X cc nL own ret) (hdg : decode cc pc = .ok (.getstatic index, 3)) (hZ : va_Z Cn n d v (gA X) (gs X) (gs X).heap) (hw : Cond.fieldLink own index Cn n d ∈ TBL) (hz : pc + 3 = z) (k : G X a b ws lv z (v :: st)) : G X a b ws lv pc st := fun H locs ls hP hD hS hl => by
  subst hz
  exact va_gets C.1 C.2.1 hZ hS C.2.2.2.2.2.1 (C.2.2.2.2.2.2.1 _ hw) (fun _ h => h) hdg (k H locs ls hP hD hS hl)
/-- a class of CL: its place, its fields -/
def GCL (ci : Nat) (Cn : String) (T : u_T) (N : Nat) (ty0 : Nat → FieldType) : Prop := CL[ci]? = some (Cn, T, N) ∧ (∀ w ∈ u_ws Cn T N, w ∈ TBL) ∧ (∀ k, k < N → parseFieldDescriptor (T k).2.2.1 = some (ty0 k)) ∧ (∀ a, a < N → ∀ b, b < N → a ≠ b → (T a).2.1 ≠ (T b).2.1)
theorem g_get {ci N index o : Nat} {Cn ref : String} {T : u_T} {ty0 : Nat → FieldType} {fs : List Value} {v : Value} (C : GC X cc nL own ret) (Y : GCL ci Cn T N ty0) (hdg : decode cc pc = .ok (.getfield index, 3)) (j : Nat) (he : ws[j]? = some (o, .inr (ci, fs))) (kf : Nat) (hk : kf < N) (hw : Cond.fieldLink own index ref (T kf).2.1 (T kf).2.2.1 ∈ TBL) (hr : ref = (T kf).1) (hv : fs[kf]? = some v) (hz : pc + 3 = z) (k : G X a b ws lv z (v :: st)) : G X a b ws lv pc (.ref o :: st) := fun H locs ls hP hD hS hl => by
  subst hz
  exact va_get C.1 C.2.1 C.2.2.2.2.2.2.1 Y.2.1 C.2.2.2.2.2.1 C.2.2.2.2.2.2.2.1 hP j he Y.1 kf hk (C.2.2.2.2.2.2.1 _ hw) (fun _ h => by rw [hr]; exact h) hv hdg (k H locs ls hP hD hS hl)
theorem g_getN {ci N index o : Nat} {Cn ref host : String} {T : u_T} {ty0 : Nat → FieldType} {fs : List Value} {v : Value} (C : GC X cc nL own ret) (Y : GCL ci Cn T N ty0) (hdg : decode cc pc = .ok (.getfield index, 3)) (j : Nat) (he : ws[j]? = some (o, .inr (ci, fs))) (kf : Nat) (hk : kf < N) (hw : Cond.fieldLinkNest own index ref (T kf).2.1 (T kf).2.2.1 host ∈ NST) (hr : ref = (T kf).1) (hv : fs[kf]? = some v) (hz : pc + 3 = z) (k : G X a b ws lv z (v :: st)) : G X a b ws lv pc (.ref o :: st) := fun H locs ls hP hD hS hl => by
  subst hz
  exact va_getN C.1 C.2.1 C.2.2.2.2.2.2.1 Y.2.1 C.2.2.2.2.2.1 C.2.2.2.2.2.2.2.1 hP j he Y.1 kf hk (va_Nw.use rfl (C.2.2.2.2.2.2.2.2.2.2.1 _ hw)) (fun _ h => by rw [hr]; exact h) hv hdg (k H locs ls hP hD hS hl)
theorem g_put {ci N index o : Nat} {Cn ref : String} {T : u_T} {ty0 : Nat → FieldType} {fs : List Value} {v : Value} {w2 : va_W} (C : GC X cc nL own ret) (Y : GCL ci Cn T N ty0) (hdg : decode cc pc = .ok (.putfield index, 3)) (j : Nat) (he : ws[j]? = some (o, .inr (ci, fs))) (kf : Nat) (hk : kf < N) (hw : Cond.fieldLink own index ref (T kf).2.1 (T kf).2.2.1 ∈ TBL) (hr : ref = (T kf).1) (hfin : (T kf).2.2.2 = false) (hn : narrow (ty0 kf) v = v) (hfit : fits (ty0 kf) v = true) (hl0 : kf < fs.length) (h2 : ws.set j (o, .inr (ci, fs.set kf v)) = w2) (hz : pc + 3 = z) (k : G X a b w2 lv z st) : G X a b ws lv pc (v :: .ref o :: st) := fun H locs ls hP hD hS hl => by
  subst hz; subst h2
  exact va_put C.1 C.2.1 C.2.2.2.2.2.2.1 Y.2.1 ty0 Y.2.2.1 Y.2.2.2 C.2.2.2.2.2.1 C.2.2.2.2.2.2.2.1 hP hD hS j he Y.1 kf hk (C.2.2.2.2.2.2.1 _ hw) (fun _ h => by rw [hr]; exact h) hfin (Y.2.2.1 kf hk) hn hfit hl0 hdg (fun H locs hP hD hS => k H locs ls hP hD hS hl)
theorem g_putN {ci N index o : Nat} {Cn ref host : String} {T : u_T} {ty0 : Nat → FieldType} {fs : List Value} {v : Value} {w2 : va_W} (C : GC X cc nL own ret) (Y : GCL ci Cn T N ty0) (hdg : decode cc pc = .ok (.putfield index, 3)) (j : Nat) (he : ws[j]? = some (o, .inr (ci, fs))) (kf : Nat) (hk : kf < N) (hw : Cond.fieldLinkNest own index ref (T kf).2.1 (T kf).2.2.1 host ∈ NST) (hr : ref = (T kf).1) (hfin : (T kf).2.2.2 = false) (hn : narrow (ty0 kf) v = v) (hfit : fits (ty0 kf) v = true) (hl0 : kf < fs.length) (h2 : ws.set j (o, .inr (ci, fs.set kf v)) = w2) (hz : pc + 3 = z) (k : G X a b w2 lv z st) : G X a b ws lv pc (v :: .ref o :: st) := fun H locs ls hP hD hS hl => by
  subst hz; subst h2
  exact va_putN C.1 C.2.1 C.2.2.2.2.2.2.1 Y.2.1 ty0 Y.2.2.1 Y.2.2.2 C.2.2.2.2.2.1 C.2.2.2.2.2.2.2.1 hP hD hS j he Y.1 kf hk (va_Nw.use rfl (C.2.2.2.2.2.2.2.2.2.2.1 _ hw)) (fun _ h => by rw [hr]; exact h) hfin (Y.2.2.1 kf hk) hn hfit hl0 hdg (fun H locs hP hD hS => k H locs ls hP hD hS hl)
theorem g_putF {ci N index o : Nat} {Cn ref : String} {T : u_T} {ty0 : Nat → FieldType} {fs : List Value} {v : Value} {w2 : va_W} (C : GC X cc nL own ret) (Y : GCL ci Cn T N ty0) (hdg : decode cc pc = .ok (.putfield index, 3)) (j : Nat) (he : ws[j]? = some (o, .inr (ci, fs))) (kf : Nat) (hk : kf < N) (hw : Cond.fieldLink own index ref (T kf).2.1 (T kf).2.2.1 ∈ TBL) (hr : ref = (T kf).1) (hfin : (T kf).2.2.2 = true) (hin : (gt X).name = "<init>") (hdecl : (T kf).1 = own) (hn : narrow (ty0 kf) v = v) (hfit : fits (ty0 kf) v = true) (hl0 : kf < fs.length) (h2 : ws.set j (o, .inr (ci, fs.set kf v)) = w2) (hz : pc + 3 = z) (k : G X a b w2 lv z st) : G X a b ws lv pc (v :: .ref o :: st) := fun H locs ls hP hD hS hl => by
  subst hz; subst h2
  exact va_putF C.1 C.2.1 C.2.2.2.2.2.2.1 Y.2.1 ty0 Y.2.2.1 Y.2.2.2 C.2.2.2.2.2.1 C.2.2.2.2.2.2.2.1 hP hD hS j he Y.1 kf hk (C.2.2.2.2.2.2.1 _ hw) (fun _ h => by rw [hr]; exact h) hfin hin hdecl (Y.2.2.1 kf hk) hn hfit hl0 hdg (fun H locs hP hD hS => k H locs ls hP hD hS hl)
theorem cls_one {D : va_G} {cl : List vw_C} {K : KS} {s : State} {cA : ClassId} {ty : FieldType} {t : Nat} (hK : va_K D cl (TYS K) s) (hK2 : va_K D cl (TYS K ++ [(cA, ty)]) s) {cB : ClassId} (ht : (TYS K)[t]? = some (cB, ty)) : cA = cB := by
  have h1 := (hK.2 t _ ht).2
  have h2 := (hK2.2 (TYS K).length (cA, ty) (by rw [List.getElem?_append_right (Nat.le_refl _), Nat.sub_self]; rfl)).2
  cases ty with
  | object C =>
    obtain ⟨_, _, _, _, _, e1⟩ := h1
    obtain ⟨_, _, _, _, _, e2⟩ := h2
    exact Option.some.inj (e2.symm.trans e1)
  | _ => exact Option.some.inj (Eq.trans (Eq.symm h2) h1)
theorem g_objInit {idx o : Nat} {fr lo mc ms : Nat} (C : GC X cc nL own ret) (hR : GR X fr lo mc ms) (hdg : decode cc pc = .ok (.invokespecial idx, 3)) (hw : Cond.methodLink own idx objectInit ∈ TBL) (hi : Cond.instanceMethod objectInit ∈ TBL) (hc : Cond.code objectInit ⟨#[0xb1]⟩ 1 none ∈ TBL) (hfr : 1 ≤ fr) (hlo : (st.map fun v => v.category).sum + 12 ≤ lo) (hz : pc + 3 = z) (k : G X a b ws lv z st) : G X a b ws lv pc (.ref o :: st) := fun H locs ls hP hD hS hl => by
  subst hz
  refine W.objInit C.1 C.2.1 C.2.2.2.2.2.1 (C.2.2.2.2.2.2.1 _ hw) (C.2.2.2.2.2.2.1 _ hi) (C.2.2.2.2.2.2.1 _ hc) rfl (by rw [C.2.2.2.1, ← C.2.2.2.2.1]; exact hl.1) rfl hdg (by rw [hR]; exact hfr) (by rw [hR]; show 2 * 0 + _ + 12 ≤ lo; omega) ?_
  exact k H locs ls hP hD hS hl
theorem g_newI {n : Int32} {N : Nat} {fr lo mc ms a2 b2 : Nat} (C : GC X cc nL own ret) (hR : GR X fr lo mc ms) (hdg : decode cc pc = .ok (.newarray .int, 2)) (hw : Cond.arrayClass .int ∈ TBL) (hn : ¬ n < 0) (hN : n.toNatClampNeg = N) (hb : N * componentBytes .int ≤ 536870912) (ha : a + 1 = a2) (hb2 : b + N = b2) (ha3 : a2 ≤ mc) (hb3 : b2 ≤ ms) (hz : pc + 2 = z) (k : ∀ q : Nat, G X a2 b2 (ws ++ [(q, .inl (gK X 0, N, .inl (fun _ => 0)))]) lv z (.ref q :: st)) : G X a b ws lv pc (.int n :: st) := fun H locs ls hP hD hS hl => by
  subst hz; subst ha; subst hb2
  refine va_newa (atype := .int) C.1 C.2.1 (C.2.2.2.2.2.2.1 _ hw) (ty := .int) rfl C.2.2.2.2.2.2.2.1 hP hD hS C.2.2.2.2.2.2.2.2.1 (a0 := (N, .inl (fun _ => 0))) (fun cA => rfl) hn hN hb (by rw [hR]; exact ha3) (by rw [hR]; exact hb3) hdg (fun q cA H1 hK2 hP2 hD2 hS2 => ?_)
  have e := cls_one (t := 0) C.2.2.2.2.2.2.2.1 hK2 rfl
  subst e
  exact k q H1 locs ls hP2 hD2 hS2 hl
theorem g_newID {n : Int32} {N : Nat} {fr lo mc ms a2 b2 : Nat} (C : GC X cc nL own ret) (hR : GR X fr lo mc ms) (hdg : decode cc pc = .ok (.newarray .int, 2)) (hw : Cond.arrayClass .int ∈ TBL) (hn : ¬ n < 0) (hN : n.toNatClampNeg = N) (hb : N * componentBytes .int ≤ 536870912) (ha : a + 1 = a2) (hb2 : b + N = b2) (ha3 : a2 ≤ mc) (hb3 : b2 ≤ ms) (hz : pc + 2 = z) (k : ∀ q : Nat, G X a2 b2 ws lv z (.ref q :: st)) : G X a b ws lv pc (.int n :: st) := fun H locs ls hP hD hS hl => by
  subst hz; subst ha; subst hb2
  refine va_newa (atype := .int) C.1 C.2.1 (C.2.2.2.2.2.2.1 _ hw) (ty := .int) rfl C.2.2.2.2.2.2.2.1 hP hD hS C.2.2.2.2.2.2.2.2.1 (a0 := (N, .inl (fun _ => 0))) (fun cA => rfl) hn hN hb (by rw [hR]; exact ha3) (by rw [hR]; exact hb3) hdg (fun q cA H1 hK2 hP2 hD2 hS2 => ?_)
  exact k q H1 locs ls (fun k q h => hP2 k q (by rw [List.getElem?_append_left (List.getElem?_eq_some_iff.mp h).1]; exact h)) ⟨fun i j p q hi hj => hD2.1 i j p q (by rw [List.getElem?_append_left (List.getElem?_eq_some_iff.mp hi).1]; exact hi) (by rw [List.getElem?_append_left (List.getElem?_eq_some_iff.mp hj).1]; exact hj), fun k q h => hD2.2 k q (by rw [List.getElem?_append_left (List.getElem?_eq_some_iff.mp h).1]; exact h)⟩ hS2 hl
theorem g_newJ {n : Int32} {N : Nat} {fr lo mc ms a2 b2 : Nat} (C : GC X cc nL own ret) (hR : GR X fr lo mc ms) (hdg : decode cc pc = .ok (.newarray .long, 2)) (hw : Cond.arrayClass .long ∈ TBL) (hn : ¬ n < 0) (hN : n.toNatClampNeg = N) (hb : N * componentBytes .long ≤ 536870912) (ha : a + 1 = a2) (hb2 : b + N = b2) (ha3 : a2 ≤ mc) (hb3 : b2 ≤ ms) (hz : pc + 2 = z) (k : ∀ q : Nat, G X a2 b2 (ws ++ [(q, .inl (gK X 1, N, .inr (.inl (fun _ => 0))))]) lv z (.ref q :: st)) : G X a b ws lv pc (.int n :: st) := fun H locs ls hP hD hS hl => by
  subst hz; subst ha; subst hb2
  refine va_newa (atype := .long) C.1 C.2.1 (C.2.2.2.2.2.2.1 _ hw) (ty := .long) rfl C.2.2.2.2.2.2.2.1 hP hD hS C.2.2.2.2.2.2.2.2.1 (a0 := (N, .inr (.inl (fun _ => 0)))) (fun cA => rfl) hn hN hb (by rw [hR]; exact ha3) (by rw [hR]; exact hb3) hdg (fun q cA H1 hK2 hP2 hD2 hS2 => ?_)
  have e := cls_one (t := 1) C.2.2.2.2.2.2.2.1 hK2 rfl
  subst e
  exact k q H1 locs ls hP2 hD2 hS2 hl
theorem g_newJD {n : Int32} {N : Nat} {fr lo mc ms a2 b2 : Nat} (C : GC X cc nL own ret) (hR : GR X fr lo mc ms) (hdg : decode cc pc = .ok (.newarray .long, 2)) (hw : Cond.arrayClass .long ∈ TBL) (hn : ¬ n < 0) (hN : n.toNatClampNeg = N) (hb : N * componentBytes .long ≤ 536870912) (ha : a + 1 = a2) (hb2 : b + N = b2) (ha3 : a2 ≤ mc) (hb3 : b2 ≤ ms) (hz : pc + 2 = z) (k : ∀ q : Nat, G X a2 b2 ws lv z (.ref q :: st)) : G X a b ws lv pc (.int n :: st) := fun H locs ls hP hD hS hl => by
  subst hz; subst ha; subst hb2
  refine va_newa (atype := .long) C.1 C.2.1 (C.2.2.2.2.2.2.1 _ hw) (ty := .long) rfl C.2.2.2.2.2.2.2.1 hP hD hS C.2.2.2.2.2.2.2.2.1 (a0 := (N, .inr (.inl (fun _ => 0)))) (fun cA => rfl) hn hN hb (by rw [hR]; exact ha3) (by rw [hR]; exact hb3) hdg (fun q cA H1 hK2 hP2 hD2 hS2 => ?_)
  exact k q H1 locs ls (fun k q h => hP2 k q (by rw [List.getElem?_append_left (List.getElem?_eq_some_iff.mp h).1]; exact h)) ⟨fun i j p q hi hj => hD2.1 i j p q (by rw [List.getElem?_append_left (List.getElem?_eq_some_iff.mp hi).1]; exact hi) (by rw [List.getElem?_append_left (List.getElem?_eq_some_iff.mp hj).1]; exact hj), fun k q h => hD2.2 k q (by rw [List.getElem?_append_left (List.getElem?_eq_some_iff.mp h).1]; exact h)⟩ hS2 hl
theorem g_newB {n : Int32} {N : Nat} {fr lo mc ms a2 b2 : Nat} (C : GC X cc nL own ret) (hR : GR X fr lo mc ms) (hdg : decode cc pc = .ok (.newarray .byte, 2)) (hw : Cond.arrayClass .byte ∈ TBL) (hn : ¬ n < 0) (hN : n.toNatClampNeg = N) (hb : N * componentBytes .byte ≤ 536870912) (ha : a + 1 = a2) (hb2 : b + N = b2) (ha3 : a2 ≤ mc) (hb3 : b2 ≤ ms) (hz : pc + 2 = z) (k : ∀ q : Nat, G X a2 b2 (ws ++ [(q, .inl (gK X 2, N, .inl (fun _ => 0)))]) lv z (.ref q :: st)) : G X a b ws lv pc (.int n :: st) := fun H locs ls hP hD hS hl => by
  subst hz; subst ha; subst hb2
  refine va_newa (atype := .byte) C.1 C.2.1 (C.2.2.2.2.2.2.1 _ hw) (ty := .byte) rfl C.2.2.2.2.2.2.2.1 hP hD hS C.2.2.2.2.2.2.2.2.1 (a0 := (N, .inl (fun _ => 0))) (fun cA => rfl) hn hN hb (by rw [hR]; exact ha3) (by rw [hR]; exact hb3) hdg (fun q cA H1 hK2 hP2 hD2 hS2 => ?_)
  have e := cls_one (t := 2) C.2.2.2.2.2.2.2.1 hK2 rfl
  subst e
  exact k q H1 locs ls hP2 hD2 hS2 hl
theorem g_newBD {n : Int32} {N : Nat} {fr lo mc ms a2 b2 : Nat} (C : GC X cc nL own ret) (hR : GR X fr lo mc ms) (hdg : decode cc pc = .ok (.newarray .byte, 2)) (hw : Cond.arrayClass .byte ∈ TBL) (hn : ¬ n < 0) (hN : n.toNatClampNeg = N) (hb : N * componentBytes .byte ≤ 536870912) (ha : a + 1 = a2) (hb2 : b + N = b2) (ha3 : a2 ≤ mc) (hb3 : b2 ≤ ms) (hz : pc + 2 = z) (k : ∀ q : Nat, G X a2 b2 ws lv z (.ref q :: st)) : G X a b ws lv pc (.int n :: st) := fun H locs ls hP hD hS hl => by
  subst hz; subst ha; subst hb2
  refine va_newa (atype := .byte) C.1 C.2.1 (C.2.2.2.2.2.2.1 _ hw) (ty := .byte) rfl C.2.2.2.2.2.2.2.1 hP hD hS C.2.2.2.2.2.2.2.2.1 (a0 := (N, .inl (fun _ => 0))) (fun cA => rfl) hn hN hb (by rw [hR]; exact ha3) (by rw [hR]; exact hb3) hdg (fun q cA H1 hK2 hP2 hD2 hS2 => ?_)
  exact k q H1 locs ls (fun k q h => hP2 k q (by rw [List.getElem?_append_left (List.getElem?_eq_some_iff.mp h).1]; exact h)) ⟨fun i j p q hi hj => hD2.1 i j p q (by rw [List.getElem?_append_left (List.getElem?_eq_some_iff.mp hi).1]; exact hi) (by rw [List.getElem?_append_left (List.getElem?_eq_some_iff.mp hj).1]; exact hj), fun k q h => hD2.2 k q (by rw [List.getElem?_append_left (List.getElem?_eq_some_iff.mp h).1]; exact h)⟩ hS2 hl
theorem g_newZ {n : Int32} {N : Nat} {fr lo mc ms a2 b2 : Nat} (C : GC X cc nL own ret) (hR : GR X fr lo mc ms) (hdg : decode cc pc = .ok (.newarray .boolean, 2)) (hw : Cond.arrayClass .boolean ∈ TBL) (hn : ¬ n < 0) (hN : n.toNatClampNeg = N) (hb : N * componentBytes .boolean ≤ 536870912) (ha : a + 1 = a2) (hb2 : b + N = b2) (ha3 : a2 ≤ mc) (hb3 : b2 ≤ ms) (hz : pc + 2 = z) (k : ∀ q : Nat, G X a2 b2 (ws ++ [(q, .inl (gK X 3, N, .inl (fun _ => 0)))]) lv z (.ref q :: st)) : G X a b ws lv pc (.int n :: st) := fun H locs ls hP hD hS hl => by
  subst hz; subst ha; subst hb2
  refine va_newa (atype := .boolean) C.1 C.2.1 (C.2.2.2.2.2.2.1 _ hw) (ty := .boolean) rfl C.2.2.2.2.2.2.2.1 hP hD hS C.2.2.2.2.2.2.2.2.1 (a0 := (N, .inl (fun _ => 0))) (fun cA => rfl) hn hN hb (by rw [hR]; exact ha3) (by rw [hR]; exact hb3) hdg (fun q cA H1 hK2 hP2 hD2 hS2 => ?_)
  have e := cls_one (t := 3) C.2.2.2.2.2.2.2.1 hK2 rfl
  subst e
  exact k q H1 locs ls hP2 hD2 hS2 hl
theorem g_newZD {n : Int32} {N : Nat} {fr lo mc ms a2 b2 : Nat} (C : GC X cc nL own ret) (hR : GR X fr lo mc ms) (hdg : decode cc pc = .ok (.newarray .boolean, 2)) (hw : Cond.arrayClass .boolean ∈ TBL) (hn : ¬ n < 0) (hN : n.toNatClampNeg = N) (hb : N * componentBytes .boolean ≤ 536870912) (ha : a + 1 = a2) (hb2 : b + N = b2) (ha3 : a2 ≤ mc) (hb3 : b2 ≤ ms) (hz : pc + 2 = z) (k : ∀ q : Nat, G X a2 b2 ws lv z (.ref q :: st)) : G X a b ws lv pc (.int n :: st) := fun H locs ls hP hD hS hl => by
  subst hz; subst ha; subst hb2
  refine va_newa (atype := .boolean) C.1 C.2.1 (C.2.2.2.2.2.2.1 _ hw) (ty := .boolean) rfl C.2.2.2.2.2.2.2.1 hP hD hS C.2.2.2.2.2.2.2.2.1 (a0 := (N, .inl (fun _ => 0))) (fun cA => rfl) hn hN hb (by rw [hR]; exact ha3) (by rw [hR]; exact hb3) hdg (fun q cA H1 hK2 hP2 hD2 hS2 => ?_)
  exact k q H1 locs ls (fun k q h => hP2 k q (by rw [List.getElem?_append_left (List.getElem?_eq_some_iff.mp h).1]; exact h)) ⟨fun i j p q hi hj => hD2.1 i j p q (by rw [List.getElem?_append_left (List.getElem?_eq_some_iff.mp hi).1]; exact hi) (by rw [List.getElem?_append_left (List.getElem?_eq_some_iff.mp hj).1]; exact hj), fun k q h => hD2.2 k q (by rw [List.getElem?_append_left (List.getElem?_eq_some_iff.mp h).1]; exact h)⟩ hS2 hl
theorem g_newqD {n : Int32} {N index : Nat} {Cn : String} {fr lo mc ms a2 b2 : Nat} (C : GC X cc nL own ret) (hR : GR X fr lo mc ms) (hdg : decode cc pc = .ok (.anewarray index, 3)) (hw : Cond.classLink own index Cn ∈ TBL) (hAO : Cn ∈ AOS) (hn : ¬ n < 0) (hN : n.toNatClampNeg = N) (hb : N * 4 ≤ 536870912) (ha : a + 1 = a2) (hb2 : b + N = b2) (ha3 : a2 ≤ mc) (hb3 : b2 ≤ ms) (hz : pc + 3 = z) (k : ∀ q : Nat, G X a2 b2 ws lv z (.ref q :: st)) : G X a b ws lv pc (.int n :: st) := fun H locs ls hP hD hS hl => by
  subst hz; subst ha; subst hb2
  refine va_newq C.1 C.2.1 C.2.2.2.2.2.1 (C.2.2.2.2.2.2.1 _ hw) (C.2.2.2.2.2.2.2.2.2.2.2.1 _ hAO) C.2.2.2.2.2.2.2.1 hP hD hS C.2.2.2.2.2.2.2.2.1 hn hN hb (by rw [hR]; exact ha3) (by rw [hR]; exact hb3) hdg (fun q cA H1 hK2 hP2 hD2 hS2 => ?_)
  exact k q H1 locs ls (fun k q h => hP2 k q (by rw [List.getElem?_append_left (List.getElem?_eq_some_iff.mp h).1]; exact h)) ⟨fun i j p q hi hj => hD2.1 i j p q (by rw [List.getElem?_append_left (List.getElem?_eq_some_iff.mp hi).1]; exact hi) (by rw [List.getElem?_append_left (List.getElem?_eq_some_iff.mp hj).1]; exact hj), fun k q h => hD2.2 k q (by rw [List.getElem?_append_left (List.getElem?_eq_some_iff.mp h).1]; exact h)⟩ hS2 hl
theorem g_newqS {n : Int32} {N index : Nat} {Cn : String} {fr lo mc ms a2 b2 : Nat} (C : GC X cc nL own ret) (hR : GR X fr lo mc ms) (hdg : decode cc pc = .ok (.anewarray index, 3)) (hw : Cond.classLink own index Cn ∈ TBL) (hAO : Cn ∈ AOS) (hn : ¬ n < 0) (hN : n.toNatClampNeg = N) (hb : N * 4 ≤ 536870912) (ha : a + 1 = a2) (hb2 : b + N = b2) (ha3 : a2 ≤ mc) (hb3 : b2 ≤ ms) (hz : pc + 3 = z) (hS0 : Cn = "java/lang/String") (k : ∀ q : Nat, G X a2 b2 (ws ++ [(q, .inl (gK X 4, N, .inr (.inr (.inr (.inr (fun _ => none))))))]) lv z (.ref q :: st)) : G X a b ws lv pc (.int n :: st) := fun H locs ls hP hD hS hl => by
  subst hz; subst ha; subst hb2
  refine va_newq C.1 C.2.1 C.2.2.2.2.2.1 (C.2.2.2.2.2.2.1 _ hw) (C.2.2.2.2.2.2.2.2.2.2.2.1 _ hAO) C.2.2.2.2.2.2.2.1 hP hD hS C.2.2.2.2.2.2.2.2.1 hn hN hb (by rw [hR]; exact ha3) (by rw [hR]; exact hb3) hdg (fun q cA H1 hK2 hP2 hD2 hS2 => ?_)
  subst hS0
  have e := cls_one (t := 4) C.2.2.2.2.2.2.2.1 hK2 rfl
  subst e
  exact k q H1 locs ls hP2 hD2 hS2 hl
theorem g_new {ci N index : Nat} {Cn : String} {T : u_T} {ty0 : Nat → FieldType} {fs : List Value} {fr lo mc ms a2 b2 : Nat} (C : GC X cc nL own ret) (hR : GR X fr lo mc ms) (Y : GCL ci Cn T N ty0) (hdg : decode cc pc = .ok (.new index, 3)) (hw : Cond.classLink own index Cn ∈ TBL) (hi : Cond.instantiable Cn N ∈ TBL) (hini : Cond.initialized Cn ∈ TBL) (hfs : fs = (List.range N).map (fun j => defaultValue (ty0 j))) (ha : a + 1 = a2) (hb2 : b + N = b2) (ha3 : a2 ≤ mc) (hb3 : b2 ≤ ms) (hz : pc + 3 = z) (k : ∀ q : Nat, G X a2 b2 (ws ++ [(q, .inr (ci, fs))]) lv z (.ref q :: st)) : G X a b ws lv pc st := fun H locs ls hP hD hS hl => by
  subst hz; subst ha; subst hb2
  refine va_new C.1 C.2.1 C.2.2.2.2.2.2.1 Y.2.1 ty0 Y.2.2.1 C.2.2.2.2.2.1 (C.2.2.2.2.2.2.1 _ hw) (C.2.2.2.2.2.2.1 _ hi) (C.2.2.2.2.2.2.1 _ hini) C.2.2.2.2.2.2.2.1 hP hD hS C.2.2.2.2.2.2.2.2.1 Y.1 (fs := fs) (fun j hj => ?_) (by rw [hR]; exact ha3) (by rw [hR]; exact hb3) hdg (fun q H1 hP hD hS => k q H1 locs ls hP hD hS hl)
  rw [hfs]
  simp [vp_V, hj]
theorem g_alen {o n : Nat} {cA : ClassId} {x} {ty : FieldType} {v : Int32} (C : GC X cc nL own ret) (hdg : decode cc pc = .ok (.arraylength, 1)) (j : Nat) (he : ws[j]? = some (o, .inl (cA, n, x))) (t : Nat) (ht : (TYS (gK X))[t]? = some (cA, ty)) (hv : Int32.ofNat n = v) (hz : pc + 1 = z) (k : G X a b ws lv z (.int v :: st)) : G X a b ws lv pc (.ref o :: st) := fun H locs ls hP hD hS hl => by
  subst hz
  exact va_alen C.1 C.2.1 C.2.2.2.2.2.2.2.1 hP j t he ht hv hdg (k H locs ls hP hD hS hl)
theorem g_iald {o n : Nat} {f : Nat → Int32} {i : Int32} {v : Int32} (C : GC X cc nL own ret) (hdg : decode cc pc = .ok (.iaload, 1)) (j : Nat) (he : ws[j]? = some (o, .inl (gK X 0, n, .inl f))) (hin : vp_in i n) (hv : f i.toNatClampNeg = v) (hz : pc + 1 = z) (k : G X a b ws lv z (.int v :: st)) : G X a b ws lv pc (.int i :: .ref o :: st) := fun H locs ls hP hD hS hl => by
  subst hz; subst hv
  exact va_iald C.1 C.2.1 C.2.2.2.2.2.2.2.1 hP j 0 he rfl hin hdg (k H locs ls hP hD hS hl)
theorem g_bald {o n : Nat} {f : Nat → Int32} {i : Int32} {v : Int32} (C : GC X cc nL own ret) (hdg : decode cc pc = .ok (.baload, 1)) (j : Nat) (he : ws[j]? = some (o, .inl (gK X 2, n, .inl f))) (hin : vp_in i n) (hv : f i.toNatClampNeg = v) (hz : pc + 1 = z) (k : G X a b ws lv z (.int v :: st)) : G X a b ws lv pc (.int i :: .ref o :: st) := fun H locs ls hP hD hS hl => by
  subst hz; subst hv
  exact va_bald C.1 C.2.1 C.2.2.2.2.2.2.2.1 hP j 2 he rfl hin hdg (k H locs ls hP hD hS hl)
theorem g_zald {o n : Nat} {f : Nat → Int32} {i : Int32} {v : Int32} (C : GC X cc nL own ret) (hdg : decode cc pc = .ok (.baload, 1)) (j : Nat) (he : ws[j]? = some (o, .inl (gK X 3, n, .inl f))) (hin : vp_in i n) (hv : f i.toNatClampNeg = v) (hz : pc + 1 = z) (k : G X a b ws lv z (.int v :: st)) : G X a b ws lv pc (.int i :: .ref o :: st) := fun H locs ls hP hD hS hl => by
  subst hz; subst hv
  exact va_zald C.1 C.2.1 C.2.2.2.2.2.2.2.1 hP j 3 he rfl hin hdg (k H locs ls hP hD hS hl)
theorem g_lald {o n : Nat} {f : Nat → Int64} {i : Int32} {v : Int64} (C : GC X cc nL own ret) (hdg : decode cc pc = .ok (.laload, 1)) (j : Nat) (he : ws[j]? = some (o, .inl (gK X 1, n, .inr (.inl f)))) (hin : vp_in i n) (hv : f i.toNatClampNeg = v) (hz : pc + 1 = z) (k : G X a b ws lv z (.long v :: st)) : G X a b ws lv pc (.int i :: .ref o :: st) := fun H locs ls hP hD hS hl => by
  subst hz; subst hv
  exact va_lald C.1 C.2.1 C.2.2.2.2.2.2.2.1 hP j 1 he rfl hin hdg (k H locs ls hP hD hS hl)
theorem g_iast {o n : Nat} {f : Nat → Int32} {i : Int32} {x : Int32} {w2 : va_W} (C : GC X cc nL own ret) (hdg : decode cc pc = .ok (.iastore, 1)) (j : Nat) (he : ws[j]? = some (o, .inl (gK X 0, n, .inl f))) (hin : vp_in i n) (h2 : ws.set j (o, .inl (gK X 0, n, .inl (upd f i.toNatClampNeg x))) = w2) (hz : pc + 1 = z) (k : G X a b w2 lv z st) : G X a b ws lv pc (.int x :: .int i :: .ref o :: st) := fun H locs ls hP hD hS hl => by
  subst hz; subst h2
  exact va_iast C.1 C.2.1 C.2.2.2.2.2.2.2.1 hP hD hS j 0 he rfl hin hdg (fun H locs hP hD hS => k H locs ls hP hD hS hl)
theorem g_bast {o n : Nat} {f : Nat → Int32} {i : Int32} {x : Int32} {w2 : va_W} (C : GC X cc nL own ret) (hdg : decode cc pc = .ok (.bastore, 1)) (j : Nat) (he : ws[j]? = some (o, .inl (gK X 2, n, .inl f))) (hin : vp_in i n) (h2 : ws.set j (o, .inl (gK X 2, n, .inl (upd f i.toNatClampNeg (vp_nar .byte x)))) = w2) (hz : pc + 1 = z) (k : G X a b w2 lv z st) : G X a b ws lv pc (.int x :: .int i :: .ref o :: st) := fun H locs ls hP hD hS hl => by
  subst hz; subst h2
  exact va_bast C.1 C.2.1 C.2.2.2.2.2.2.2.1 hP hD hS j 2 he rfl hin hdg (fun H locs hP hD hS => k H locs ls hP hD hS hl)
theorem g_last {o n : Nat} {f : Nat → Int64} {i : Int32} {x : Int64} {w2 : va_W} (C : GC X cc nL own ret) (hdg : decode cc pc = .ok (.lastore, 1)) (j : Nat) (he : ws[j]? = some (o, .inl (gK X 1, n, .inr (.inl f)))) (hin : vp_in i n) (h2 : ws.set j (o, .inl (gK X 1, n, .inr (.inl (vp_updL f i.toNatClampNeg x)))) = w2) (hz : pc + 1 = z) (k : G X a b w2 lv z st) : G X a b ws lv pc (.long x :: .int i :: .ref o :: st) := fun H locs ls hP hD hS hl => by
  subst hz; subst h2
  exact va_last C.1 C.2.1 C.2.2.2.2.2.2.2.1 hP hD hS j 1 he rfl hin hdg (fun H locs hP hD hS => k H locs ls hP hD hS hl)
theorem g_aast {o n v : Nat} {f : Nat → Option Nat} {i : Int32} {w2 : va_W} (C : GC X cc nL own ret) (hdg : decode cc pc = .ok (.aastore, 1)) (j : Nat) (he : ws[j]? = some (o, .inl (gK X 4, n, .inr (.inr (.inr (.inr f)))))) (hr : ∀ H locs, va_P (gD X) CL ws H → va_S (gA X) (gs X).heap H locs → va_Any "java/lang/String" (gs X) H v) (hin : vp_in i n) (h2 : ws.set j (o, .inl (gK X 4, n, .inr (.inr (.inr (.inr (va_up f i.toNatClampNeg (some v))))))) = w2) (hz : pc + 1 = z) (k : G X a b w2 lv z st) : G X a b ws lv pc (.ref v :: .int i :: .ref o :: st) := fun H locs ls hP hD hS hl => by
  subst hz; subst h2
  exact va_astqM C.1 C.2.1 C.2.2.2.2.2.2.2.1 hP hD hS j 4 he rfl (hr H locs hP hS) hin hdg (fun H locs hP hD hS => k H locs ls hP hD hS hl)
theorem g_aald {o n : Nat} {f : Nat → Option Nat} {i : Int32} {v : Value} (C : GC X cc nL own ret) (hdg : decode cc pc = .ok (.aaload, 1)) (j : Nat) (he : ws[j]? = some (o, .inl (gK X 4, n, .inr (.inr (.inr (.inr f)))))) (hin : vp_in i n) (hv : va_rf (f i.toNatClampNeg) = v) (hz : pc + 1 = z) (k : G X a b ws lv z (v :: st)) : G X a b ws lv pc (.int i :: .ref o :: st) := fun H locs ls hP hD hS hl => by
  subst hz; subst hv
  exact va_aldq C.1 C.2.1 C.2.2.2.2.2.2.2.1 hP j 4 he rfl hin hdg (k H locs ls hP hD hS hl)
/-- ends -/
theorem g_vret {w0 : va_W} {mc ms : Nat} {Post : Option Value → va_W → Prop} (C : GC X cc nL own none) (hQ : GQ X w0 mc ms Post) (hdg : decode cc pc = .ok (.return_, 1)) (ha : a ≤ mc) (hb : b ≤ ms) (hp : Post none ws) : G X a b ws lv pc [] := fun H locs ls hP hD hS hl => by
  refine W.widen ha hb ?_
  rw [show gQ X = _ from hQ.1]
  rw [hQ.2] at hD hS
  exact W.vret C.1 C.2.1 C.2.2.1 (fun t ht hW => ⟨⟨none, ws, rfl, hp, by rw [ht]; exact hP, hD⟩, hS.F ht⟩) hS.2.2 hdg C.2.2.2.2.2.2.2.2.2.1
theorem g_iret {w0 : va_W} {mc ms : Nat} {v : Int32} {ty : FieldType} {Post : Option Value → va_W → Prop} (C : GC X cc nL own (some ty)) (hQ : GQ X w0 mc ms Post) (hdg : decode cc pc = .ok (.ireturn, 1)) (hn : narrow ty (.int v) = .int v) (ha : a ≤ mc) (hb : b ≤ ms) (hp : Post (some (.int v)) ws) : G X a b ws lv pc [.int v] := fun H locs ls hP hD hS hl => by
  refine W.widen ha hb ?_
  rw [show gQ X = _ from hQ.1]
  rw [hQ.2] at hD hS
  exact W.zret C.1 C.2.1 C.2.2.1 hn (fun t ht hW => ⟨⟨_, ws, rfl, hp, by rw [ht]; exact hP, hD⟩, hS.F ht⟩) hS.2.2 hdg C.2.2.2.2.2.2.2.2.2.1
theorem g_lret {w0 : va_W} {mc ms : Nat} {v : Int64} {Post : Option Value → va_W → Prop} (C : GC X cc nL own (some .long)) (hQ : GQ X w0 mc ms Post) (hdg : decode cc pc = .ok (.lreturn, 1)) (ha : a ≤ mc) (hb : b ≤ ms) (hp : Post (some (.long v)) ws) : G X a b ws lv pc [.long v] := fun H locs ls hP hD hS hl => by
  refine W.widen ha hb ?_
  rw [show gQ X = _ from hQ.1]
  rw [hQ.2] at hD hS
  exact W.lret C.1 C.2.1 C.2.2.1 (fun t ht hW => ⟨⟨_, ws, rfl, hp, by rw [ht]; exact hP, hD⟩, hS.F ht⟩) hS.2.2 hdg C.2.2.2.2.2.2.2.2.2.1
theorem g_aret {w0 : va_W} {mc ms : Nat} {v : Value} {rt : FieldType} {Post : Option Value → va_W → Prop} (C : GC X cc nL own (some rt)) (hQ : GQ X w0 mc ms Post) (hdg : decode cc pc = .ok (.areturn, 1)) (hrt : (∃ n, rt = .object n) ∨ ∃ t, rt = .array t) (hv : v = .null ∨ ∃ a, v = .ref a) (ha : a ≤ mc) (hb : b ≤ ms) (hp : Post (some v) ws) : G X a b ws lv pc [v] := fun H locs ls hP hD hS hl => by
  refine W.widen ha hb ?_
  rw [show gQ X = _ from hQ.1]
  rw [hQ.2] at hD hS
  exact W.aret C.1 C.2.1 C.2.2.1 hrt hv (fun t ht hW => ⟨⟨_, ws, rfl, hp, by rw [ht]; exact hP, hD⟩, hS.F ht⟩) hS.2.2 hdg C.2.2.2.2.2.2.2.2.2.1
/-- calls: the callee's cells by their places isC, the others by isR -/
theorem g_back {ar : Array Value} {wc wr : va_W} {isC isR : List Nat} {mc ms a2 b2 : Nat} {Post : Option Value → va_W → Prop} {rest : List Value} (C : GC X cc nL own ret) (hC : isC.map (fun i => ws[i]?) = wc.map some) (hRr : isR.map (fun i => ws[i]?) = wr.map some) (hn2 : va_nd isR = true) (hdis : ∀ i ∈ isR, i ∉ isC) {H : Heap} {locs : List Loc} {ls : Array Slot} (hP : va_P (gD X) CL ws H) (hD : va_D (gA X) ws) (hS : va_S (gA X) (gs X).heap H locs) (hl : lv_has ls (gn X) lv)
    (hr : va_Run (gp X) (gl X) (ge X) (gR X) (gs X) (gm X) (ga X) (gb X) (gt X) (gc X) H locs a b mc ms (F0 (gm X) pc ls st) rest (WPost (gD X) wc H.size Post ar) (va_A wc H.size)) (ha : a + mc = a2) (hb : b + ms = b2) (hz : pc + 3 = z)
    (kk : ∀ (v : Option Value) (ws' : va_W), Post v ws' → G X a2 b2 (wr ++ ws') lv z (v.toList ++ rest)) : W (gp X) (gl X) (ge X) (gR X) (gs X) (gm X) (ga X) (gb X) (gt X) (gc X) H locs a b (gQ X) (F0 (gm X) pc ls st) := by
  subst hz; subst ha; subst hb
  have hF := va_free hD hS C.2.2.2.2.2.2.2.2.1 isC hC
  intro T hT Y
  obtain ⟨v, st₀, t, T', L, h0, Y', hL, e1, e2, ⟨⟨v', ws', hv, hp, hP1, hD1⟩, hz, hk⟩, stp⟩ := hr T hT Y
  cases hv
  rw [h0] at hz hk
  rw [← e1] at hP1
  obtain ⟨hP2, hD2⟩ := va_join hP hD isC isR hC hRr hn2 hdis (fun q h1 h2 => by rw [e1]; exact hk q h1 h2) hF hP1 hD1
  have hS2 : va_S (gA X) (gs X).heap T'.heap (locs ++ L) := ⟨Nat.le_trans hS.1 (by rw [e1]; exact hz), fun q h1 h2 => by
    rw [e1, hk q (Nat.lt_of_lt_of_le h1 hS.1) (fun w => h2 (hF q w))]
    exact hS.2.1 q h1 h2, fun q hq => by
    rcases List.mem_append.mp hq with h | h
    · exact hS.2.2 q h
    · exact hF _ (hL q h)⟩
  obtain ⟨t2, a1, b1⟩ := kk v ws' hp T'.heap (locs ++ L) ls hP2 hD2 hS2 hl T' rfl Y'
  exact ⟨t2, stp t2 a1, b1⟩
theorem con_pre {wc : va_W} {isC : List Nat} {av : List Value} (C : GC X cc nL own ret) (hn : va_nd isC = true) (hC : isC.map (fun i => ws[i]?) = wc.map some) (hCf : isC.filterMap (fun i => ws[i]?) = wc) {H : Heap} {locs : List Loc} (hP : va_P (gD X) CL ws H) (hD : va_D (gA X) ws) (hS : va_S (gA X) (gs X).heap H locs) : PreS (gs X) H (va_Pc av (WPre (gD X) (gK X) wc H.size)) av := by
  have hF := va_free hD hS C.2.2.2.2.2.2.2.2.1 isC hC
  refine ⟨fun a U g mk q => ?_, fun U hU hW => ⟨rfl, by rw [hU], by rw [hU]; exact hP.sub isC hCf, va_K.moved hW.alike C.2.2.2.2.2.2.2.1, (hD.sub isC hn hC).weaken (fun _ _ _ _ => trivial), C.2.2.2.2.2.2.2.2.2.2.to hW hS hU hF⟩⟩
  obtain ⟨q0, q1, qP, qK, qD, qE⟩ := q
  exact ⟨q0, q1, qP, va_K.moved (u := U) (U := U.calling g mk a) (Vm.Alike.refl U.vm) qK, qD, qE.same rfl⟩
theorem con_good {y : MethodName} {cy : ByteArray} {nLy : Nat} {rety : Option FieldType} (h : Cond.code y cy nLy rety ∈ TBL) : GoodIn TBL (Cond.code y cy nLy rety :: TBL) := fun w hw => by
  rcases List.mem_cons.mp hw with e | e
  · subst e
    exact ⟨h, tbl_ok _ h⟩
  · exact ⟨e, tbl_ok _ e⟩
theorem g_callV {Cn0 : String} {y : MethodName} {cy : ByteArray} {nLy index n : Nat} {rety : Option FieldType} {fr lo mc ms fr0 lo0 mc0 ms0 a2 b2 : Nat} {av As rest : List Value} {wc wr : va_W} {Post : Option Value → va_W → Prop}  (C : GC X cc nL own ret) (hR : GR X fr0 lo0 mc0 ms0) (hM : Con (gl X) (gD X) (gK X) y cy nLy rety fr lo mc ms av wc Post) (hdg : decode cc pc = .ok (.invokevirtual index, 3)) (hlk : Cond.methodLink own index y ∈ TBL) (hin : Cond.instanceMethod y ∈ TBL) (hse : Cond.selects Cn0 y y ∈ TBL) (hcd : Cond.code y cy nLy rety ∈ TBL) (hini : Cond.initialized y.cls ∈ TBL) (hd : y.cls ≠ "java/lang/invoke/MethodHandle" ∧ y.cls ≠ "java/lang/invoke/VarHandle" ∧ (parseMethodDescriptor y.desc).map (fun d => d.parameters.length) = some n) (isC isR : List Nat) (hn : va_nd isC = true) (hn2 : va_nd isR = true) (hC : isC.map (fun i => ws[i]?) = wc.map some) (hCf : isC.filterMap (fun i => ws[i]?) = wc) (hRr : isR.map (fun i => ws[i]?) = wr.map some) (hdis : ∀ i ∈ isR, i ∉ isC) (hroom : fr + 1 ≤ fr0 ∧ 8 + (nLy + 11) + lo ≤ lo0) (ha : a + mc = a2) (hb : b + ms = b2) (ha3 : a2 ≤ mc0) (hb3 : b2 ≤ ms0) (hcat : (rest.map fun v => v.category).sum ≤ 8) (hnp : As.length = n) (hz : pc + 3 = z) (j : Nat) {o ci N : Nat} {Cn : String} {T : u_T} {ty0 : Nat → FieldType} {fs : List Value} (Y : GCL ci Cn T N ty0) (he : ws[j]? = some (o, .inr (ci, fs))) (hsc : Cn0 = Cn) (hst : st = As.reverse ++ .ref o :: rest) (hav : av = .ref o :: As) (kk : ∀ (v : Option Value) (ws' : va_W), Post v ws' → G X a2 b2 (wr ++ ws') lv z (v.toList ++ rest)) : G X a b ws lv pc st := fun H locs ls hP hD hS hl => by
  subst hst; subst hav
  exact g_back C hC hRr hn2 hdis hP hD hS hl (va_runV (As := As) (rest := rest) ⟨C.1, C.2.1, C.2.2.2.1, C.2.2.2.2.2.1, C.2.2.2.2.2.2.1⟩ (hM H.size) ⟨callB_of n C.2.2.2.2.2.2.1 (con_good hcd) rfl rfl rfl (C.2.2.2.2.2.2.1 _ hini) (C.2.2.2.2.2.2.1 _ hlk) hd ⟨by rw [hR]; exact hroom.1, by rw [hR]; exact hroom.2⟩, C.2.2.2.2.2.2.1 _ hin, C.2.2.2.2.2.2.1 _ (hsc ▸ hse)⟩ ⟨(con_pre C hn hC hCf hP hD hS).1, va_recv C.2.2.2.2.2.2.2.1 hP Y.1 he, (con_pre C hn hC hCf hP hD hS).2⟩ rfl hnp (hl.1.trans C.2.2.2.2.1) rfl (lv_room hcat) hdg ⟨by rw [hR, ha]; exact ha3, by rw [hR, hb]; exact hb3⟩) ha hb hz kk
theorem g_callVN {Cn0 : String} {y : MethodName} {cy : ByteArray} {nLy index n : Nat} {rety : Option FieldType} {fr lo mc ms fr0 lo0 mc0 ms0 a2 b2 : Nat} {av As rest : List Value} {wc wr : va_W} {Post : Option Value → va_W → Prop} {host : String} (C : GC X cc nL own ret) (hR : GR X fr0 lo0 mc0 ms0) (hM : Con (gl X) (gD X) (gK X) y cy nLy rety fr lo mc ms av wc Post) (hdg : decode cc pc = .ok (.invokevirtual index, 3)) (hlk : Cond.methodLinkNest own index y host ∈ NST) (hin : Cond.instanceMethod y ∈ TBL) (hse : Cond.selects Cn0 y y ∈ TBL) (hcd : Cond.code y cy nLy rety ∈ TBL) (hini : Cond.initialized y.cls ∈ TBL) (hd : y.cls ≠ "java/lang/invoke/MethodHandle" ∧ y.cls ≠ "java/lang/invoke/VarHandle" ∧ (parseMethodDescriptor y.desc).map (fun d => d.parameters.length) = some n) (isC isR : List Nat) (hn : va_nd isC = true) (hn2 : va_nd isR = true) (hC : isC.map (fun i => ws[i]?) = wc.map some) (hCf : isC.filterMap (fun i => ws[i]?) = wc) (hRr : isR.map (fun i => ws[i]?) = wr.map some) (hdis : ∀ i ∈ isR, i ∉ isC) (hroom : fr + 1 ≤ fr0 ∧ 8 + (nLy + 11) + lo ≤ lo0) (ha : a + mc = a2) (hb : b + ms = b2) (ha3 : a2 ≤ mc0) (hb3 : b2 ≤ ms0) (hcat : (rest.map fun v => v.category).sum ≤ 8) (hnp : As.length = n) (hz : pc + 3 = z) (j : Nat) {o ci N : Nat} {Cn : String} {T : u_T} {ty0 : Nat → FieldType} {fs : List Value} (Y : GCL ci Cn T N ty0) (he : ws[j]? = some (o, .inr (ci, fs))) (hsc : Cn0 = Cn) (hst : st = As.reverse ++ .ref o :: rest) (hav : av = .ref o :: As) (kk : ∀ (v : Option Value) (ws' : va_W), Post v ws' → G X a2 b2 (wr ++ ws') lv z (v.toList ++ rest)) : G X a b ws lv pc st := fun H locs ls hP hD hS hl => by
  subst hst; subst hav
  exact g_back C hC hRr hn2 hdis hP hD hS hl (va_runVN (As := As) (rest := rest) ⟨C.1, C.2.1, C.2.2.2.1, C.2.2.2.2.2.1, C.2.2.2.2.2.2.1⟩ (hM H.size) ⟨va_cnB n C.2.2.2.2.2.2.1 (con_good hcd) rfl rfl rfl (C.2.2.2.2.2.2.2.2.2.2.1 _ hlk) (C.2.2.2.2.2.2.1 _ hini) hd ⟨by rw [hR]; exact hroom.1, by rw [hR]; exact hroom.2⟩, C.2.2.2.2.2.2.1 _ hin, C.2.2.2.2.2.2.1 _ (hsc ▸ hse)⟩ ⟨(con_pre C hn hC hCf hP hD hS).1, va_recv C.2.2.2.2.2.2.2.1 hP Y.1 he, (con_pre C hn hC hCf hP hD hS).2⟩ rfl hnp (hl.1.trans C.2.2.2.2.1) rfl (lv_room hcat) hdg ⟨by rw [hR, ha]; exact ha3, by rw [hR, hb]; exact hb3⟩) ha hb hz kk
theorem g_callI {y : MethodName} {cy : ByteArray} {nLy index n : Nat}  {fr lo mc ms fr0 lo0 mc0 ms0 a2 b2 : Nat} {av As rest : List Value} {wc wr : va_W} {Post : Option Value → va_W → Prop}  (C : GC X cc nL own ret) (hR : GR X fr0 lo0 mc0 ms0) (hM : Con (gl X) (gD X) (gK X) y cy nLy none fr lo mc ms av wc Post) (hdg : decode cc pc = .ok (.invokespecial index, 3)) (hlk : Cond.methodLink own index y ∈ TBL) (hin : Cond.instanceMethod y ∈ TBL) (hy : y.name = "<init>") (hcd : Cond.code y cy nLy none ∈ TBL) (hini : Cond.initialized y.cls ∈ TBL) (hd : y.cls ≠ "java/lang/invoke/MethodHandle" ∧ y.cls ≠ "java/lang/invoke/VarHandle" ∧ (parseMethodDescriptor y.desc).map (fun d => d.parameters.length) = some n) (isC isR : List Nat) (hn : va_nd isC = true) (hn2 : va_nd isR = true) (hC : isC.map (fun i => ws[i]?) = wc.map some) (hCf : isC.filterMap (fun i => ws[i]?) = wc) (hRr : isR.map (fun i => ws[i]?) = wr.map some) (hdis : ∀ i ∈ isR, i ∉ isC) (hroom : fr + 1 ≤ fr0 ∧ 8 + (nLy + 11) + lo ≤ lo0) (ha : a + mc = a2) (hb : b + ms = b2) (ha3 : a2 ≤ mc0) (hb3 : b2 ≤ ms0) (hcat : (rest.map fun v => v.category).sum ≤ 8) (hnp : As.length = n) (hz : pc + 3 = z) {o : Nat} (hst : st = As.reverse ++ .ref o :: rest) (hav : av = .ref o :: As) (kk : ∀ (v : Option Value) (ws' : va_W), Post v ws' → G X a2 b2 (wr ++ ws') lv z (v.toList ++ rest)) : G X a b ws lv pc st := fun H locs ls hP hD hS hl => by
  subst hst; subst hav
  exact g_back C hC hRr hn2 hdis hP hD hS hl (va_runI (As := As) (rest := rest) ⟨C.1, C.2.1, C.2.2.2.1, C.2.2.2.2.2.1, C.2.2.2.2.2.2.1⟩ (hM H.size) ⟨callB_of n C.2.2.2.2.2.2.1 (con_good hcd) rfl rfl rfl (C.2.2.2.2.2.2.1 _ hini) (C.2.2.2.2.2.2.1 _ hlk) hd ⟨by rw [hR]; exact hroom.1, by rw [hR]; exact hroom.2⟩, hy, C.2.2.2.2.2.2.1 _ hin⟩ (con_pre C hn hC hCf hP hD hS) rfl hnp (hl.1.trans C.2.2.2.2.1) rfl (lv_room hcat) hdg ⟨by rw [hR, ha]; exact ha3, by rw [hR, hb]; exact hb3⟩) ha hb hz kk
theorem g_callIN {y : MethodName} {cy : ByteArray} {nLy index n : Nat}  {fr lo mc ms fr0 lo0 mc0 ms0 a2 b2 : Nat} {av As rest : List Value} {wc wr : va_W} {Post : Option Value → va_W → Prop} {host : String} (C : GC X cc nL own ret) (hR : GR X fr0 lo0 mc0 ms0) (hM : Con (gl X) (gD X) (gK X) y cy nLy none fr lo mc ms av wc Post) (hdg : decode cc pc = .ok (.invokespecial index, 3)) (hlk : Cond.methodLinkNest own index y host ∈ NST) (hin : Cond.instanceMethod y ∈ TBL) (hy : y.name = "<init>") (hcd : Cond.code y cy nLy none ∈ TBL) (hini : Cond.initialized y.cls ∈ TBL) (hd : y.cls ≠ "java/lang/invoke/MethodHandle" ∧ y.cls ≠ "java/lang/invoke/VarHandle" ∧ (parseMethodDescriptor y.desc).map (fun d => d.parameters.length) = some n) (isC isR : List Nat) (hn : va_nd isC = true) (hn2 : va_nd isR = true) (hC : isC.map (fun i => ws[i]?) = wc.map some) (hCf : isC.filterMap (fun i => ws[i]?) = wc) (hRr : isR.map (fun i => ws[i]?) = wr.map some) (hdis : ∀ i ∈ isR, i ∉ isC) (hroom : fr + 1 ≤ fr0 ∧ 8 + (nLy + 11) + lo ≤ lo0) (ha : a + mc = a2) (hb : b + ms = b2) (ha3 : a2 ≤ mc0) (hb3 : b2 ≤ ms0) (hcat : (rest.map fun v => v.category).sum ≤ 8) (hnp : As.length = n) (hz : pc + 3 = z) {o : Nat} (hst : st = As.reverse ++ .ref o :: rest) (hav : av = .ref o :: As) (kk : ∀ (v : Option Value) (ws' : va_W), Post v ws' → G X a2 b2 (wr ++ ws') lv z (v.toList ++ rest)) : G X a b ws lv pc st := fun H locs ls hP hD hS hl => by
  subst hst; subst hav
  exact g_back C hC hRr hn2 hdis hP hD hS hl (va_runIN (As := As) (rest := rest) ⟨C.1, C.2.1, C.2.2.2.1, C.2.2.2.2.2.1, C.2.2.2.2.2.2.1⟩ (hM H.size) ⟨va_cnB n C.2.2.2.2.2.2.1 (con_good hcd) rfl rfl rfl (C.2.2.2.2.2.2.2.2.2.2.1 _ hlk) (C.2.2.2.2.2.2.1 _ hini) hd ⟨by rw [hR]; exact hroom.1, by rw [hR]; exact hroom.2⟩, hy, C.2.2.2.2.2.2.1 _ hin⟩ (con_pre C hn hC hCf hP hD hS) rfl hnp (hl.1.trans C.2.2.2.2.1) rfl (lv_room hcat) hdg ⟨by rw [hR, ha]; exact ha3, by rw [hR, hb]; exact hb3⟩) ha hb hz kk
theorem g_callS {y : MethodName} {cy : ByteArray} {nLy index n : Nat} {rety : Option FieldType} {fr lo mc ms fr0 lo0 mc0 ms0 a2 b2 : Nat} {av As rest : List Value} {wc wr : va_W} {Post : Option Value → va_W → Prop}  (C : GC X cc nL own ret) (hR : GR X fr0 lo0 mc0 ms0) (hM : Con (gl X) (gD X) (gK X) y cy nLy rety fr lo mc ms av wc Post) (hdg : decode cc pc = .ok (.invokestatic index, 3)) (hlk : Cond.methodLink own index y ∈ TBL) (hstt : Cond.static y ∈ TBL) (hcd : Cond.code y cy nLy rety ∈ TBL) (hini : Cond.initialized y.cls ∈ TBL) (hd : y.cls ≠ "java/lang/invoke/MethodHandle" ∧ y.cls ≠ "java/lang/invoke/VarHandle" ∧ (parseMethodDescriptor y.desc).map (fun d => d.parameters.length) = some n) (isC isR : List Nat) (hn : va_nd isC = true) (hn2 : va_nd isR = true) (hC : isC.map (fun i => ws[i]?) = wc.map some) (hCf : isC.filterMap (fun i => ws[i]?) = wc) (hRr : isR.map (fun i => ws[i]?) = wr.map some) (hdis : ∀ i ∈ isR, i ∉ isC) (hroom : fr + 1 ≤ fr0 ∧ 8 + (nLy + 11) + lo ≤ lo0) (ha : a + mc = a2) (hb : b + ms = b2) (ha3 : a2 ≤ mc0) (hb3 : b2 ≤ ms0) (hcat : (rest.map fun v => v.category).sum ≤ 8) (hnp : As.length = n) (hz : pc + 3 = z) (hst : st = As.reverse ++ rest) (hav : As = av) (kk : ∀ (v : Option Value) (ws' : va_W), Post v ws' → G X a2 b2 (wr ++ ws') lv z (v.toList ++ rest)) : G X a b ws lv pc st := fun H locs ls hP hD hS hl => by
  subst hst; subst hav
  exact g_back C hC hRr hn2 hdis hP hD hS hl (va_runS (As := As) (rest := rest) ⟨C.1, C.2.1, C.2.2.2.1, C.2.2.2.2.2.1, C.2.2.2.2.2.2.1⟩ (hM H.size) ⟨callB_of n C.2.2.2.2.2.2.1 (con_good hcd) rfl rfl rfl (C.2.2.2.2.2.2.1 _ hini) (C.2.2.2.2.2.2.1 _ hlk) hd ⟨by rw [hR]; exact hroom.1, by rw [hR]; exact hroom.2⟩, C.2.2.2.2.2.2.1 _ hstt⟩ (con_pre C hn hC hCf hP hD hS) rfl hnp (hl.1.trans C.2.2.2.2.1) rfl (lv_room hcat) hdg ⟨by rw [hR, ha]; exact ha3, by rw [hR, hb]; exact hb3⟩) ha hb hz kk
theorem evW (C : GC X cc nL own ret) : vk_R "LoanHouse$Reader" 9 txW (gK X 10) (gs X) := C.2.2.2.2.2.2.2.2.2.2.2.2.1
theorem evE (C : GC X cc nL own ret) : vk_R "LoanHouseModel" 208 "" (gK X 13) (gs X) := C.2.2.2.2.2.2.2.2.2.2.2.2.2.1
theorem evM (C : GC X cc nL own ret) : vk_R "LoanHouseModel" 816 "main" (gK X 14) (gs X) := C.2.2.2.2.2.2.2.2.2.2.2.2.2.2.1
theorem evC (C : GC X cc nL own ret) : va_Z "java/lang/String" "COMPACT_STRINGS" "Z" (.int 1) (gA X) (gs X) (gs X).heap := C.2.2.2.2.2.2.2.2.2.2.2.2.2.2.2.1
theorem evF (C : GC X cc nL own ret) : va_Zq "jdk/internal/util/Preconditions" "SIOOBE_FORMATTER" "Ljava/util/function/BiFunction;" (gA X) (gs X) (gs X).heap := C.2.2.2.2.2.2.2.2.2.2.2.2.2.2.2.2.1
theorem evD (C : GC X cc nL own ret) : va_Z "java/util/ArrayList" "DEFAULTCAPACITY_EMPTY_ELEMENTDATA" "[Ljava/lang/Object;" (.ref (gK X 12)) (gA X) (gs X) (gs X).heap := C.2.2.2.2.2.2.2.2.2.2.2.2.2.2.2.2.2.1
theorem evWo (C : GC X cc nL own ret) : va_O "java/lang/String" (gK X 10) (gA X) (gs X) (gs X).heap := C.2.2.2.2.2.2.2.2.2.2.2.2.2.2.2.2.2.2.1
theorem evWc (C : GC X cc nL own ret) : va_OF "java/lang/String" "coder" "B" (.int 0) (gK X 10) (gA X) (gs X) (gs X).heap := C.2.2.2.2.2.2.2.2.2.2.2.2.2.2.2.2.2.2.2.1
theorem evWv (C : GC X cc nL own ret) : va_OF "java/lang/String" "value" "[B" (.ref (gK X 11)) (gK X 10) (gA X) (gs X) (gs X).heap := C.2.2.2.2.2.2.2.2.2.2.2.2.2.2.2.2.2.2.2.2.1
theorem evWt (C : GC X cc nL own ret) : va_T .byte (gK X 11) 157 (fun j => .int (fW j)) (gA X) (gs X) (gs X).heap := C.2.2.2.2.2.2.2.2.2.2.2.2.2.2.2.2.2.2.2.2.2.1
theorem evEo (C : GC X cc nL own ret) : va_O "java/lang/String" (gK X 13) (gA X) (gs X) (gs X).heap := C.2.2.2.2.2.2.2.2.2.2.2.2.2.2.2.2.2.2.2.2.2.2.1
theorem evA (C : GC X cc nL own ret) : (Cond.arrayOver (.array .long)).before #[] (gs X) = true := C.2.2.2.2.2.2.2.2.2.2.2.2.2.2.2.2.2.2.2.2.2.2.2
theorem g_getE {index o : Nat} {on n d : String} {v : Value} (C : GC X cc nL own ret) (hdg : decode cc pc = .ok (.getfield index, 3)) (hE : va_OF on n d v o (gA X) (gs X) (gs X).heap) (hw : Cond.fieldLink own index on n d ∈ TBL) (hz : pc + 3 = z) (k : G X a b ws lv z (v :: st)) : G X a b ws lv pc (.ref o :: st) := fun H locs ls hP hD hS hl => by
  subst hz
  exact vk_getf C.1 C.2.1 hE hS C.2.2.2.2.2.1 (C.2.2.2.2.2.2.1 _ hw) (fun _ h => h) hdg (k H locs ls hP hD hS hl)
theorem g_tlen {o N : Nat} {ty : FieldType} {f : Nat → Value} {v : Int32} (C : GC X cc nL own ret) (hdg : decode cc pc = .ok (.arraylength, 1)) (hT : va_T ty o N f (gA X) (gs X) (gs X).heap) (hv : Int32.ofNat N = v) (hz : pc + 1 = z) (k : G X a b ws lv z (.int v :: st)) : G X a b ws lv pc (.ref o :: st) := fun H locs ls hP hD hS hl => by
  subst hz
  exact va_tlen C.1 C.2.1 hT hS hv hdg (k H locs ls hP hD hS hl)
theorem g_tb {o N : Nat} {f : Nat → Value} {i : Int32} {v : Value} (C : GC X cc nL own ret) (hdg : decode cc pc = .ok (.baload, 1)) (hT : va_T .byte o N f (gA X) (gs X) (gs X).heap) (hin : vp_in i N) (hv : f i.toNatClampNeg = v) (hz : pc + 1 = z) (k : G X a b ws lv z (v :: st)) : G X a b ws lv pc (.int i :: .ref o :: st) := fun H locs ls hP hD hS hl => by
  subst hz
  exact va_tb C.1 C.2.1 hT hS hin hv hdg (k H locs ls hP hD hS hl)
theorem g_callVE {Cn0 : String} {y : MethodName} {cy : ByteArray} {nLy index n : Nat} {rety : Option FieldType} {fr lo mc ms fr0 lo0 mc0 ms0 a2 b2 : Nat} {av As rest : List Value} {wc wr : va_W} {Post : Option Value → va_W → Prop}  (C : GC X cc nL own ret) (hR : GR X fr0 lo0 mc0 ms0) (hM : Con (gl X) (gD X) (gK X) y cy nLy rety fr lo mc ms av wc Post) (hdg : decode cc pc = .ok (.invokevirtual index, 3)) (hlk : Cond.methodLink own index y ∈ TBL) (hin : Cond.instanceMethod y ∈ TBL) (hse : Cond.selects Cn0 y y ∈ TBL) (hcd : Cond.code y cy nLy rety ∈ TBL) (hini : Cond.initialized y.cls ∈ TBL) (hd : y.cls ≠ "java/lang/invoke/MethodHandle" ∧ y.cls ≠ "java/lang/invoke/VarHandle" ∧ (parseMethodDescriptor y.desc).map (fun d => d.parameters.length) = some n) (isC isR : List Nat) (hn : va_nd isC = true) (hn2 : va_nd isR = true) (hC : isC.map (fun i => ws[i]?) = wc.map some) (hCf : isC.filterMap (fun i => ws[i]?) = wc) (hRr : isR.map (fun i => ws[i]?) = wr.map some) (hdis : ∀ i ∈ isR, i ∉ isC) (hroom : fr + 1 ≤ fr0 ∧ 8 + (nLy + 11) + lo ≤ lo0) (ha : a + mc = a2) (hb : b + ms = b2) (ha3 : a2 ≤ mc0) (hb3 : b2 ≤ ms0) (hcat : (rest.map fun v => v.category).sum ≤ 8) (hnp : As.length = n) (hz : pc + 3 = z) {o : Nat} {Cn : String} (hE : va_O Cn o (gA X) (gs X) (gs X).heap) (hsc : Cn0 = Cn) (hst : st = As.reverse ++ .ref o :: rest) (hav : av = .ref o :: As) (kk : ∀ (v : Option Value) (ws' : va_W), Post v ws' → G X a2 b2 (wr ++ ws') lv z (v.toList ++ rest)) : G X a b ws lv pc st := fun H locs ls hP hD hS hl => by
  subst hst; subst hav
  exact g_back C hC hRr hn2 hdis hP hD hS hl (va_runV (As := As) (rest := rest) ⟨C.1, C.2.1, C.2.2.2.1, C.2.2.2.2.2.1, C.2.2.2.2.2.2.1⟩ (hM H.size) ⟨callB_of n C.2.2.2.2.2.2.1 (con_good hcd) rfl rfl rfl (C.2.2.2.2.2.2.1 _ hini) (C.2.2.2.2.2.2.1 _ hlk) hd ⟨by rw [hR]; exact hroom.1, by rw [hR]; exact hroom.2⟩, C.2.2.2.2.2.2.1 _ hin, C.2.2.2.2.2.2.1 _ (hsc ▸ hse)⟩ ⟨(con_pre C hn hC hCf hP hD hS).1, (by obtain ⟨cell, h1, h2, h3, -⟩ := hE.kept hS.2.1; exact ⟨cell, h1, h2, h3⟩), (con_pre C hn hC hCf hP hD hS).2⟩ rfl hnp (hl.1.trans C.2.2.2.2.1) rfl (lv_room hcat) hdg ⟨by rw [hR, ha]; exact ha3, by rw [hR, hb]; exact hb3⟩) ha hb hz kk
end G2
theorem kX12 : GCL 0 "LoanHouse" TX12 17 tyX12 := ⟨rfl, inX12, tyX12_ok, nmX12⟩
theorem kX8 : GCL 1 "LoanHouse$Tree" TX8 12 tyX8 := ⟨rfl, inX8, tyX8_ok, nmX8⟩
theorem kX6 : GCL 2 "LoanHouse$Reader" TX6 18 tyX6 := ⟨rfl, inX6, tyX6_ok, nmX6⟩
theorem kX0 : GCL 3 "LoanHouse$Checker" TX0 11 tyX0 := ⟨rfl, inX0, tyX0_ok, nmX0⟩
theorem kX1 : GCL 4 "LoanHouse$Emitter" TX1 10 tyX1 := ⟨rfl, inX1, tyX1_ok, nmX1⟩
theorem kX11 : GCL 5 "LoanHouse$Ways" TX11 22 tyX11 := ⟨rfl, inX11, tyX11_ok, nmX11⟩
theorem kX3 : GCL 6 "LoanHouse$Machine" TX3 21 tyX3 := ⟨rfl, inX3, tyX3_ok, nmX3⟩
theorem kX7 : GCL 7 "LoanHouse$Store" TX7 19 tyX7 := ⟨rfl, inX7, tyX7_ok, nmX7⟩
theorem kX5 : GCL 8 "LoanHouse$Program" TX5 15 tyX5 := ⟨rfl, inX5, tyX5_ok, nmX5⟩
theorem kX9 : GCL 9 "LoanHouse$Types" TX9 19 tyX9 := ⟨rfl, inX9, tyX9_ok, nmX9⟩
theorem kX2 : GCL 10 "LoanHouse$Functions" TX2 19 tyX2 := ⟨rfl, inX2, tyX2_ok, nmX2⟩
theorem kX10 : GCL 11 "LoanHouse$Variables" TX10 12 tyX10 := ⟨rfl, inX10, tyX10_ok, nmX10⟩
theorem kX4 : GCL 12 "LoanHouse$Places" TX4 20 tyX4 := ⟨rfl, inX4, tyX4_ok, nmX4⟩
theorem kX30 : GCL 13 "LoanHouseModel" TX30 95 tyX30 := ⟨rfl, inX30, tyX30_ok, nmX30⟩
theorem kX26 : GCL 14 "LoanHouseModel$Type" TX26 3 tyX26 := ⟨rfl, inX26, tyX26_ok, nmX26⟩
theorem kX23 : GCL 15 "LoanHouseModel$Program" TX23 4 tyX23 := ⟨rfl, inX23, tyX23_ok, nmX23⟩
theorem kJ4 : GCL 16 "java/lang/StringBuilder" TJ4 4 tyJ4 := ⟨rfl, inJ4, tyJ4_ok, nmJ4⟩
theorem kJ0 : GCL 17 "java/lang/String" TJ0 4 tyJ0 := ⟨rfl, inJ0, tyJ0_ok, nmJ0⟩
theorem kJx4a65c : GCL 18 "java/util/ArrayList" TJx4a65c 3 tyJx4a65c := ⟨rfl, inJx4a65c, tyJx4a65c_ok, nmJx4a65c⟩
end
section
theorem dX0_init_0 : decode cX0_init 0 = .ok (.aload_n 0, 1) := by decide +kernel
theorem dX0_init_1 : decode cX0_init 1 = .ok (.invokespecial 3, 3) := by decide +kernel
theorem dX0_init_4 : decode cX0_init 4 = .ok (.aload_n 0, 1) := by decide +kernel
theorem dX0_init_5 : decode cX0_init 5 = .ok (.aload_n 1, 1) := by decide +kernel
theorem dX0_init_6 : decode cX0_init 6 = .ok (.putfield 9, 3) := by decide +kernel
theorem dX0_init_9 : decode cX0_init 9 = .ok (.return_, 1) := by decide +kernel
theorem dX10_init_0 : decode cX10_init 0 = .ok (.aload_n 0, 1) := by decide +kernel
theorem dX10_init_1 : decode cX10_init 1 = .ok (.invokespecial 3, 3) := by decide +kernel
theorem dX10_init_4 : decode cX10_init 4 = .ok (.aload_n 0, 1) := by decide +kernel
theorem dX10_init_5 : decode cX10_init 5 = .ok (.sipush 1504, 3) := by decide +kernel
theorem dX10_init_8 : decode cX10_init 8 = .ok (.newarray .int, 2) := by decide +kernel
theorem dX10_init_10 : decode cX10_init 10 = .ok (.putfield 9, 3) := by decide +kernel
theorem dX10_init_13 : decode cX10_init 13 = .ok (.aload_n 0, 1) := by decide +kernel
theorem dX10_init_14 : decode cX10_init 14 = .ok (.sipush 1504, 3) := by decide +kernel
theorem dX10_init_17 : decode cX10_init 17 = .ok (.newarray .int, 2) := by decide +kernel
theorem dX10_init_19 : decode cX10_init 19 = .ok (.putfield 15, 3) := by decide +kernel
theorem dX10_init_22 : decode cX10_init 22 = .ok (.aload_n 0, 1) := by decide +kernel
theorem dX10_init_23 : decode cX10_init 23 = .ok (.sipush 1504, 3) := by decide +kernel
theorem dX10_init_26 : decode cX10_init 26 = .ok (.newarray .int, 2) := by decide +kernel
theorem dX10_init_28 : decode cX10_init 28 = .ok (.putfield 18, 3) := by decide +kernel
theorem dX10_init_31 : decode cX10_init 31 = .ok (.aload_n 0, 1) := by decide +kernel
theorem dX10_init_32 : decode cX10_init 32 = .ok (.sipush 1504, 3) := by decide +kernel
theorem dX10_init_35 : decode cX10_init 35 = .ok (.newarray .int, 2) := by decide +kernel
theorem dX10_init_37 : decode cX10_init 37 = .ok (.putfield 21, 3) := by decide +kernel
theorem dX10_init_40 : decode cX10_init 40 = .ok (.aload_n 0, 1) := by decide +kernel
theorem dX10_init_41 : decode cX10_init 41 = .ok (.sipush 1504, 3) := by decide +kernel
theorem dX10_init_44 : decode cX10_init 44 = .ok (.newarray .int, 2) := by decide +kernel
theorem dX10_init_46 : decode cX10_init 46 = .ok (.putfield 24, 3) := by decide +kernel
theorem dX10_init_49 : decode cX10_init 49 = .ok (.aload_n 0, 1) := by decide +kernel
theorem dX10_init_50 : decode cX10_init 50 = .ok (.sipush 1504, 3) := by decide +kernel
theorem dX10_init_53 : decode cX10_init 53 = .ok (.newarray .int, 2) := by decide +kernel
theorem dX10_init_55 : decode cX10_init 55 = .ok (.putfield 27, 3) := by decide +kernel
theorem dX10_init_58 : decode cX10_init 58 = .ok (.aload_n 0, 1) := by decide +kernel
theorem dX10_init_59 : decode cX10_init 59 = .ok (.sipush 1504, 3) := by decide +kernel
theorem dX10_init_62 : decode cX10_init 62 = .ok (.newarray .int, 2) := by decide +kernel
theorem dX10_init_64 : decode cX10_init 64 = .ok (.putfield 30, 3) := by decide +kernel
theorem dX10_init_67 : decode cX10_init 67 = .ok (.aload_n 0, 1) := by decide +kernel
theorem dX10_init_68 : decode cX10_init 68 = .ok (.sipush 1504, 3) := by decide +kernel
theorem dX10_init_71 : decode cX10_init 71 = .ok (.newarray .long, 2) := by decide +kernel
theorem dX10_init_73 : decode cX10_init 73 = .ok (.putfield 33, 3) := by decide +kernel
theorem dX10_init_76 : decode cX10_init 76 = .ok (.aload_n 0, 1) := by decide +kernel
theorem dX10_init_77 : decode cX10_init 77 = .ok (.sipush 1800, 3) := by decide +kernel
theorem dX10_init_80 : decode cX10_init 80 = .ok (.newarray .int, 2) := by decide +kernel
theorem dX10_init_82 : decode cX10_init 82 = .ok (.putfield 37, 3) := by decide +kernel
theorem dX10_init_85 : decode cX10_init 85 = .ok (.aload_n 0, 1) := by decide +kernel
theorem dX10_init_86 : decode cX10_init 86 = .ok (.sipush 1800, 3) := by decide +kernel
theorem dX10_init_89 : decode cX10_init 89 = .ok (.newarray .int, 2) := by decide +kernel
theorem dX10_init_91 : decode cX10_init 91 = .ok (.putfield 40, 3) := by decide +kernel
theorem dX10_init_94 : decode cX10_init 94 = .ok (.return_, 1) := by decide +kernel
theorem dX11_init_0 : decode cX11_init 0 = .ok (.aload_n 0, 1) := by decide +kernel
theorem dX11_init_1 : decode cX11_init 1 = .ok (.invokespecial 5, 3) := by decide +kernel
theorem dX11_init_4 : decode cX11_init 4 = .ok (.aload_n 0, 1) := by decide +kernel
theorem dX11_init_5 : decode cX11_init 5 = .ok (.bipush 42, 2) := by decide +kernel
theorem dX11_init_7 : decode cX11_init 7 = .ok (.newarray .long, 2) := by decide +kernel
theorem dX11_init_9 : decode cX11_init 9 = .ok (.putfield 11, 3) := by decide +kernel
theorem dX11_init_12 : decode cX11_init 12 = .ok (.aload_n 0, 1) := by decide +kernel
theorem dX11_init_13 : decode cX11_init 13 = .ok (.sipush 2016, 3) := by decide +kernel
theorem dX11_init_16 : decode cX11_init 16 = .ok (.newarray .long, 2) := by decide +kernel
theorem dX11_init_18 : decode cX11_init 18 = .ok (.putfield 15, 3) := by decide +kernel
theorem dX11_init_21 : decode cX11_init 21 = .ok (.aload_n 0, 1) := by decide +kernel
theorem dX11_init_22 : decode cX11_init 22 = .ok (.bipush 48, 2) := by decide +kernel
theorem dX11_init_24 : decode cX11_init 24 = .ok (.newarray .boolean, 2) := by decide +kernel
theorem dX11_init_26 : decode cX11_init 26 = .ok (.putfield 18, 3) := by decide +kernel
theorem dX11_init_29 : decode cX11_init 29 = .ok (.aload_n 0, 1) := by decide +kernel
theorem dX11_init_30 : decode cX11_init 30 = .ok (.sipush 1504, 3) := by decide +kernel
theorem dX11_init_33 : decode cX11_init 33 = .ok (.newarray .long, 2) := by decide +kernel
theorem dX11_init_35 : decode cX11_init 35 = .ok (.putfield 22, 3) := by decide +kernel
theorem dX11_init_38 : decode cX11_init 38 = .ok (.aload_n 0, 1) := by decide +kernel
theorem dX11_init_39 : decode cX11_init 39 = .ok (.sipush 400, 3) := by decide +kernel
theorem dX11_init_42 : decode cX11_init 42 = .ok (.newarray .long, 2) := by decide +kernel
theorem dX11_init_44 : decode cX11_init 44 = .ok (.putfield 25, 3) := by decide +kernel
theorem dX11_init_47 : decode cX11_init 47 = .ok (.aload_n 0, 1) := by decide +kernel
theorem dX11_init_48 : decode cX11_init 48 = .ok (.sipush 3072, 3) := by decide +kernel
theorem dX11_init_51 : decode cX11_init 51 = .ok (.newarray .long, 2) := by decide +kernel
theorem dX11_init_53 : decode cX11_init 53 = .ok (.putfield 28, 3) := by decide +kernel
theorem dX11_init_56 : decode cX11_init 56 = .ok (.aload_n 0, 1) := by decide +kernel
theorem dX11_init_57 : decode cX11_init 57 = .ok (.sipush 3072, 3) := by decide +kernel
theorem dX11_init_60 : decode cX11_init 60 = .ok (.newarray .boolean, 2) := by decide +kernel
theorem dX11_init_62 : decode cX11_init 62 = .ok (.putfield 31, 3) := by decide +kernel
theorem dX11_init_65 : decode cX11_init 65 = .ok (.return_, 1) := by decide +kernel
theorem dX1_init_0 : decode cX1_init 0 = .ok (.aload_n 0, 1) := by decide +kernel
theorem dX1_init_1 : decode cX1_init 1 = .ok (.invokespecial 3, 3) := by decide +kernel
theorem dX1_init_4 : decode cX1_init 4 = .ok (.aload_n 0, 1) := by decide +kernel
theorem dX1_init_5 : decode cX1_init 5 = .ok (.aload_n 1, 1) := by decide +kernel
theorem dX1_init_6 : decode cX1_init 6 = .ok (.putfield 9, 3) := by decide +kernel
theorem dX1_init_9 : decode cX1_init 9 = .ok (.return_, 1) := by decide +kernel
theorem dX2_init_0 : decode cX2_init 0 = .ok (.aload_n 0, 1) := by decide +kernel
theorem dX2_init_1 : decode cX2_init 1 = .ok (.invokespecial 3, 3) := by decide +kernel
theorem dX2_init_4 : decode cX2_init 4 = .ok (.aload_n 0, 1) := by decide +kernel
theorem dX2_init_5 : decode cX2_init 5 = .ok (.sipush 380, 3) := by decide +kernel
theorem dX2_init_8 : decode cX2_init 8 = .ok (.newarray .int, 2) := by decide +kernel
theorem dX2_init_10 : decode cX2_init 10 = .ok (.putfield 9, 3) := by decide +kernel
theorem dX2_init_13 : decode cX2_init 13 = .ok (.aload_n 0, 1) := by decide +kernel
theorem dX2_init_14 : decode cX2_init 14 = .ok (.sipush 380, 3) := by decide +kernel
theorem dX2_init_17 : decode cX2_init 17 = .ok (.newarray .int, 2) := by decide +kernel
theorem dX2_init_19 : decode cX2_init 19 = .ok (.putfield 15, 3) := by decide +kernel
theorem dX2_init_22 : decode cX2_init 22 = .ok (.aload_n 0, 1) := by decide +kernel
theorem dX2_init_23 : decode cX2_init 23 = .ok (.sipush 380, 3) := by decide +kernel
theorem dX2_init_26 : decode cX2_init 26 = .ok (.newarray .int, 2) := by decide +kernel
theorem dX2_init_28 : decode cX2_init 28 = .ok (.putfield 18, 3) := by decide +kernel
theorem dX2_init_31 : decode cX2_init 31 = .ok (.aload_n 0, 1) := by decide +kernel
theorem dX2_init_32 : decode cX2_init 32 = .ok (.sipush 380, 3) := by decide +kernel
theorem dX2_init_35 : decode cX2_init 35 = .ok (.newarray .long, 2) := by decide +kernel
theorem dX2_init_37 : decode cX2_init 37 = .ok (.putfield 21, 3) := by decide +kernel
theorem dX2_init_40 : decode cX2_init 40 = .ok (.aload_n 0, 1) := by decide +kernel
theorem dX2_init_41 : decode cX2_init 41 = .ok (.sipush 380, 3) := by decide +kernel
theorem dX2_init_44 : decode cX2_init 44 = .ok (.newarray .int, 2) := by decide +kernel
theorem dX2_init_46 : decode cX2_init 46 = .ok (.putfield 25, 3) := by decide +kernel
theorem dX2_init_49 : decode cX2_init 49 = .ok (.aload_n 0, 1) := by decide +kernel
theorem dX2_init_50 : decode cX2_init 50 = .ok (.sipush 380, 3) := by decide +kernel
theorem dX2_init_53 : decode cX2_init 53 = .ok (.newarray .int, 2) := by decide +kernel
theorem dX2_init_55 : decode cX2_init 55 = .ok (.putfield 28, 3) := by decide +kernel
theorem dX2_init_58 : decode cX2_init 58 = .ok (.aload_n 0, 1) := by decide +kernel
theorem dX2_init_59 : decode cX2_init 59 = .ok (.sipush 1504, 3) := by decide +kernel
theorem dX2_init_62 : decode cX2_init 62 = .ok (.newarray .int, 2) := by decide +kernel
theorem dX2_init_64 : decode cX2_init 64 = .ok (.putfield 31, 3) := by decide +kernel
theorem dX2_init_67 : decode cX2_init 67 = .ok (.aload_n 0, 1) := by decide +kernel
theorem dX2_init_68 : decode cX2_init 68 = .ok (.sipush 380, 3) := by decide +kernel
theorem dX2_init_71 : decode cX2_init 71 = .ok (.newarray .int, 2) := by decide +kernel
theorem dX2_init_73 : decode cX2_init 73 = .ok (.putfield 34, 3) := by decide +kernel
theorem dX2_init_76 : decode cX2_init 76 = .ok (.aload_n 0, 1) := by decide +kernel
theorem dX2_init_77 : decode cX2_init 77 = .ok (.sipush 380, 3) := by decide +kernel
theorem dX2_init_80 : decode cX2_init 80 = .ok (.newarray .int, 2) := by decide +kernel
theorem dX2_init_82 : decode cX2_init 82 = .ok (.putfield 37, 3) := by decide +kernel
theorem dX2_init_85 : decode cX2_init 85 = .ok (.aload_n 0, 1) := by decide +kernel
theorem dX2_init_86 : decode cX2_init 86 = .ok (.sipush 380, 3) := by decide +kernel
theorem dX2_init_89 : decode cX2_init 89 = .ok (.newarray .int, 2) := by decide +kernel
theorem dX2_init_91 : decode cX2_init 91 = .ok (.putfield 40, 3) := by decide +kernel
theorem dX2_init_94 : decode cX2_init 94 = .ok (.aload_n 0, 1) := by decide +kernel
theorem dX2_init_95 : decode cX2_init 95 = .ok (.sipush 380, 3) := by decide +kernel
theorem dX2_init_98 : decode cX2_init 98 = .ok (.newarray .int, 2) := by decide +kernel
theorem dX2_init_100 : decode cX2_init 100 = .ok (.putfield 43, 3) := by decide +kernel
theorem dX2_init_103 : decode cX2_init 103 = .ok (.aload_n 0, 1) := by decide +kernel
theorem dX2_init_104 : decode cX2_init 104 = .ok (.sipush 380, 3) := by decide +kernel
theorem dX2_init_107 : decode cX2_init 107 = .ok (.newarray .int, 2) := by decide +kernel
theorem dX2_init_109 : decode cX2_init 109 = .ok (.putfield 46, 3) := by decide +kernel
theorem dX2_init_112 : decode cX2_init 112 = .ok (.aload_n 0, 1) := by decide +kernel
theorem dX2_init_113 : decode cX2_init 113 = .ok (.sipush 380, 3) := by decide +kernel
theorem dX2_init_116 : decode cX2_init 116 = .ok (.newarray .int, 2) := by decide +kernel
theorem dX2_init_118 : decode cX2_init 118 = .ok (.putfield 49, 3) := by decide +kernel
theorem dX2_init_121 : decode cX2_init 121 = .ok (.aload_n 0, 1) := by decide +kernel
theorem dX2_init_122 : decode cX2_init 122 = .ok (.sipush 380, 3) := by decide +kernel
theorem dX2_init_125 : decode cX2_init 125 = .ok (.newarray .int, 2) := by decide +kernel
theorem dX2_init_127 : decode cX2_init 127 = .ok (.putfield 52, 3) := by decide +kernel
theorem dX2_init_130 : decode cX2_init 130 = .ok (.aload_n 0, 1) := by decide +kernel
theorem dX2_init_131 : decode cX2_init 131 = .ok (.sipush 380, 3) := by decide +kernel
theorem dX2_init_134 : decode cX2_init 134 = .ok (.newarray .int, 2) := by decide +kernel
theorem dX2_init_136 : decode cX2_init 136 = .ok (.putfield 55, 3) := by decide +kernel
theorem dX2_init_139 : decode cX2_init 139 = .ok (.aload_n 0, 1) := by decide +kernel
theorem dX2_init_140 : decode cX2_init 140 = .ok (.sipush 380, 3) := by decide +kernel
theorem dX2_init_143 : decode cX2_init 143 = .ok (.newarray .int, 2) := by decide +kernel
theorem dX2_init_145 : decode cX2_init 145 = .ok (.putfield 58, 3) := by decide +kernel
theorem dX2_init_148 : decode cX2_init 148 = .ok (.return_, 1) := by decide +kernel
theorem dX4_init_0 : decode cX4_init 0 = .ok (.aload_n 0, 1) := by decide +kernel
theorem dX4_init_1 : decode cX4_init 1 = .ok (.invokespecial 3, 3) := by decide +kernel
theorem dX4_init_4 : decode cX4_init 4 = .ok (.aload_n 0, 1) := by decide +kernel
theorem dX4_init_5 : decode cX4_init 5 = .ok (.sipush 400, 3) := by decide +kernel
theorem dX4_init_8 : decode cX4_init 8 = .ok (.newarray .int, 2) := by decide +kernel
theorem dX4_init_10 : decode cX4_init 10 = .ok (.putfield 9, 3) := by decide +kernel
theorem dX4_init_13 : decode cX4_init 13 = .ok (.aload_n 0, 1) := by decide +kernel
theorem dX4_init_14 : decode cX4_init 14 = .ok (.sipush 400, 3) := by decide +kernel
theorem dX4_init_17 : decode cX4_init 17 = .ok (.newarray .int, 2) := by decide +kernel
theorem dX4_init_19 : decode cX4_init 19 = .ok (.putfield 15, 3) := by decide +kernel
theorem dX4_init_22 : decode cX4_init 22 = .ok (.aload_n 0, 1) := by decide +kernel
theorem dX4_init_23 : decode cX4_init 23 = .ok (.sipush 400, 3) := by decide +kernel
theorem dX4_init_26 : decode cX4_init 26 = .ok (.newarray .int, 2) := by decide +kernel
theorem dX4_init_28 : decode cX4_init 28 = .ok (.putfield 18, 3) := by decide +kernel
theorem dX4_init_31 : decode cX4_init 31 = .ok (.aload_n 0, 1) := by decide +kernel
theorem dX4_init_32 : decode cX4_init 32 = .ok (.sipush 400, 3) := by decide +kernel
theorem dX4_init_35 : decode cX4_init 35 = .ok (.newarray .int, 2) := by decide +kernel
theorem dX4_init_37 : decode cX4_init 37 = .ok (.putfield 21, 3) := by decide +kernel
theorem dX4_init_40 : decode cX4_init 40 = .ok (.aload_n 0, 1) := by decide +kernel
theorem dX4_init_41 : decode cX4_init 41 = .ok (.sipush 400, 3) := by decide +kernel
theorem dX4_init_44 : decode cX4_init 44 = .ok (.newarray .int, 2) := by decide +kernel
theorem dX4_init_46 : decode cX4_init 46 = .ok (.putfield 24, 3) := by decide +kernel
theorem dX4_init_49 : decode cX4_init 49 = .ok (.aload_n 0, 1) := by decide +kernel
theorem dX4_init_50 : decode cX4_init 50 = .ok (.sipush 400, 3) := by decide +kernel
theorem dX4_init_53 : decode cX4_init 53 = .ok (.newarray .int, 2) := by decide +kernel
theorem dX4_init_55 : decode cX4_init 55 = .ok (.putfield 27, 3) := by decide +kernel
theorem dX4_init_58 : decode cX4_init 58 = .ok (.aload_n 0, 1) := by decide +kernel
theorem dX4_init_59 : decode cX4_init 59 = .ok (.sipush 400, 3) := by decide +kernel
theorem dX4_init_62 : decode cX4_init 62 = .ok (.newarray .int, 2) := by decide +kernel
theorem dX4_init_64 : decode cX4_init 64 = .ok (.putfield 30, 3) := by decide +kernel
theorem dX4_init_67 : decode cX4_init 67 = .ok (.aload_n 0, 1) := by decide +kernel
theorem dX4_init_68 : decode cX4_init 68 = .ok (.sipush 400, 3) := by decide +kernel
theorem dX4_init_71 : decode cX4_init 71 = .ok (.newarray .int, 2) := by decide +kernel
theorem dX4_init_73 : decode cX4_init 73 = .ok (.putfield 33, 3) := by decide +kernel
theorem dX4_init_76 : decode cX4_init 76 = .ok (.aload_n 0, 1) := by decide +kernel
theorem dX4_init_77 : decode cX4_init 77 = .ok (.sipush 400, 3) := by decide +kernel
theorem dX4_init_80 : decode cX4_init 80 = .ok (.newarray .int, 2) := by decide +kernel
theorem dX4_init_82 : decode cX4_init 82 = .ok (.putfield 36, 3) := by decide +kernel
theorem dX4_init_85 : decode cX4_init 85 = .ok (.aload_n 0, 1) := by decide +kernel
theorem dX4_init_86 : decode cX4_init 86 = .ok (.sipush 400, 3) := by decide +kernel
theorem dX4_init_89 : decode cX4_init 89 = .ok (.newarray .boolean, 2) := by decide +kernel
theorem dX4_init_91 : decode cX4_init 91 = .ok (.putfield 39, 3) := by decide +kernel
theorem dX4_init_94 : decode cX4_init 94 = .ok (.aload_n 0, 1) := by decide +kernel
theorem dX4_init_95 : decode cX4_init 95 = .ok (.sipush 400, 3) := by decide +kernel
theorem dX4_init_98 : decode cX4_init 98 = .ok (.newarray .boolean, 2) := by decide +kernel
theorem dX4_init_100 : decode cX4_init 100 = .ok (.putfield 43, 3) := by decide +kernel
theorem dX4_init_103 : decode cX4_init 103 = .ok (.aload_n 0, 1) := by decide +kernel
theorem dX4_init_104 : decode cX4_init 104 = .ok (.sipush 400, 3) := by decide +kernel
theorem dX4_init_107 : decode cX4_init 107 = .ok (.newarray .long, 2) := by decide +kernel
theorem dX4_init_109 : decode cX4_init 109 = .ok (.putfield 46, 3) := by decide +kernel
theorem dX4_init_112 : decode cX4_init 112 = .ok (.aload_n 0, 1) := by decide +kernel
theorem dX4_init_113 : decode cX4_init 113 = .ok (.sipush 3016, 3) := by decide +kernel
theorem dX4_init_116 : decode cX4_init 116 = .ok (.newarray .int, 2) := by decide +kernel
theorem dX4_init_118 : decode cX4_init 118 = .ok (.putfield 50, 3) := by decide +kernel
theorem dX4_init_121 : decode cX4_init 121 = .ok (.aload_n 0, 1) := by decide +kernel
theorem dX4_init_122 : decode cX4_init 122 = .ok (.sipush 3016, 3) := by decide +kernel
theorem dX4_init_125 : decode cX4_init 125 = .ok (.newarray .int, 2) := by decide +kernel
theorem dX4_init_127 : decode cX4_init 127 = .ok (.putfield 53, 3) := by decide +kernel
theorem dX4_init_130 : decode cX4_init 130 = .ok (.aload_n 0, 1) := by decide +kernel
theorem dX4_init_131 : decode cX4_init 131 = .ok (.sipush 3016, 3) := by decide +kernel
theorem dX4_init_134 : decode cX4_init 134 = .ok (.newarray .int, 2) := by decide +kernel
theorem dX4_init_136 : decode cX4_init 136 = .ok (.putfield 56, 3) := by decide +kernel
theorem dX4_init_139 : decode cX4_init 139 = .ok (.aload_n 0, 1) := by decide +kernel
theorem dX4_init_140 : decode cX4_init 140 = .ok (.sipush 400, 3) := by decide +kernel
theorem dX4_init_143 : decode cX4_init 143 = .ok (.newarray .int, 2) := by decide +kernel
theorem dX4_init_145 : decode cX4_init 145 = .ok (.putfield 59, 3) := by decide +kernel
theorem dX4_init_148 : decode cX4_init 148 = .ok (.aload_n 0, 1) := by decide +kernel
theorem dX4_init_149 : decode cX4_init 149 = .ok (.sipush 400, 3) := by decide +kernel
theorem dX4_init_152 : decode cX4_init 152 = .ok (.newarray .int, 2) := by decide +kernel
theorem dX4_init_154 : decode cX4_init 154 = .ok (.putfield 62, 3) := by decide +kernel
theorem dX4_init_157 : decode cX4_init 157 = .ok (.return_, 1) := by decide +kernel
theorem dX7_init_0 : decode cX7_init 0 = .ok (.aload_n 0, 1) := by decide +kernel
theorem dX7_init_1 : decode cX7_init 1 = .ok (.invokespecial 3, 3) := by decide +kernel
theorem dX7_init_4 : decode cX7_init 4 = .ok (.aload_n 0, 1) := by decide +kernel
theorem dX7_init_5 : decode cX7_init 5 = .ok (.sipush 19456, 3) := by decide +kernel
theorem dX7_init_8 : decode cX7_init 8 = .ok (.newarray .long, 2) := by decide +kernel
theorem dX7_init_10 : decode cX7_init 10 = .ok (.putfield 9, 3) := by decide +kernel
theorem dX7_init_13 : decode cX7_init 13 = .ok (.aload_n 0, 1) := by decide +kernel
theorem dX7_init_14 : decode cX7_init 14 = .ok (.sipush 200, 3) := by decide +kernel
theorem dX7_init_17 : decode cX7_init 17 = .ok (.newarray .boolean, 2) := by decide +kernel
theorem dX7_init_19 : decode cX7_init 19 = .ok (.putfield 15, 3) := by decide +kernel
theorem dX7_init_22 : decode cX7_init 22 = .ok (.aload_n 0, 1) := by decide +kernel
theorem dX7_init_23 : decode cX7_init 23 = .ok (.bipush 60, 2) := by decide +kernel
theorem dX7_init_25 : decode cX7_init 25 = .ok (.newarray .boolean, 2) := by decide +kernel
theorem dX7_init_27 : decode cX7_init 27 = .ok (.putfield 19, 3) := by decide +kernel
theorem dX7_init_30 : decode cX7_init 30 = .ok (.aload_n 0, 1) := by decide +kernel
theorem dX7_init_31 : decode cX7_init 31 = .ok (.bipush 60, 2) := by decide +kernel
theorem dX7_init_33 : decode cX7_init 33 = .ok (.newarray .int, 2) := by decide +kernel
theorem dX7_init_35 : decode cX7_init 35 = .ok (.putfield 22, 3) := by decide +kernel
theorem dX7_init_38 : decode cX7_init 38 = .ok (.aload_n 0, 1) := by decide +kernel
theorem dX7_init_39 : decode cX7_init 39 = .ok (.sipush 1000, 3) := by decide +kernel
theorem dX7_init_42 : decode cX7_init 42 = .ok (.newarray .int, 2) := by decide +kernel
theorem dX7_init_44 : decode cX7_init 44 = .ok (.putfield 26, 3) := by decide +kernel
theorem dX7_init_47 : decode cX7_init 47 = .ok (.aload_n 0, 1) := by decide +kernel
theorem dX7_init_48 : decode cX7_init 48 = .ok (.sipush 1000, 3) := by decide +kernel
theorem dX7_init_51 : decode cX7_init 51 = .ok (.newarray .long, 2) := by decide +kernel
theorem dX7_init_53 : decode cX7_init 53 = .ok (.putfield 29, 3) := by decide +kernel
theorem dX7_init_56 : decode cX7_init 56 = .ok (.aload_n 0, 1) := by decide +kernel
theorem dX7_init_57 : decode cX7_init 57 = .ok (.sipush 4608, 3) := by decide +kernel
theorem dX7_init_60 : decode cX7_init 60 = .ok (.newarray .int, 2) := by decide +kernel
theorem dX7_init_62 : decode cX7_init 62 = .ok (.putfield 32, 3) := by decide +kernel
theorem dX7_init_65 : decode cX7_init 65 = .ok (.aload_n 0, 1) := by decide +kernel
theorem dX7_init_66 : decode cX7_init 66 = .ok (.sipush 4608, 3) := by decide +kernel
theorem dX7_init_69 : decode cX7_init 69 = .ok (.newarray .int, 2) := by decide +kernel
theorem dX7_init_71 : decode cX7_init 71 = .ok (.putfield 35, 3) := by decide +kernel
theorem dX7_init_74 : decode cX7_init 74 = .ok (.return_, 1) := by decide +kernel
theorem dX8_init_0 : decode cX8_init 0 = .ok (.aload_n 0, 1) := by decide +kernel
theorem dX8_init_1 : decode cX8_init 1 = .ok (.invokespecial 3, 3) := by decide +kernel
theorem dX8_init_4 : decode cX8_init 4 = .ok (.aload_n 0, 1) := by decide +kernel
theorem dX8_init_5 : decode cX8_init 5 = .ok (.sipush 3016, 3) := by decide +kernel
theorem dX8_init_8 : decode cX8_init 8 = .ok (.newarray .int, 2) := by decide +kernel
theorem dX8_init_10 : decode cX8_init 10 = .ok (.putfield 9, 3) := by decide +kernel
theorem dX8_init_13 : decode cX8_init 13 = .ok (.aload_n 0, 1) := by decide +kernel
theorem dX8_init_14 : decode cX8_init 14 = .ok (.sipush 3016, 3) := by decide +kernel
theorem dX8_init_17 : decode cX8_init 17 = .ok (.newarray .int, 2) := by decide +kernel
theorem dX8_init_19 : decode cX8_init 19 = .ok (.putfield 15, 3) := by decide +kernel
theorem dX8_init_22 : decode cX8_init 22 = .ok (.aload_n 0, 1) := by decide +kernel
theorem dX8_init_23 : decode cX8_init 23 = .ok (.sipush 3016, 3) := by decide +kernel
theorem dX8_init_26 : decode cX8_init 26 = .ok (.newarray .int, 2) := by decide +kernel
theorem dX8_init_28 : decode cX8_init 28 = .ok (.putfield 18, 3) := by decide +kernel
theorem dX8_init_31 : decode cX8_init 31 = .ok (.aload_n 0, 1) := by decide +kernel
theorem dX8_init_32 : decode cX8_init 32 = .ok (.sipush 3016, 3) := by decide +kernel
theorem dX8_init_35 : decode cX8_init 35 = .ok (.newarray .int, 2) := by decide +kernel
theorem dX8_init_37 : decode cX8_init 37 = .ok (.putfield 21, 3) := by decide +kernel
theorem dX8_init_40 : decode cX8_init 40 = .ok (.aload_n 0, 1) := by decide +kernel
theorem dX8_init_41 : decode cX8_init 41 = .ok (.sipush 3016, 3) := by decide +kernel
theorem dX8_init_44 : decode cX8_init 44 = .ok (.newarray .int, 2) := by decide +kernel
theorem dX8_init_46 : decode cX8_init 46 = .ok (.putfield 24, 3) := by decide +kernel
theorem dX8_init_49 : decode cX8_init 49 = .ok (.aload_n 0, 1) := by decide +kernel
theorem dX8_init_50 : decode cX8_init 50 = .ok (.sipush 3016, 3) := by decide +kernel
theorem dX8_init_53 : decode cX8_init 53 = .ok (.newarray .int, 2) := by decide +kernel
theorem dX8_init_55 : decode cX8_init 55 = .ok (.putfield 27, 3) := by decide +kernel
theorem dX8_init_58 : decode cX8_init 58 = .ok (.aload_n 0, 1) := by decide +kernel
theorem dX8_init_59 : decode cX8_init 59 = .ok (.sipush 3016, 3) := by decide +kernel
theorem dX8_init_62 : decode cX8_init 62 = .ok (.newarray .int, 2) := by decide +kernel
theorem dX8_init_64 : decode cX8_init 64 = .ok (.putfield 30, 3) := by decide +kernel
theorem dX8_init_67 : decode cX8_init 67 = .ok (.aload_n 0, 1) := by decide +kernel
theorem dX8_init_68 : decode cX8_init 68 = .ok (.sipush 3016, 3) := by decide +kernel
theorem dX8_init_71 : decode cX8_init 71 = .ok (.newarray .int, 2) := by decide +kernel
theorem dX8_init_73 : decode cX8_init 73 = .ok (.putfield 33, 3) := by decide +kernel
theorem dX8_init_76 : decode cX8_init 76 = .ok (.aload_n 0, 1) := by decide +kernel
theorem dX8_init_77 : decode cX8_init 77 = .ok (.sipush 3016, 3) := by decide +kernel
theorem dX8_init_80 : decode cX8_init 80 = .ok (.newarray .long, 2) := by decide +kernel
theorem dX8_init_82 : decode cX8_init 82 = .ok (.putfield 36, 3) := by decide +kernel
theorem dX8_init_85 : decode cX8_init 85 = .ok (.aload_n 0, 1) := by decide +kernel
theorem dX8_init_86 : decode cX8_init 86 = .ok (.sipush 3016, 3) := by decide +kernel
theorem dX8_init_89 : decode cX8_init 89 = .ok (.newarray .int, 2) := by decide +kernel
theorem dX8_init_91 : decode cX8_init 91 = .ok (.putfield 40, 3) := by decide +kernel
theorem dX8_init_94 : decode cX8_init 94 = .ok (.aload_n 0, 1) := by decide +kernel
theorem dX8_init_95 : decode cX8_init 95 = .ok (.sipush 3016, 3) := by decide +kernel
theorem dX8_init_98 : decode cX8_init 98 = .ok (.newarray .int, 2) := by decide +kernel
theorem dX8_init_100 : decode cX8_init 100 = .ok (.putfield 43, 3) := by decide +kernel
theorem dX8_init_103 : decode cX8_init 103 = .ok (.aload_n 0, 1) := by decide +kernel
theorem dX8_init_104 : decode cX8_init 104 = .ok (.iconst 1, 1) := by decide +kernel
theorem dX8_init_105 : decode cX8_init 105 = .ok (.putfield 46, 3) := by decide +kernel
theorem dX8_init_108 : decode cX8_init 108 = .ok (.return_, 1) := by decide +kernel
theorem dX9_init_0 : decode cX9_init 0 = .ok (.aload_n 0, 1) := by decide +kernel
theorem dX9_init_1 : decode cX9_init 1 = .ok (.invokespecial 3, 3) := by decide +kernel
theorem dX9_init_4 : decode cX9_init 4 = .ok (.aload_n 0, 1) := by decide +kernel
theorem dX9_init_5 : decode cX9_init 5 = .ok (.sipush 1504, 3) := by decide +kernel
theorem dX9_init_8 : decode cX9_init 8 = .ok (.newarray .int, 2) := by decide +kernel
theorem dX9_init_10 : decode cX9_init 10 = .ok (.putfield 9, 3) := by decide +kernel
theorem dX9_init_13 : decode cX9_init 13 = .ok (.aload_n 0, 1) := by decide +kernel
theorem dX9_init_14 : decode cX9_init 14 = .ok (.sipush 1504, 3) := by decide +kernel
theorem dX9_init_17 : decode cX9_init 17 = .ok (.newarray .int, 2) := by decide +kernel
theorem dX9_init_19 : decode cX9_init 19 = .ok (.putfield 15, 3) := by decide +kernel
theorem dX9_init_22 : decode cX9_init 22 = .ok (.aload_n 0, 1) := by decide +kernel
theorem dX9_init_23 : decode cX9_init 23 = .ok (.sipush 304, 3) := by decide +kernel
theorem dX9_init_26 : decode cX9_init 26 = .ok (.newarray .int, 2) := by decide +kernel
theorem dX9_init_28 : decode cX9_init 28 = .ok (.putfield 18, 3) := by decide +kernel
theorem dX9_init_31 : decode cX9_init 31 = .ok (.aload_n 0, 1) := by decide +kernel
theorem dX9_init_32 : decode cX9_init 32 = .ok (.sipush 304, 3) := by decide +kernel
theorem dX9_init_35 : decode cX9_init 35 = .ok (.newarray .int, 2) := by decide +kernel
theorem dX9_init_37 : decode cX9_init 37 = .ok (.putfield 21, 3) := by decide +kernel
theorem dX9_init_40 : decode cX9_init 40 = .ok (.aload_n 0, 1) := by decide +kernel
theorem dX9_init_41 : decode cX9_init 41 = .ok (.sipush 304, 3) := by decide +kernel
theorem dX9_init_44 : decode cX9_init 44 = .ok (.newarray .int, 2) := by decide +kernel
theorem dX9_init_46 : decode cX9_init 46 = .ok (.putfield 24, 3) := by decide +kernel
theorem dX9_init_49 : decode cX9_init 49 = .ok (.aload_n 0, 1) := by decide +kernel
theorem dX9_init_50 : decode cX9_init 50 = .ok (.sipush 304, 3) := by decide +kernel
theorem dX9_init_53 : decode cX9_init 53 = .ok (.newarray .int, 2) := by decide +kernel
theorem dX9_init_55 : decode cX9_init 55 = .ok (.putfield 27, 3) := by decide +kernel
theorem dX9_init_58 : decode cX9_init 58 = .ok (.aload_n 0, 1) := by decide +kernel
theorem dX9_init_59 : decode cX9_init 59 = .ok (.sipush 304, 3) := by decide +kernel
theorem dX9_init_62 : decode cX9_init 62 = .ok (.newarray .int, 2) := by decide +kernel
theorem dX9_init_64 : decode cX9_init 64 = .ok (.putfield 30, 3) := by decide +kernel
theorem dX9_init_67 : decode cX9_init 67 = .ok (.aload_n 0, 1) := by decide +kernel
theorem dX9_init_68 : decode cX9_init 68 = .ok (.sipush 304, 3) := by decide +kernel
theorem dX9_init_71 : decode cX9_init 71 = .ok (.newarray .int, 2) := by decide +kernel
theorem dX9_init_73 : decode cX9_init 73 = .ok (.putfield 33, 3) := by decide +kernel
theorem dX9_init_76 : decode cX9_init 76 = .ok (.aload_n 0, 1) := by decide +kernel
theorem dX9_init_77 : decode cX9_init 77 = .ok (.sipush 304, 3) := by decide +kernel
theorem dX9_init_80 : decode cX9_init 80 = .ok (.newarray .int, 2) := by decide +kernel
theorem dX9_init_82 : decode cX9_init 82 = .ok (.putfield 36, 3) := by decide +kernel
theorem dX9_init_85 : decode cX9_init 85 = .ok (.aload_n 0, 1) := by decide +kernel
theorem dX9_init_86 : decode cX9_init 86 = .ok (.sipush 1504, 3) := by decide +kernel
theorem dX9_init_89 : decode cX9_init 89 = .ok (.newarray .int, 2) := by decide +kernel
theorem dX9_init_91 : decode cX9_init 91 = .ok (.putfield 39, 3) := by decide +kernel
theorem dX9_init_94 : decode cX9_init 94 = .ok (.aload_n 0, 1) := by decide +kernel
theorem dX9_init_95 : decode cX9_init 95 = .ok (.sipush 1504, 3) := by decide +kernel
theorem dX9_init_98 : decode cX9_init 98 = .ok (.newarray .int, 2) := by decide +kernel
theorem dX9_init_100 : decode cX9_init 100 = .ok (.putfield 42, 3) := by decide +kernel
theorem dX9_init_103 : decode cX9_init 103 = .ok (.aload_n 0, 1) := by decide +kernel
theorem dX9_init_104 : decode cX9_init 104 = .ok (.sipush 1504, 3) := by decide +kernel
theorem dX9_init_107 : decode cX9_init 107 = .ok (.newarray .int, 2) := by decide +kernel
theorem dX9_init_109 : decode cX9_init 109 = .ok (.putfield 45, 3) := by decide +kernel
theorem dX9_init_112 : decode cX9_init 112 = .ok (.aload_n 0, 1) := by decide +kernel
theorem dX9_init_113 : decode cX9_init 113 = .ok (.sipush 1504, 3) := by decide +kernel
theorem dX9_init_116 : decode cX9_init 116 = .ok (.newarray .int, 2) := by decide +kernel
theorem dX9_init_118 : decode cX9_init 118 = .ok (.putfield 48, 3) := by decide +kernel
theorem dX9_init_121 : decode cX9_init 121 = .ok (.aload_n 0, 1) := by decide +kernel
theorem dX9_init_122 : decode cX9_init 122 = .ok (.sipush 1504, 3) := by decide +kernel
theorem dX9_init_125 : decode cX9_init 125 = .ok (.newarray .int, 2) := by decide +kernel
theorem dX9_init_127 : decode cX9_init 127 = .ok (.putfield 51, 3) := by decide +kernel
theorem dX9_init_130 : decode cX9_init 130 = .ok (.aload_n 0, 1) := by decide +kernel
theorem dX9_init_131 : decode cX9_init 131 = .ok (.sipush 1504, 3) := by decide +kernel
theorem dX9_init_134 : decode cX9_init 134 = .ok (.newarray .int, 2) := by decide +kernel
theorem dX9_init_136 : decode cX9_init 136 = .ok (.putfield 54, 3) := by decide +kernel
theorem dX9_init_139 : decode cX9_init 139 = .ok (.return_, 1) := by decide +kernel
set_option maxHeartbeats 4000000 in
set_option maxRecDepth 100000 in
/-- Tree(): eleven rows, total 1 -/
theorem k_X8_init (l : Launch) (D : va_G) (K : KS) (h0 : Nat) : Con l D K yX8_init cX8_init 1 none 1 12 11 33176 [.ref h0] [(h0, .inr (1, [.null, .null, .null, .null, .null, .null, .null, .null, .null, .null, .null, .int 0]))] (fun v w => v = none ∧ ∃ (q1 : Nat) (q2 : Nat) (q3 : Nat) (q4 : Nat) (q5 : Nat) (q6 : Nat) (q7 : Nat) (q8 : Nat) (q9 : Nat) (q10 : Nat) (q11 : Nat), w = [(h0, .inr (1, [.ref q1, .ref q2, .ref q3, .ref q4, .ref q5, .ref q6, .ref q7, .ref q8, .ref q9, .ref q10, .ref q11, .int 1])), (q1, .inl (K 0, 3016, .inl (fun _ => 0))), (q2, .inl (K 0, 3016, .inl (fun _ => 0))), (q3, .inl (K 0, 3016, .inl (fun _ => 0))), (q4, .inl (K 0, 3016, .inl (fun _ => 0))), (q5, .inl (K 0, 3016, .inl (fun _ => 0))), (q6, .inl (K 0, 3016, .inl (fun _ => 0))), (q7, .inl (K 0, 3016, .inl (fun _ => 0))), (q8, .inl (K 0, 3016, .inl (fun _ => 0))), (q9, .inl (K 1, 3016, .inr (.inl (fun _ => 0)))), (q10, .inl (K 0, 3016, .inl (fun _ => 0))), (q11, .inl (K 0, 3016, .inl (fun _ => 0)))]) := by
  refine Con.of (by decide +kernel) (Nat.le_of_ble_eq_true rfl) ?_
  intro X hXl hXD hXK C hR hQ hnm
  subst hXl; subst hXD; subst hXK
  refine g_lv (l2 := [(0, .ref h0)]) [0] rfl ?_
  refine g_aload_n (z := 1) C dX8_init_0 0 rfl rfl rfl ?_
  refine g_objInit (z := 4) C hR dX8_init_1 w_108 w_0 w_1 (Nat.le_of_ble_eq_true rfl) (Nat.le_of_ble_eq_true rfl) rfl ?_
  refine g_aload_n (z := 5) C dX8_init_4 0 rfl rfl rfl ?_
  refine g_sipush (v := 3016) (z := 8) C dX8_init_5 (by decide) rfl ?_
  refine g_newI (N := 3016) (a2 := 1) (b2 := 3016) (z := 10) C hR dX8_init_8 w_109 (by decide) (by decide) (Nat.le_of_ble_eq_true rfl) rfl rfl (Nat.le_of_ble_eq_true rfl) (Nat.le_of_ble_eq_true rfl) rfl (fun q1 => ?_)
  refine g_ws (w2 := [(h0, .inr (1, [.null, .null, .null, .null, .null, .null, .null, .null, .null, .null, .null, .int 0])), (q1, .inl (gK X 0, 3016, .inl (fun _ => 0)))]) rfl ?_
  refine g_putF (w2 := [(h0, .inr (1, [.ref q1, .null, .null, .null, .null, .null, .null, .null, .null, .null, .null, .int 0])), (q1, .inl (gK X 0, 3016, .inl (fun _ => 0)))]) (z := 13) C kX8 dX8_init_10 0 rfl 0 (by decide) w_110 rfl rfl hnm rfl rfl rfl (Nat.le_of_ble_eq_true rfl) rfl rfl ?_
  refine g_aload_n (z := 14) C dX8_init_13 0 rfl rfl rfl ?_
  refine g_sipush (v := 3016) (z := 17) C dX8_init_14 (by decide) rfl ?_
  refine g_newI (N := 3016) (a2 := 2) (b2 := 6032) (z := 19) C hR dX8_init_17 w_109 (by decide) (by decide) (Nat.le_of_ble_eq_true rfl) rfl rfl (Nat.le_of_ble_eq_true rfl) (Nat.le_of_ble_eq_true rfl) rfl (fun q2 => ?_)
  refine g_ws (w2 := [(h0, .inr (1, [.ref q1, .null, .null, .null, .null, .null, .null, .null, .null, .null, .null, .int 0])), (q1, .inl (gK X 0, 3016, .inl (fun _ => 0))), (q2, .inl (gK X 0, 3016, .inl (fun _ => 0)))]) rfl ?_
  refine g_putF (w2 := [(h0, .inr (1, [.ref q1, .ref q2, .null, .null, .null, .null, .null, .null, .null, .null, .null, .int 0])), (q1, .inl (gK X 0, 3016, .inl (fun _ => 0))), (q2, .inl (gK X 0, 3016, .inl (fun _ => 0)))]) (z := 22) C kX8 dX8_init_19 0 rfl 1 (by decide) w_111 rfl rfl hnm rfl rfl rfl (Nat.le_of_ble_eq_true rfl) rfl rfl ?_
  refine g_aload_n (z := 23) C dX8_init_22 0 rfl rfl rfl ?_
  refine g_sipush (v := 3016) (z := 26) C dX8_init_23 (by decide) rfl ?_
  refine g_newI (N := 3016) (a2 := 3) (b2 := 9048) (z := 28) C hR dX8_init_26 w_109 (by decide) (by decide) (Nat.le_of_ble_eq_true rfl) rfl rfl (Nat.le_of_ble_eq_true rfl) (Nat.le_of_ble_eq_true rfl) rfl (fun q3 => ?_)
  refine g_ws (w2 := [(h0, .inr (1, [.ref q1, .ref q2, .null, .null, .null, .null, .null, .null, .null, .null, .null, .int 0])), (q1, .inl (gK X 0, 3016, .inl (fun _ => 0))), (q2, .inl (gK X 0, 3016, .inl (fun _ => 0))), (q3, .inl (gK X 0, 3016, .inl (fun _ => 0)))]) rfl ?_
  refine g_putF (w2 := [(h0, .inr (1, [.ref q1, .ref q2, .ref q3, .null, .null, .null, .null, .null, .null, .null, .null, .int 0])), (q1, .inl (gK X 0, 3016, .inl (fun _ => 0))), (q2, .inl (gK X 0, 3016, .inl (fun _ => 0))), (q3, .inl (gK X 0, 3016, .inl (fun _ => 0)))]) (z := 31) C kX8 dX8_init_28 0 rfl 2 (by decide) w_112 rfl rfl hnm rfl rfl rfl (Nat.le_of_ble_eq_true rfl) rfl rfl ?_
  refine g_aload_n (z := 32) C dX8_init_31 0 rfl rfl rfl ?_
  refine g_sipush (v := 3016) (z := 35) C dX8_init_32 (by decide) rfl ?_
  refine g_newI (N := 3016) (a2 := 4) (b2 := 12064) (z := 37) C hR dX8_init_35 w_109 (by decide) (by decide) (Nat.le_of_ble_eq_true rfl) rfl rfl (Nat.le_of_ble_eq_true rfl) (Nat.le_of_ble_eq_true rfl) rfl (fun q4 => ?_)
  refine g_ws (w2 := [(h0, .inr (1, [.ref q1, .ref q2, .ref q3, .null, .null, .null, .null, .null, .null, .null, .null, .int 0])), (q1, .inl (gK X 0, 3016, .inl (fun _ => 0))), (q2, .inl (gK X 0, 3016, .inl (fun _ => 0))), (q3, .inl (gK X 0, 3016, .inl (fun _ => 0))), (q4, .inl (gK X 0, 3016, .inl (fun _ => 0)))]) rfl ?_
  refine g_putF (w2 := [(h0, .inr (1, [.ref q1, .ref q2, .ref q3, .ref q4, .null, .null, .null, .null, .null, .null, .null, .int 0])), (q1, .inl (gK X 0, 3016, .inl (fun _ => 0))), (q2, .inl (gK X 0, 3016, .inl (fun _ => 0))), (q3, .inl (gK X 0, 3016, .inl (fun _ => 0))), (q4, .inl (gK X 0, 3016, .inl (fun _ => 0)))]) (z := 40) C kX8 dX8_init_37 0 rfl 3 (by decide) w_113 rfl rfl hnm rfl rfl rfl (Nat.le_of_ble_eq_true rfl) rfl rfl ?_
  refine g_aload_n (z := 41) C dX8_init_40 0 rfl rfl rfl ?_
  refine g_sipush (v := 3016) (z := 44) C dX8_init_41 (by decide) rfl ?_
  refine g_newI (N := 3016) (a2 := 5) (b2 := 15080) (z := 46) C hR dX8_init_44 w_109 (by decide) (by decide) (Nat.le_of_ble_eq_true rfl) rfl rfl (Nat.le_of_ble_eq_true rfl) (Nat.le_of_ble_eq_true rfl) rfl (fun q5 => ?_)
  refine g_ws (w2 := [(h0, .inr (1, [.ref q1, .ref q2, .ref q3, .ref q4, .null, .null, .null, .null, .null, .null, .null, .int 0])), (q1, .inl (gK X 0, 3016, .inl (fun _ => 0))), (q2, .inl (gK X 0, 3016, .inl (fun _ => 0))), (q3, .inl (gK X 0, 3016, .inl (fun _ => 0))), (q4, .inl (gK X 0, 3016, .inl (fun _ => 0))), (q5, .inl (gK X 0, 3016, .inl (fun _ => 0)))]) rfl ?_
  refine g_putF (w2 := [(h0, .inr (1, [.ref q1, .ref q2, .ref q3, .ref q4, .ref q5, .null, .null, .null, .null, .null, .null, .int 0])), (q1, .inl (gK X 0, 3016, .inl (fun _ => 0))), (q2, .inl (gK X 0, 3016, .inl (fun _ => 0))), (q3, .inl (gK X 0, 3016, .inl (fun _ => 0))), (q4, .inl (gK X 0, 3016, .inl (fun _ => 0))), (q5, .inl (gK X 0, 3016, .inl (fun _ => 0)))]) (z := 49) C kX8 dX8_init_46 0 rfl 4 (by decide) w_114 rfl rfl hnm rfl rfl rfl (Nat.le_of_ble_eq_true rfl) rfl rfl ?_
  refine g_aload_n (z := 50) C dX8_init_49 0 rfl rfl rfl ?_
  refine g_sipush (v := 3016) (z := 53) C dX8_init_50 (by decide) rfl ?_
  refine g_newI (N := 3016) (a2 := 6) (b2 := 18096) (z := 55) C hR dX8_init_53 w_109 (by decide) (by decide) (Nat.le_of_ble_eq_true rfl) rfl rfl (Nat.le_of_ble_eq_true rfl) (Nat.le_of_ble_eq_true rfl) rfl (fun q6 => ?_)
  refine g_ws (w2 := [(h0, .inr (1, [.ref q1, .ref q2, .ref q3, .ref q4, .ref q5, .null, .null, .null, .null, .null, .null, .int 0])), (q1, .inl (gK X 0, 3016, .inl (fun _ => 0))), (q2, .inl (gK X 0, 3016, .inl (fun _ => 0))), (q3, .inl (gK X 0, 3016, .inl (fun _ => 0))), (q4, .inl (gK X 0, 3016, .inl (fun _ => 0))), (q5, .inl (gK X 0, 3016, .inl (fun _ => 0))), (q6, .inl (gK X 0, 3016, .inl (fun _ => 0)))]) rfl ?_
  refine g_putF (w2 := [(h0, .inr (1, [.ref q1, .ref q2, .ref q3, .ref q4, .ref q5, .ref q6, .null, .null, .null, .null, .null, .int 0])), (q1, .inl (gK X 0, 3016, .inl (fun _ => 0))), (q2, .inl (gK X 0, 3016, .inl (fun _ => 0))), (q3, .inl (gK X 0, 3016, .inl (fun _ => 0))), (q4, .inl (gK X 0, 3016, .inl (fun _ => 0))), (q5, .inl (gK X 0, 3016, .inl (fun _ => 0))), (q6, .inl (gK X 0, 3016, .inl (fun _ => 0)))]) (z := 58) C kX8 dX8_init_55 0 rfl 5 (by decide) w_115 rfl rfl hnm rfl rfl rfl (Nat.le_of_ble_eq_true rfl) rfl rfl ?_
  refine g_aload_n (z := 59) C dX8_init_58 0 rfl rfl rfl ?_
  refine g_sipush (v := 3016) (z := 62) C dX8_init_59 (by decide) rfl ?_
  refine g_newI (N := 3016) (a2 := 7) (b2 := 21112) (z := 64) C hR dX8_init_62 w_109 (by decide) (by decide) (Nat.le_of_ble_eq_true rfl) rfl rfl (Nat.le_of_ble_eq_true rfl) (Nat.le_of_ble_eq_true rfl) rfl (fun q7 => ?_)
  refine g_ws (w2 := [(h0, .inr (1, [.ref q1, .ref q2, .ref q3, .ref q4, .ref q5, .ref q6, .null, .null, .null, .null, .null, .int 0])), (q1, .inl (gK X 0, 3016, .inl (fun _ => 0))), (q2, .inl (gK X 0, 3016, .inl (fun _ => 0))), (q3, .inl (gK X 0, 3016, .inl (fun _ => 0))), (q4, .inl (gK X 0, 3016, .inl (fun _ => 0))), (q5, .inl (gK X 0, 3016, .inl (fun _ => 0))), (q6, .inl (gK X 0, 3016, .inl (fun _ => 0))), (q7, .inl (gK X 0, 3016, .inl (fun _ => 0)))]) rfl ?_
  refine g_putF (w2 := [(h0, .inr (1, [.ref q1, .ref q2, .ref q3, .ref q4, .ref q5, .ref q6, .ref q7, .null, .null, .null, .null, .int 0])), (q1, .inl (gK X 0, 3016, .inl (fun _ => 0))), (q2, .inl (gK X 0, 3016, .inl (fun _ => 0))), (q3, .inl (gK X 0, 3016, .inl (fun _ => 0))), (q4, .inl (gK X 0, 3016, .inl (fun _ => 0))), (q5, .inl (gK X 0, 3016, .inl (fun _ => 0))), (q6, .inl (gK X 0, 3016, .inl (fun _ => 0))), (q7, .inl (gK X 0, 3016, .inl (fun _ => 0)))]) (z := 67) C kX8 dX8_init_64 0 rfl 6 (by decide) w_116 rfl rfl hnm rfl rfl rfl (Nat.le_of_ble_eq_true rfl) rfl rfl ?_
  refine g_aload_n (z := 68) C dX8_init_67 0 rfl rfl rfl ?_
  refine g_sipush (v := 3016) (z := 71) C dX8_init_68 (by decide) rfl ?_
  refine g_newI (N := 3016) (a2 := 8) (b2 := 24128) (z := 73) C hR dX8_init_71 w_109 (by decide) (by decide) (Nat.le_of_ble_eq_true rfl) rfl rfl (Nat.le_of_ble_eq_true rfl) (Nat.le_of_ble_eq_true rfl) rfl (fun q8 => ?_)
  refine g_ws (w2 := [(h0, .inr (1, [.ref q1, .ref q2, .ref q3, .ref q4, .ref q5, .ref q6, .ref q7, .null, .null, .null, .null, .int 0])), (q1, .inl (gK X 0, 3016, .inl (fun _ => 0))), (q2, .inl (gK X 0, 3016, .inl (fun _ => 0))), (q3, .inl (gK X 0, 3016, .inl (fun _ => 0))), (q4, .inl (gK X 0, 3016, .inl (fun _ => 0))), (q5, .inl (gK X 0, 3016, .inl (fun _ => 0))), (q6, .inl (gK X 0, 3016, .inl (fun _ => 0))), (q7, .inl (gK X 0, 3016, .inl (fun _ => 0))), (q8, .inl (gK X 0, 3016, .inl (fun _ => 0)))]) rfl ?_
  refine g_putF (w2 := [(h0, .inr (1, [.ref q1, .ref q2, .ref q3, .ref q4, .ref q5, .ref q6, .ref q7, .ref q8, .null, .null, .null, .int 0])), (q1, .inl (gK X 0, 3016, .inl (fun _ => 0))), (q2, .inl (gK X 0, 3016, .inl (fun _ => 0))), (q3, .inl (gK X 0, 3016, .inl (fun _ => 0))), (q4, .inl (gK X 0, 3016, .inl (fun _ => 0))), (q5, .inl (gK X 0, 3016, .inl (fun _ => 0))), (q6, .inl (gK X 0, 3016, .inl (fun _ => 0))), (q7, .inl (gK X 0, 3016, .inl (fun _ => 0))), (q8, .inl (gK X 0, 3016, .inl (fun _ => 0)))]) (z := 76) C kX8 dX8_init_73 0 rfl 7 (by decide) w_117 rfl rfl hnm rfl rfl rfl (Nat.le_of_ble_eq_true rfl) rfl rfl ?_
  refine g_aload_n (z := 77) C dX8_init_76 0 rfl rfl rfl ?_
  refine g_sipush (v := 3016) (z := 80) C dX8_init_77 (by decide) rfl ?_
  refine g_newJ (N := 3016) (a2 := 9) (b2 := 27144) (z := 82) C hR dX8_init_80 w_8 (by decide) (by decide) (Nat.le_of_ble_eq_true rfl) rfl rfl (Nat.le_of_ble_eq_true rfl) (Nat.le_of_ble_eq_true rfl) rfl (fun q9 => ?_)
  refine g_ws (w2 := [(h0, .inr (1, [.ref q1, .ref q2, .ref q3, .ref q4, .ref q5, .ref q6, .ref q7, .ref q8, .null, .null, .null, .int 0])), (q1, .inl (gK X 0, 3016, .inl (fun _ => 0))), (q2, .inl (gK X 0, 3016, .inl (fun _ => 0))), (q3, .inl (gK X 0, 3016, .inl (fun _ => 0))), (q4, .inl (gK X 0, 3016, .inl (fun _ => 0))), (q5, .inl (gK X 0, 3016, .inl (fun _ => 0))), (q6, .inl (gK X 0, 3016, .inl (fun _ => 0))), (q7, .inl (gK X 0, 3016, .inl (fun _ => 0))), (q8, .inl (gK X 0, 3016, .inl (fun _ => 0))), (q9, .inl (gK X 1, 3016, .inr (.inl (fun _ => 0))))]) rfl ?_
  refine g_putF (w2 := [(h0, .inr (1, [.ref q1, .ref q2, .ref q3, .ref q4, .ref q5, .ref q6, .ref q7, .ref q8, .ref q9, .null, .null, .int 0])), (q1, .inl (gK X 0, 3016, .inl (fun _ => 0))), (q2, .inl (gK X 0, 3016, .inl (fun _ => 0))), (q3, .inl (gK X 0, 3016, .inl (fun _ => 0))), (q4, .inl (gK X 0, 3016, .inl (fun _ => 0))), (q5, .inl (gK X 0, 3016, .inl (fun _ => 0))), (q6, .inl (gK X 0, 3016, .inl (fun _ => 0))), (q7, .inl (gK X 0, 3016, .inl (fun _ => 0))), (q8, .inl (gK X 0, 3016, .inl (fun _ => 0))), (q9, .inl (gK X 1, 3016, .inr (.inl (fun _ => 0))))]) (z := 85) C kX8 dX8_init_82 0 rfl 8 (by decide) w_118 rfl rfl hnm rfl rfl rfl (Nat.le_of_ble_eq_true rfl) rfl rfl ?_
  refine g_aload_n (z := 86) C dX8_init_85 0 rfl rfl rfl ?_
  refine g_sipush (v := 3016) (z := 89) C dX8_init_86 (by decide) rfl ?_
  refine g_newI (N := 3016) (a2 := 10) (b2 := 30160) (z := 91) C hR dX8_init_89 w_109 (by decide) (by decide) (Nat.le_of_ble_eq_true rfl) rfl rfl (Nat.le_of_ble_eq_true rfl) (Nat.le_of_ble_eq_true rfl) rfl (fun q10 => ?_)
  refine g_ws (w2 := [(h0, .inr (1, [.ref q1, .ref q2, .ref q3, .ref q4, .ref q5, .ref q6, .ref q7, .ref q8, .ref q9, .null, .null, .int 0])), (q1, .inl (gK X 0, 3016, .inl (fun _ => 0))), (q2, .inl (gK X 0, 3016, .inl (fun _ => 0))), (q3, .inl (gK X 0, 3016, .inl (fun _ => 0))), (q4, .inl (gK X 0, 3016, .inl (fun _ => 0))), (q5, .inl (gK X 0, 3016, .inl (fun _ => 0))), (q6, .inl (gK X 0, 3016, .inl (fun _ => 0))), (q7, .inl (gK X 0, 3016, .inl (fun _ => 0))), (q8, .inl (gK X 0, 3016, .inl (fun _ => 0))), (q9, .inl (gK X 1, 3016, .inr (.inl (fun _ => 0)))), (q10, .inl (gK X 0, 3016, .inl (fun _ => 0)))]) rfl ?_
  refine g_putF (w2 := [(h0, .inr (1, [.ref q1, .ref q2, .ref q3, .ref q4, .ref q5, .ref q6, .ref q7, .ref q8, .ref q9, .ref q10, .null, .int 0])), (q1, .inl (gK X 0, 3016, .inl (fun _ => 0))), (q2, .inl (gK X 0, 3016, .inl (fun _ => 0))), (q3, .inl (gK X 0, 3016, .inl (fun _ => 0))), (q4, .inl (gK X 0, 3016, .inl (fun _ => 0))), (q5, .inl (gK X 0, 3016, .inl (fun _ => 0))), (q6, .inl (gK X 0, 3016, .inl (fun _ => 0))), (q7, .inl (gK X 0, 3016, .inl (fun _ => 0))), (q8, .inl (gK X 0, 3016, .inl (fun _ => 0))), (q9, .inl (gK X 1, 3016, .inr (.inl (fun _ => 0)))), (q10, .inl (gK X 0, 3016, .inl (fun _ => 0)))]) (z := 94) C kX8 dX8_init_91 0 rfl 9 (by decide) w_119 rfl rfl hnm rfl rfl rfl (Nat.le_of_ble_eq_true rfl) rfl rfl ?_
  refine g_aload_n (z := 95) C dX8_init_94 0 rfl rfl rfl ?_
  refine g_sipush (v := 3016) (z := 98) C dX8_init_95 (by decide) rfl ?_
  refine g_newI (N := 3016) (a2 := 11) (b2 := 33176) (z := 100) C hR dX8_init_98 w_109 (by decide) (by decide) (Nat.le_of_ble_eq_true rfl) rfl rfl (Nat.le_of_ble_eq_true rfl) (Nat.le_of_ble_eq_true rfl) rfl (fun q11 => ?_)
  refine g_ws (w2 := [(h0, .inr (1, [.ref q1, .ref q2, .ref q3, .ref q4, .ref q5, .ref q6, .ref q7, .ref q8, .ref q9, .ref q10, .null, .int 0])), (q1, .inl (gK X 0, 3016, .inl (fun _ => 0))), (q2, .inl (gK X 0, 3016, .inl (fun _ => 0))), (q3, .inl (gK X 0, 3016, .inl (fun _ => 0))), (q4, .inl (gK X 0, 3016, .inl (fun _ => 0))), (q5, .inl (gK X 0, 3016, .inl (fun _ => 0))), (q6, .inl (gK X 0, 3016, .inl (fun _ => 0))), (q7, .inl (gK X 0, 3016, .inl (fun _ => 0))), (q8, .inl (gK X 0, 3016, .inl (fun _ => 0))), (q9, .inl (gK X 1, 3016, .inr (.inl (fun _ => 0)))), (q10, .inl (gK X 0, 3016, .inl (fun _ => 0))), (q11, .inl (gK X 0, 3016, .inl (fun _ => 0)))]) rfl ?_
  refine g_putF (w2 := [(h0, .inr (1, [.ref q1, .ref q2, .ref q3, .ref q4, .ref q5, .ref q6, .ref q7, .ref q8, .ref q9, .ref q10, .ref q11, .int 0])), (q1, .inl (gK X 0, 3016, .inl (fun _ => 0))), (q2, .inl (gK X 0, 3016, .inl (fun _ => 0))), (q3, .inl (gK X 0, 3016, .inl (fun _ => 0))), (q4, .inl (gK X 0, 3016, .inl (fun _ => 0))), (q5, .inl (gK X 0, 3016, .inl (fun _ => 0))), (q6, .inl (gK X 0, 3016, .inl (fun _ => 0))), (q7, .inl (gK X 0, 3016, .inl (fun _ => 0))), (q8, .inl (gK X 0, 3016, .inl (fun _ => 0))), (q9, .inl (gK X 1, 3016, .inr (.inl (fun _ => 0)))), (q10, .inl (gK X 0, 3016, .inl (fun _ => 0))), (q11, .inl (gK X 0, 3016, .inl (fun _ => 0)))]) (z := 103) C kX8 dX8_init_100 0 rfl 10 (by decide) w_120 rfl rfl hnm rfl rfl rfl (Nat.le_of_ble_eq_true rfl) rfl rfl ?_
  refine g_aload_n (z := 104) C dX8_init_103 0 rfl rfl rfl ?_
  refine g_iconst (v := 1) (z := 105) C dX8_init_104 (by decide) rfl ?_
  refine g_put (w2 := [(h0, .inr (1, [.ref q1, .ref q2, .ref q3, .ref q4, .ref q5, .ref q6, .ref q7, .ref q8, .ref q9, .ref q10, .ref q11, .int 1])), (q1, .inl (gK X 0, 3016, .inl (fun _ => 0))), (q2, .inl (gK X 0, 3016, .inl (fun _ => 0))), (q3, .inl (gK X 0, 3016, .inl (fun _ => 0))), (q4, .inl (gK X 0, 3016, .inl (fun _ => 0))), (q5, .inl (gK X 0, 3016, .inl (fun _ => 0))), (q6, .inl (gK X 0, 3016, .inl (fun _ => 0))), (q7, .inl (gK X 0, 3016, .inl (fun _ => 0))), (q8, .inl (gK X 0, 3016, .inl (fun _ => 0))), (q9, .inl (gK X 1, 3016, .inr (.inl (fun _ => 0)))), (q10, .inl (gK X 0, 3016, .inl (fun _ => 0))), (q11, .inl (gK X 0, 3016, .inl (fun _ => 0)))]) (z := 108) C kX8 dX8_init_105 0 rfl 11 (by decide) w_121 rfl rfl rfl rfl (Nat.le_of_ble_eq_true rfl) rfl rfl ?_
  exact g_vret C hQ dX8_init_108 (Nat.le_of_ble_eq_true rfl) (Nat.le_of_ble_eq_true rfl) ⟨rfl, q1, q2, q3, q4, q5, q6, q7, q8, q9, q10, q11, rfl⟩
set_option maxHeartbeats 4000000 in
set_option maxRecDepth 100000 in
/-- Types() -/
theorem k_X9_init (l : Launch) (D : va_G) (K : KS) (h0 : Nat) : Con l D K yX9_init cX9_init 1 none 1 12 15 14160 [.ref h0] [(h0, .inr (9, [.null, .null, .int 0, .null, .null, .null, .null, .null, .null, .null, .int 0, .null, .null, .null, .int 0, .null, .null, .null, .int 0]))] (fun v w => v = none ∧ ∃ (q1 : Nat) (q2 : Nat) (q3 : Nat) (q4 : Nat) (q5 : Nat) (q6 : Nat) (q7 : Nat) (q8 : Nat) (q9 : Nat) (q10 : Nat) (q11 : Nat) (q12 : Nat) (q13 : Nat) (q14 : Nat) (q15 : Nat), w = [(h0, .inr (9, [.ref q1, .ref q2, .int 0, .ref q3, .ref q4, .ref q5, .ref q6, .ref q7, .ref q8, .ref q9, .int 0, .ref q10, .ref q11, .ref q12, .int 0, .ref q13, .ref q14, .ref q15, .int 0])), (q1, .inl (K 0, 1504, .inl (fun _ => 0)))]) := by
  refine Con.of (by decide +kernel) (Nat.le_of_ble_eq_true rfl) ?_
  intro X hXl hXD hXK C hR hQ hnm
  subst hXl; subst hXD; subst hXK
  refine g_lv (l2 := [(0, .ref h0)]) [0] rfl ?_
  refine g_aload_n (z := 1) C dX9_init_0 0 rfl rfl rfl ?_
  refine g_objInit (z := 4) C hR dX9_init_1 w_286 w_0 w_1 (Nat.le_of_ble_eq_true rfl) (Nat.le_of_ble_eq_true rfl) rfl ?_
  refine g_aload_n (z := 5) C dX9_init_4 0 rfl rfl rfl ?_
  refine g_sipush (v := 1504) (z := 8) C dX9_init_5 (by decide) rfl ?_
  refine g_newI (N := 1504) (a2 := 1) (b2 := 1504) (z := 10) C hR dX9_init_8 w_109 (by decide) (by decide) (Nat.le_of_ble_eq_true rfl) rfl rfl (Nat.le_of_ble_eq_true rfl) (Nat.le_of_ble_eq_true rfl) rfl (fun q1 => ?_)
  refine g_ws (w2 := [(h0, .inr (9, [.null, .null, .int 0, .null, .null, .null, .null, .null, .null, .null, .int 0, .null, .null, .null, .int 0, .null, .null, .null, .int 0])), (q1, .inl (gK X 0, 1504, .inl (fun _ => 0)))]) rfl ?_
  refine g_putF (w2 := [(h0, .inr (9, [.ref q1, .null, .int 0, .null, .null, .null, .null, .null, .null, .null, .int 0, .null, .null, .null, .int 0, .null, .null, .null, .int 0])), (q1, .inl (gK X 0, 1504, .inl (fun _ => 0)))]) (z := 13) C kX9 dX9_init_10 0 rfl 0 (by decide) w_287 rfl rfl hnm rfl rfl rfl (Nat.le_of_ble_eq_true rfl) rfl rfl ?_
  refine g_aload_n (z := 14) C dX9_init_13 0 rfl rfl rfl ?_
  refine g_sipush (v := 1504) (z := 17) C dX9_init_14 (by decide) rfl ?_
  refine g_newID (N := 1504) (a2 := 2) (b2 := 3008) (z := 19) C hR dX9_init_17 w_109 (by decide) (by decide) (Nat.le_of_ble_eq_true rfl) rfl rfl (Nat.le_of_ble_eq_true rfl) (Nat.le_of_ble_eq_true rfl) rfl (fun q2 => ?_)
  refine g_putF (w2 := [(h0, .inr (9, [.ref q1, .ref q2, .int 0, .null, .null, .null, .null, .null, .null, .null, .int 0, .null, .null, .null, .int 0, .null, .null, .null, .int 0])), (q1, .inl (gK X 0, 1504, .inl (fun _ => 0)))]) (z := 22) C kX9 dX9_init_19 0 rfl 1 (by decide) w_288 rfl rfl hnm rfl rfl rfl (Nat.le_of_ble_eq_true rfl) rfl rfl ?_
  refine g_aload_n (z := 23) C dX9_init_22 0 rfl rfl rfl ?_
  refine g_sipush (v := 304) (z := 26) C dX9_init_23 (by decide) rfl ?_
  refine g_newID (N := 304) (a2 := 3) (b2 := 3312) (z := 28) C hR dX9_init_26 w_109 (by decide) (by decide) (Nat.le_of_ble_eq_true rfl) rfl rfl (Nat.le_of_ble_eq_true rfl) (Nat.le_of_ble_eq_true rfl) rfl (fun q3 => ?_)
  refine g_putF (w2 := [(h0, .inr (9, [.ref q1, .ref q2, .int 0, .ref q3, .null, .null, .null, .null, .null, .null, .int 0, .null, .null, .null, .int 0, .null, .null, .null, .int 0])), (q1, .inl (gK X 0, 1504, .inl (fun _ => 0)))]) (z := 31) C kX9 dX9_init_28 0 rfl 3 (by decide) w_289 rfl rfl hnm rfl rfl rfl (Nat.le_of_ble_eq_true rfl) rfl rfl ?_
  refine g_aload_n (z := 32) C dX9_init_31 0 rfl rfl rfl ?_
  refine g_sipush (v := 304) (z := 35) C dX9_init_32 (by decide) rfl ?_
  refine g_newID (N := 304) (a2 := 4) (b2 := 3616) (z := 37) C hR dX9_init_35 w_109 (by decide) (by decide) (Nat.le_of_ble_eq_true rfl) rfl rfl (Nat.le_of_ble_eq_true rfl) (Nat.le_of_ble_eq_true rfl) rfl (fun q4 => ?_)
  refine g_putF (w2 := [(h0, .inr (9, [.ref q1, .ref q2, .int 0, .ref q3, .ref q4, .null, .null, .null, .null, .null, .int 0, .null, .null, .null, .int 0, .null, .null, .null, .int 0])), (q1, .inl (gK X 0, 1504, .inl (fun _ => 0)))]) (z := 40) C kX9 dX9_init_37 0 rfl 4 (by decide) w_290 rfl rfl hnm rfl rfl rfl (Nat.le_of_ble_eq_true rfl) rfl rfl ?_
  refine g_aload_n (z := 41) C dX9_init_40 0 rfl rfl rfl ?_
  refine g_sipush (v := 304) (z := 44) C dX9_init_41 (by decide) rfl ?_
  refine g_newID (N := 304) (a2 := 5) (b2 := 3920) (z := 46) C hR dX9_init_44 w_109 (by decide) (by decide) (Nat.le_of_ble_eq_true rfl) rfl rfl (Nat.le_of_ble_eq_true rfl) (Nat.le_of_ble_eq_true rfl) rfl (fun q5 => ?_)
  refine g_putF (w2 := [(h0, .inr (9, [.ref q1, .ref q2, .int 0, .ref q3, .ref q4, .ref q5, .null, .null, .null, .null, .int 0, .null, .null, .null, .int 0, .null, .null, .null, .int 0])), (q1, .inl (gK X 0, 1504, .inl (fun _ => 0)))]) (z := 49) C kX9 dX9_init_46 0 rfl 5 (by decide) w_291 rfl rfl hnm rfl rfl rfl (Nat.le_of_ble_eq_true rfl) rfl rfl ?_
  refine g_aload_n (z := 50) C dX9_init_49 0 rfl rfl rfl ?_
  refine g_sipush (v := 304) (z := 53) C dX9_init_50 (by decide) rfl ?_
  refine g_newID (N := 304) (a2 := 6) (b2 := 4224) (z := 55) C hR dX9_init_53 w_109 (by decide) (by decide) (Nat.le_of_ble_eq_true rfl) rfl rfl (Nat.le_of_ble_eq_true rfl) (Nat.le_of_ble_eq_true rfl) rfl (fun q6 => ?_)
  refine g_putF (w2 := [(h0, .inr (9, [.ref q1, .ref q2, .int 0, .ref q3, .ref q4, .ref q5, .ref q6, .null, .null, .null, .int 0, .null, .null, .null, .int 0, .null, .null, .null, .int 0])), (q1, .inl (gK X 0, 1504, .inl (fun _ => 0)))]) (z := 58) C kX9 dX9_init_55 0 rfl 6 (by decide) w_292 rfl rfl hnm rfl rfl rfl (Nat.le_of_ble_eq_true rfl) rfl rfl ?_
  refine g_aload_n (z := 59) C dX9_init_58 0 rfl rfl rfl ?_
  refine g_sipush (v := 304) (z := 62) C dX9_init_59 (by decide) rfl ?_
  refine g_newID (N := 304) (a2 := 7) (b2 := 4528) (z := 64) C hR dX9_init_62 w_109 (by decide) (by decide) (Nat.le_of_ble_eq_true rfl) rfl rfl (Nat.le_of_ble_eq_true rfl) (Nat.le_of_ble_eq_true rfl) rfl (fun q7 => ?_)
  refine g_putF (w2 := [(h0, .inr (9, [.ref q1, .ref q2, .int 0, .ref q3, .ref q4, .ref q5, .ref q6, .ref q7, .null, .null, .int 0, .null, .null, .null, .int 0, .null, .null, .null, .int 0])), (q1, .inl (gK X 0, 1504, .inl (fun _ => 0)))]) (z := 67) C kX9 dX9_init_64 0 rfl 7 (by decide) w_293 rfl rfl hnm rfl rfl rfl (Nat.le_of_ble_eq_true rfl) rfl rfl ?_
  refine g_aload_n (z := 68) C dX9_init_67 0 rfl rfl rfl ?_
  refine g_sipush (v := 304) (z := 71) C dX9_init_68 (by decide) rfl ?_
  refine g_newID (N := 304) (a2 := 8) (b2 := 4832) (z := 73) C hR dX9_init_71 w_109 (by decide) (by decide) (Nat.le_of_ble_eq_true rfl) rfl rfl (Nat.le_of_ble_eq_true rfl) (Nat.le_of_ble_eq_true rfl) rfl (fun q8 => ?_)
  refine g_putF (w2 := [(h0, .inr (9, [.ref q1, .ref q2, .int 0, .ref q3, .ref q4, .ref q5, .ref q6, .ref q7, .ref q8, .null, .int 0, .null, .null, .null, .int 0, .null, .null, .null, .int 0])), (q1, .inl (gK X 0, 1504, .inl (fun _ => 0)))]) (z := 76) C kX9 dX9_init_73 0 rfl 8 (by decide) w_294 rfl rfl hnm rfl rfl rfl (Nat.le_of_ble_eq_true rfl) rfl rfl ?_
  refine g_aload_n (z := 77) C dX9_init_76 0 rfl rfl rfl ?_
  refine g_sipush (v := 304) (z := 80) C dX9_init_77 (by decide) rfl ?_
  refine g_newID (N := 304) (a2 := 9) (b2 := 5136) (z := 82) C hR dX9_init_80 w_109 (by decide) (by decide) (Nat.le_of_ble_eq_true rfl) rfl rfl (Nat.le_of_ble_eq_true rfl) (Nat.le_of_ble_eq_true rfl) rfl (fun q9 => ?_)
  refine g_putF (w2 := [(h0, .inr (9, [.ref q1, .ref q2, .int 0, .ref q3, .ref q4, .ref q5, .ref q6, .ref q7, .ref q8, .ref q9, .int 0, .null, .null, .null, .int 0, .null, .null, .null, .int 0])), (q1, .inl (gK X 0, 1504, .inl (fun _ => 0)))]) (z := 85) C kX9 dX9_init_82 0 rfl 9 (by decide) w_295 rfl rfl hnm rfl rfl rfl (Nat.le_of_ble_eq_true rfl) rfl rfl ?_
  refine g_aload_n (z := 86) C dX9_init_85 0 rfl rfl rfl ?_
  refine g_sipush (v := 1504) (z := 89) C dX9_init_86 (by decide) rfl ?_
  refine g_newID (N := 1504) (a2 := 10) (b2 := 6640) (z := 91) C hR dX9_init_89 w_109 (by decide) (by decide) (Nat.le_of_ble_eq_true rfl) rfl rfl (Nat.le_of_ble_eq_true rfl) (Nat.le_of_ble_eq_true rfl) rfl (fun q10 => ?_)
  refine g_putF (w2 := [(h0, .inr (9, [.ref q1, .ref q2, .int 0, .ref q3, .ref q4, .ref q5, .ref q6, .ref q7, .ref q8, .ref q9, .int 0, .ref q10, .null, .null, .int 0, .null, .null, .null, .int 0])), (q1, .inl (gK X 0, 1504, .inl (fun _ => 0)))]) (z := 94) C kX9 dX9_init_91 0 rfl 11 (by decide) w_296 rfl rfl hnm rfl rfl rfl (Nat.le_of_ble_eq_true rfl) rfl rfl ?_
  refine g_aload_n (z := 95) C dX9_init_94 0 rfl rfl rfl ?_
  refine g_sipush (v := 1504) (z := 98) C dX9_init_95 (by decide) rfl ?_
  refine g_newID (N := 1504) (a2 := 11) (b2 := 8144) (z := 100) C hR dX9_init_98 w_109 (by decide) (by decide) (Nat.le_of_ble_eq_true rfl) rfl rfl (Nat.le_of_ble_eq_true rfl) (Nat.le_of_ble_eq_true rfl) rfl (fun q11 => ?_)
  refine g_putF (w2 := [(h0, .inr (9, [.ref q1, .ref q2, .int 0, .ref q3, .ref q4, .ref q5, .ref q6, .ref q7, .ref q8, .ref q9, .int 0, .ref q10, .ref q11, .null, .int 0, .null, .null, .null, .int 0])), (q1, .inl (gK X 0, 1504, .inl (fun _ => 0)))]) (z := 103) C kX9 dX9_init_100 0 rfl 12 (by decide) w_297 rfl rfl hnm rfl rfl rfl (Nat.le_of_ble_eq_true rfl) rfl rfl ?_
  refine g_aload_n (z := 104) C dX9_init_103 0 rfl rfl rfl ?_
  refine g_sipush (v := 1504) (z := 107) C dX9_init_104 (by decide) rfl ?_
  refine g_newID (N := 1504) (a2 := 12) (b2 := 9648) (z := 109) C hR dX9_init_107 w_109 (by decide) (by decide) (Nat.le_of_ble_eq_true rfl) rfl rfl (Nat.le_of_ble_eq_true rfl) (Nat.le_of_ble_eq_true rfl) rfl (fun q12 => ?_)
  refine g_putF (w2 := [(h0, .inr (9, [.ref q1, .ref q2, .int 0, .ref q3, .ref q4, .ref q5, .ref q6, .ref q7, .ref q8, .ref q9, .int 0, .ref q10, .ref q11, .ref q12, .int 0, .null, .null, .null, .int 0])), (q1, .inl (gK X 0, 1504, .inl (fun _ => 0)))]) (z := 112) C kX9 dX9_init_109 0 rfl 13 (by decide) w_298 rfl rfl hnm rfl rfl rfl (Nat.le_of_ble_eq_true rfl) rfl rfl ?_
  refine g_aload_n (z := 113) C dX9_init_112 0 rfl rfl rfl ?_
  refine g_sipush (v := 1504) (z := 116) C dX9_init_113 (by decide) rfl ?_
  refine g_newID (N := 1504) (a2 := 13) (b2 := 11152) (z := 118) C hR dX9_init_116 w_109 (by decide) (by decide) (Nat.le_of_ble_eq_true rfl) rfl rfl (Nat.le_of_ble_eq_true rfl) (Nat.le_of_ble_eq_true rfl) rfl (fun q13 => ?_)
  refine g_putF (w2 := [(h0, .inr (9, [.ref q1, .ref q2, .int 0, .ref q3, .ref q4, .ref q5, .ref q6, .ref q7, .ref q8, .ref q9, .int 0, .ref q10, .ref q11, .ref q12, .int 0, .ref q13, .null, .null, .int 0])), (q1, .inl (gK X 0, 1504, .inl (fun _ => 0)))]) (z := 121) C kX9 dX9_init_118 0 rfl 15 (by decide) w_299 rfl rfl hnm rfl rfl rfl (Nat.le_of_ble_eq_true rfl) rfl rfl ?_
  refine g_aload_n (z := 122) C dX9_init_121 0 rfl rfl rfl ?_
  refine g_sipush (v := 1504) (z := 125) C dX9_init_122 (by decide) rfl ?_
  refine g_newID (N := 1504) (a2 := 14) (b2 := 12656) (z := 127) C hR dX9_init_125 w_109 (by decide) (by decide) (Nat.le_of_ble_eq_true rfl) rfl rfl (Nat.le_of_ble_eq_true rfl) (Nat.le_of_ble_eq_true rfl) rfl (fun q14 => ?_)
  refine g_putF (w2 := [(h0, .inr (9, [.ref q1, .ref q2, .int 0, .ref q3, .ref q4, .ref q5, .ref q6, .ref q7, .ref q8, .ref q9, .int 0, .ref q10, .ref q11, .ref q12, .int 0, .ref q13, .ref q14, .null, .int 0])), (q1, .inl (gK X 0, 1504, .inl (fun _ => 0)))]) (z := 130) C kX9 dX9_init_127 0 rfl 16 (by decide) w_300 rfl rfl hnm rfl rfl rfl (Nat.le_of_ble_eq_true rfl) rfl rfl ?_
  refine g_aload_n (z := 131) C dX9_init_130 0 rfl rfl rfl ?_
  refine g_sipush (v := 1504) (z := 134) C dX9_init_131 (by decide) rfl ?_
  refine g_newID (N := 1504) (a2 := 15) (b2 := 14160) (z := 136) C hR dX9_init_134 w_109 (by decide) (by decide) (Nat.le_of_ble_eq_true rfl) rfl rfl (Nat.le_of_ble_eq_true rfl) (Nat.le_of_ble_eq_true rfl) rfl (fun q15 => ?_)
  refine g_putF (w2 := [(h0, .inr (9, [.ref q1, .ref q2, .int 0, .ref q3, .ref q4, .ref q5, .ref q6, .ref q7, .ref q8, .ref q9, .int 0, .ref q10, .ref q11, .ref q12, .int 0, .ref q13, .ref q14, .ref q15, .int 0])), (q1, .inl (gK X 0, 1504, .inl (fun _ => 0)))]) (z := 139) C kX9 dX9_init_136 0 rfl 17 (by decide) w_301 rfl rfl hnm rfl rfl rfl (Nat.le_of_ble_eq_true rfl) rfl rfl ?_
  exact g_vret C hQ dX9_init_139 (Nat.le_of_ble_eq_true rfl) (Nat.le_of_ble_eq_true rfl) ⟨rfl, q1, q2, q3, q4, q5, q6, q7, q8, q9, q10, q11, q12, q13, q14, q15, rfl⟩
set_option maxHeartbeats 4000000 in
set_option maxRecDepth 100000 in
/-- Functions() -/
theorem k_X2_init (l : Launch) (D : va_G) (K : KS) (h0 : Nat) : Con l D K yX2_init cX2_init 1 none 1 12 16 7204 [.ref h0] [(h0, .inr (10, [.null, .null, .null, .null, .null, .null, .null, .int 0, .null, .null, .null, .null, .null, .null, .null, .null, .null, .int 0, .int 0]))] (fun v w => v = none ∧ ∃ (q1 : Nat) (q2 : Nat) (q3 : Nat) (q4 : Nat) (q5 : Nat) (q6 : Nat) (q7 : Nat) (q8 : Nat) (q9 : Nat) (q10 : Nat) (q11 : Nat) (q12 : Nat) (q13 : Nat) (q14 : Nat) (q15 : Nat) (q16 : Nat), w = [(h0, .inr (10, [.ref q1, .ref q2, .ref q3, .ref q4, .ref q5, .ref q6, .ref q7, .int 0, .ref q8, .ref q9, .ref q10, .ref q11, .ref q12, .ref q13, .ref q14, .ref q15, .ref q16, .int 0, .int 0]))]) := by
  refine Con.of (by decide +kernel) (Nat.le_of_ble_eq_true rfl) ?_
  intro X hXl hXD hXK C hR hQ hnm
  subst hXl; subst hXD; subst hXK
  refine g_lv (l2 := [(0, .ref h0)]) [0] rfl ?_
  refine g_aload_n (z := 1) C dX2_init_0 0 rfl rfl rfl ?_
  refine g_objInit (z := 4) C hR dX2_init_1 w_314 w_0 w_1 (Nat.le_of_ble_eq_true rfl) (Nat.le_of_ble_eq_true rfl) rfl ?_
  refine g_aload_n (z := 5) C dX2_init_4 0 rfl rfl rfl ?_
  refine g_sipush (v := 380) (z := 8) C dX2_init_5 (by decide) rfl ?_
  refine g_newID (N := 380) (a2 := 1) (b2 := 380) (z := 10) C hR dX2_init_8 w_109 (by decide) (by decide) (Nat.le_of_ble_eq_true rfl) rfl rfl (Nat.le_of_ble_eq_true rfl) (Nat.le_of_ble_eq_true rfl) rfl (fun q1 => ?_)
  refine g_putF (w2 := [(h0, .inr (10, [.ref q1, .null, .null, .null, .null, .null, .null, .int 0, .null, .null, .null, .null, .null, .null, .null, .null, .null, .int 0, .int 0]))]) (z := 13) C kX2 dX2_init_10 0 rfl 0 (by decide) w_315 rfl rfl hnm rfl rfl rfl (Nat.le_of_ble_eq_true rfl) rfl rfl ?_
  refine g_aload_n (z := 14) C dX2_init_13 0 rfl rfl rfl ?_
  refine g_sipush (v := 380) (z := 17) C dX2_init_14 (by decide) rfl ?_
  refine g_newID (N := 380) (a2 := 2) (b2 := 760) (z := 19) C hR dX2_init_17 w_109 (by decide) (by decide) (Nat.le_of_ble_eq_true rfl) rfl rfl (Nat.le_of_ble_eq_true rfl) (Nat.le_of_ble_eq_true rfl) rfl (fun q2 => ?_)
  refine g_putF (w2 := [(h0, .inr (10, [.ref q1, .ref q2, .null, .null, .null, .null, .null, .int 0, .null, .null, .null, .null, .null, .null, .null, .null, .null, .int 0, .int 0]))]) (z := 22) C kX2 dX2_init_19 0 rfl 1 (by decide) w_316 rfl rfl hnm rfl rfl rfl (Nat.le_of_ble_eq_true rfl) rfl rfl ?_
  refine g_aload_n (z := 23) C dX2_init_22 0 rfl rfl rfl ?_
  refine g_sipush (v := 380) (z := 26) C dX2_init_23 (by decide) rfl ?_
  refine g_newID (N := 380) (a2 := 3) (b2 := 1140) (z := 28) C hR dX2_init_26 w_109 (by decide) (by decide) (Nat.le_of_ble_eq_true rfl) rfl rfl (Nat.le_of_ble_eq_true rfl) (Nat.le_of_ble_eq_true rfl) rfl (fun q3 => ?_)
  refine g_putF (w2 := [(h0, .inr (10, [.ref q1, .ref q2, .ref q3, .null, .null, .null, .null, .int 0, .null, .null, .null, .null, .null, .null, .null, .null, .null, .int 0, .int 0]))]) (z := 31) C kX2 dX2_init_28 0 rfl 2 (by decide) w_317 rfl rfl hnm rfl rfl rfl (Nat.le_of_ble_eq_true rfl) rfl rfl ?_
  refine g_aload_n (z := 32) C dX2_init_31 0 rfl rfl rfl ?_
  refine g_sipush (v := 380) (z := 35) C dX2_init_32 (by decide) rfl ?_
  refine g_newJD (N := 380) (a2 := 4) (b2 := 1520) (z := 37) C hR dX2_init_35 w_8 (by decide) (by decide) (Nat.le_of_ble_eq_true rfl) rfl rfl (Nat.le_of_ble_eq_true rfl) (Nat.le_of_ble_eq_true rfl) rfl (fun q4 => ?_)
  refine g_putF (w2 := [(h0, .inr (10, [.ref q1, .ref q2, .ref q3, .ref q4, .null, .null, .null, .int 0, .null, .null, .null, .null, .null, .null, .null, .null, .null, .int 0, .int 0]))]) (z := 40) C kX2 dX2_init_37 0 rfl 3 (by decide) w_318 rfl rfl hnm rfl rfl rfl (Nat.le_of_ble_eq_true rfl) rfl rfl ?_
  refine g_aload_n (z := 41) C dX2_init_40 0 rfl rfl rfl ?_
  refine g_sipush (v := 380) (z := 44) C dX2_init_41 (by decide) rfl ?_
  refine g_newID (N := 380) (a2 := 5) (b2 := 1900) (z := 46) C hR dX2_init_44 w_109 (by decide) (by decide) (Nat.le_of_ble_eq_true rfl) rfl rfl (Nat.le_of_ble_eq_true rfl) (Nat.le_of_ble_eq_true rfl) rfl (fun q5 => ?_)
  refine g_putF (w2 := [(h0, .inr (10, [.ref q1, .ref q2, .ref q3, .ref q4, .ref q5, .null, .null, .int 0, .null, .null, .null, .null, .null, .null, .null, .null, .null, .int 0, .int 0]))]) (z := 49) C kX2 dX2_init_46 0 rfl 4 (by decide) w_319 rfl rfl hnm rfl rfl rfl (Nat.le_of_ble_eq_true rfl) rfl rfl ?_
  refine g_aload_n (z := 50) C dX2_init_49 0 rfl rfl rfl ?_
  refine g_sipush (v := 380) (z := 53) C dX2_init_50 (by decide) rfl ?_
  refine g_newID (N := 380) (a2 := 6) (b2 := 2280) (z := 55) C hR dX2_init_53 w_109 (by decide) (by decide) (Nat.le_of_ble_eq_true rfl) rfl rfl (Nat.le_of_ble_eq_true rfl) (Nat.le_of_ble_eq_true rfl) rfl (fun q6 => ?_)
  refine g_putF (w2 := [(h0, .inr (10, [.ref q1, .ref q2, .ref q3, .ref q4, .ref q5, .ref q6, .null, .int 0, .null, .null, .null, .null, .null, .null, .null, .null, .null, .int 0, .int 0]))]) (z := 58) C kX2 dX2_init_55 0 rfl 5 (by decide) w_320 rfl rfl hnm rfl rfl rfl (Nat.le_of_ble_eq_true rfl) rfl rfl ?_
  refine g_aload_n (z := 59) C dX2_init_58 0 rfl rfl rfl ?_
  refine g_sipush (v := 1504) (z := 62) C dX2_init_59 (by decide) rfl ?_
  refine g_newID (N := 1504) (a2 := 7) (b2 := 3784) (z := 64) C hR dX2_init_62 w_109 (by decide) (by decide) (Nat.le_of_ble_eq_true rfl) rfl rfl (Nat.le_of_ble_eq_true rfl) (Nat.le_of_ble_eq_true rfl) rfl (fun q7 => ?_)
  refine g_putF (w2 := [(h0, .inr (10, [.ref q1, .ref q2, .ref q3, .ref q4, .ref q5, .ref q6, .ref q7, .int 0, .null, .null, .null, .null, .null, .null, .null, .null, .null, .int 0, .int 0]))]) (z := 67) C kX2 dX2_init_64 0 rfl 6 (by decide) w_321 rfl rfl hnm rfl rfl rfl (Nat.le_of_ble_eq_true rfl) rfl rfl ?_
  refine g_aload_n (z := 68) C dX2_init_67 0 rfl rfl rfl ?_
  refine g_sipush (v := 380) (z := 71) C dX2_init_68 (by decide) rfl ?_
  refine g_newID (N := 380) (a2 := 8) (b2 := 4164) (z := 73) C hR dX2_init_71 w_109 (by decide) (by decide) (Nat.le_of_ble_eq_true rfl) rfl rfl (Nat.le_of_ble_eq_true rfl) (Nat.le_of_ble_eq_true rfl) rfl (fun q8 => ?_)
  refine g_putF (w2 := [(h0, .inr (10, [.ref q1, .ref q2, .ref q3, .ref q4, .ref q5, .ref q6, .ref q7, .int 0, .ref q8, .null, .null, .null, .null, .null, .null, .null, .null, .int 0, .int 0]))]) (z := 76) C kX2 dX2_init_73 0 rfl 8 (by decide) w_322 rfl rfl hnm rfl rfl rfl (Nat.le_of_ble_eq_true rfl) rfl rfl ?_
  refine g_aload_n (z := 77) C dX2_init_76 0 rfl rfl rfl ?_
  refine g_sipush (v := 380) (z := 80) C dX2_init_77 (by decide) rfl ?_
  refine g_newID (N := 380) (a2 := 9) (b2 := 4544) (z := 82) C hR dX2_init_80 w_109 (by decide) (by decide) (Nat.le_of_ble_eq_true rfl) rfl rfl (Nat.le_of_ble_eq_true rfl) (Nat.le_of_ble_eq_true rfl) rfl (fun q9 => ?_)
  refine g_putF (w2 := [(h0, .inr (10, [.ref q1, .ref q2, .ref q3, .ref q4, .ref q5, .ref q6, .ref q7, .int 0, .ref q8, .ref q9, .null, .null, .null, .null, .null, .null, .null, .int 0, .int 0]))]) (z := 85) C kX2 dX2_init_82 0 rfl 9 (by decide) w_323 rfl rfl hnm rfl rfl rfl (Nat.le_of_ble_eq_true rfl) rfl rfl ?_
  refine g_aload_n (z := 86) C dX2_init_85 0 rfl rfl rfl ?_
  refine g_sipush (v := 380) (z := 89) C dX2_init_86 (by decide) rfl ?_
  refine g_newID (N := 380) (a2 := 10) (b2 := 4924) (z := 91) C hR dX2_init_89 w_109 (by decide) (by decide) (Nat.le_of_ble_eq_true rfl) rfl rfl (Nat.le_of_ble_eq_true rfl) (Nat.le_of_ble_eq_true rfl) rfl (fun q10 => ?_)
  refine g_putF (w2 := [(h0, .inr (10, [.ref q1, .ref q2, .ref q3, .ref q4, .ref q5, .ref q6, .ref q7, .int 0, .ref q8, .ref q9, .ref q10, .null, .null, .null, .null, .null, .null, .int 0, .int 0]))]) (z := 94) C kX2 dX2_init_91 0 rfl 10 (by decide) w_324 rfl rfl hnm rfl rfl rfl (Nat.le_of_ble_eq_true rfl) rfl rfl ?_
  refine g_aload_n (z := 95) C dX2_init_94 0 rfl rfl rfl ?_
  refine g_sipush (v := 380) (z := 98) C dX2_init_95 (by decide) rfl ?_
  refine g_newID (N := 380) (a2 := 11) (b2 := 5304) (z := 100) C hR dX2_init_98 w_109 (by decide) (by decide) (Nat.le_of_ble_eq_true rfl) rfl rfl (Nat.le_of_ble_eq_true rfl) (Nat.le_of_ble_eq_true rfl) rfl (fun q11 => ?_)
  refine g_putF (w2 := [(h0, .inr (10, [.ref q1, .ref q2, .ref q3, .ref q4, .ref q5, .ref q6, .ref q7, .int 0, .ref q8, .ref q9, .ref q10, .ref q11, .null, .null, .null, .null, .null, .int 0, .int 0]))]) (z := 103) C kX2 dX2_init_100 0 rfl 11 (by decide) w_325 rfl rfl hnm rfl rfl rfl (Nat.le_of_ble_eq_true rfl) rfl rfl ?_
  refine g_aload_n (z := 104) C dX2_init_103 0 rfl rfl rfl ?_
  refine g_sipush (v := 380) (z := 107) C dX2_init_104 (by decide) rfl ?_
  refine g_newID (N := 380) (a2 := 12) (b2 := 5684) (z := 109) C hR dX2_init_107 w_109 (by decide) (by decide) (Nat.le_of_ble_eq_true rfl) rfl rfl (Nat.le_of_ble_eq_true rfl) (Nat.le_of_ble_eq_true rfl) rfl (fun q12 => ?_)
  refine g_putF (w2 := [(h0, .inr (10, [.ref q1, .ref q2, .ref q3, .ref q4, .ref q5, .ref q6, .ref q7, .int 0, .ref q8, .ref q9, .ref q10, .ref q11, .ref q12, .null, .null, .null, .null, .int 0, .int 0]))]) (z := 112) C kX2 dX2_init_109 0 rfl 12 (by decide) w_326 rfl rfl hnm rfl rfl rfl (Nat.le_of_ble_eq_true rfl) rfl rfl ?_
  refine g_aload_n (z := 113) C dX2_init_112 0 rfl rfl rfl ?_
  refine g_sipush (v := 380) (z := 116) C dX2_init_113 (by decide) rfl ?_
  refine g_newID (N := 380) (a2 := 13) (b2 := 6064) (z := 118) C hR dX2_init_116 w_109 (by decide) (by decide) (Nat.le_of_ble_eq_true rfl) rfl rfl (Nat.le_of_ble_eq_true rfl) (Nat.le_of_ble_eq_true rfl) rfl (fun q13 => ?_)
  refine g_putF (w2 := [(h0, .inr (10, [.ref q1, .ref q2, .ref q3, .ref q4, .ref q5, .ref q6, .ref q7, .int 0, .ref q8, .ref q9, .ref q10, .ref q11, .ref q12, .ref q13, .null, .null, .null, .int 0, .int 0]))]) (z := 121) C kX2 dX2_init_118 0 rfl 13 (by decide) w_327 rfl rfl hnm rfl rfl rfl (Nat.le_of_ble_eq_true rfl) rfl rfl ?_
  refine g_aload_n (z := 122) C dX2_init_121 0 rfl rfl rfl ?_
  refine g_sipush (v := 380) (z := 125) C dX2_init_122 (by decide) rfl ?_
  refine g_newID (N := 380) (a2 := 14) (b2 := 6444) (z := 127) C hR dX2_init_125 w_109 (by decide) (by decide) (Nat.le_of_ble_eq_true rfl) rfl rfl (Nat.le_of_ble_eq_true rfl) (Nat.le_of_ble_eq_true rfl) rfl (fun q14 => ?_)
  refine g_putF (w2 := [(h0, .inr (10, [.ref q1, .ref q2, .ref q3, .ref q4, .ref q5, .ref q6, .ref q7, .int 0, .ref q8, .ref q9, .ref q10, .ref q11, .ref q12, .ref q13, .ref q14, .null, .null, .int 0, .int 0]))]) (z := 130) C kX2 dX2_init_127 0 rfl 14 (by decide) w_328 rfl rfl hnm rfl rfl rfl (Nat.le_of_ble_eq_true rfl) rfl rfl ?_
  refine g_aload_n (z := 131) C dX2_init_130 0 rfl rfl rfl ?_
  refine g_sipush (v := 380) (z := 134) C dX2_init_131 (by decide) rfl ?_
  refine g_newID (N := 380) (a2 := 15) (b2 := 6824) (z := 136) C hR dX2_init_134 w_109 (by decide) (by decide) (Nat.le_of_ble_eq_true rfl) rfl rfl (Nat.le_of_ble_eq_true rfl) (Nat.le_of_ble_eq_true rfl) rfl (fun q15 => ?_)
  refine g_putF (w2 := [(h0, .inr (10, [.ref q1, .ref q2, .ref q3, .ref q4, .ref q5, .ref q6, .ref q7, .int 0, .ref q8, .ref q9, .ref q10, .ref q11, .ref q12, .ref q13, .ref q14, .ref q15, .null, .int 0, .int 0]))]) (z := 139) C kX2 dX2_init_136 0 rfl 15 (by decide) w_329 rfl rfl hnm rfl rfl rfl (Nat.le_of_ble_eq_true rfl) rfl rfl ?_
  refine g_aload_n (z := 140) C dX2_init_139 0 rfl rfl rfl ?_
  refine g_sipush (v := 380) (z := 143) C dX2_init_140 (by decide) rfl ?_
  refine g_newID (N := 380) (a2 := 16) (b2 := 7204) (z := 145) C hR dX2_init_143 w_109 (by decide) (by decide) (Nat.le_of_ble_eq_true rfl) rfl rfl (Nat.le_of_ble_eq_true rfl) (Nat.le_of_ble_eq_true rfl) rfl (fun q16 => ?_)
  refine g_putF (w2 := [(h0, .inr (10, [.ref q1, .ref q2, .ref q3, .ref q4, .ref q5, .ref q6, .ref q7, .int 0, .ref q8, .ref q9, .ref q10, .ref q11, .ref q12, .ref q13, .ref q14, .ref q15, .ref q16, .int 0, .int 0]))]) (z := 148) C kX2 dX2_init_145 0 rfl 16 (by decide) w_330 rfl rfl hnm rfl rfl rfl (Nat.le_of_ble_eq_true rfl) rfl rfl ?_
  exact g_vret C hQ dX2_init_148 (Nat.le_of_ble_eq_true rfl) (Nat.le_of_ble_eq_true rfl) ⟨rfl, q1, q2, q3, q4, q5, q6, q7, q8, q9, q10, q11, q12, q13, q14, q15, q16, rfl⟩
set_option maxHeartbeats 4000000 in
set_option maxRecDepth 100000 in
/-- Variables() -/
theorem k_X10_init (l : Launch) (D : va_G) (K : KS) (h0 : Nat) : Con l D K yX10_init cX10_init 1 none 1 12 10 15632 [.ref h0] [(h0, .inr (11, [.null, .null, .null, .null, .null, .null, .null, .null, .int 0, .null, .null, .int 0]))] (fun v w => v = none ∧ ∃ (q1 : Nat) (q2 : Nat) (q3 : Nat) (q4 : Nat) (q5 : Nat) (q6 : Nat) (q7 : Nat) (q8 : Nat) (q9 : Nat) (q10 : Nat), w = [(h0, .inr (11, [.ref q1, .ref q2, .ref q3, .ref q4, .ref q5, .ref q6, .ref q7, .ref q8, .int 0, .ref q9, .ref q10, .int 0]))]) := by
  refine Con.of (by decide +kernel) (Nat.le_of_ble_eq_true rfl) ?_
  intro X hXl hXD hXK C hR hQ hnm
  subst hXl; subst hXD; subst hXK
  refine g_lv (l2 := [(0, .ref h0)]) [0] rfl ?_
  refine g_aload_n (z := 1) C dX10_init_0 0 rfl rfl rfl ?_
  refine g_objInit (z := 4) C hR dX10_init_1 w_339 w_0 w_1 (Nat.le_of_ble_eq_true rfl) (Nat.le_of_ble_eq_true rfl) rfl ?_
  refine g_aload_n (z := 5) C dX10_init_4 0 rfl rfl rfl ?_
  refine g_sipush (v := 1504) (z := 8) C dX10_init_5 (by decide) rfl ?_
  refine g_newID (N := 1504) (a2 := 1) (b2 := 1504) (z := 10) C hR dX10_init_8 w_109 (by decide) (by decide) (Nat.le_of_ble_eq_true rfl) rfl rfl (Nat.le_of_ble_eq_true rfl) (Nat.le_of_ble_eq_true rfl) rfl (fun q1 => ?_)
  refine g_putF (w2 := [(h0, .inr (11, [.ref q1, .null, .null, .null, .null, .null, .null, .null, .int 0, .null, .null, .int 0]))]) (z := 13) C kX10 dX10_init_10 0 rfl 0 (by decide) w_340 rfl rfl hnm rfl rfl rfl (Nat.le_of_ble_eq_true rfl) rfl rfl ?_
  refine g_aload_n (z := 14) C dX10_init_13 0 rfl rfl rfl ?_
  refine g_sipush (v := 1504) (z := 17) C dX10_init_14 (by decide) rfl ?_
  refine g_newID (N := 1504) (a2 := 2) (b2 := 3008) (z := 19) C hR dX10_init_17 w_109 (by decide) (by decide) (Nat.le_of_ble_eq_true rfl) rfl rfl (Nat.le_of_ble_eq_true rfl) (Nat.le_of_ble_eq_true rfl) rfl (fun q2 => ?_)
  refine g_putF (w2 := [(h0, .inr (11, [.ref q1, .ref q2, .null, .null, .null, .null, .null, .null, .int 0, .null, .null, .int 0]))]) (z := 22) C kX10 dX10_init_19 0 rfl 1 (by decide) w_341 rfl rfl hnm rfl rfl rfl (Nat.le_of_ble_eq_true rfl) rfl rfl ?_
  refine g_aload_n (z := 23) C dX10_init_22 0 rfl rfl rfl ?_
  refine g_sipush (v := 1504) (z := 26) C dX10_init_23 (by decide) rfl ?_
  refine g_newID (N := 1504) (a2 := 3) (b2 := 4512) (z := 28) C hR dX10_init_26 w_109 (by decide) (by decide) (Nat.le_of_ble_eq_true rfl) rfl rfl (Nat.le_of_ble_eq_true rfl) (Nat.le_of_ble_eq_true rfl) rfl (fun q3 => ?_)
  refine g_putF (w2 := [(h0, .inr (11, [.ref q1, .ref q2, .ref q3, .null, .null, .null, .null, .null, .int 0, .null, .null, .int 0]))]) (z := 31) C kX10 dX10_init_28 0 rfl 2 (by decide) w_342 rfl rfl hnm rfl rfl rfl (Nat.le_of_ble_eq_true rfl) rfl rfl ?_
  refine g_aload_n (z := 32) C dX10_init_31 0 rfl rfl rfl ?_
  refine g_sipush (v := 1504) (z := 35) C dX10_init_32 (by decide) rfl ?_
  refine g_newID (N := 1504) (a2 := 4) (b2 := 6016) (z := 37) C hR dX10_init_35 w_109 (by decide) (by decide) (Nat.le_of_ble_eq_true rfl) rfl rfl (Nat.le_of_ble_eq_true rfl) (Nat.le_of_ble_eq_true rfl) rfl (fun q4 => ?_)
  refine g_putF (w2 := [(h0, .inr (11, [.ref q1, .ref q2, .ref q3, .ref q4, .null, .null, .null, .null, .int 0, .null, .null, .int 0]))]) (z := 40) C kX10 dX10_init_37 0 rfl 3 (by decide) w_343 rfl rfl hnm rfl rfl rfl (Nat.le_of_ble_eq_true rfl) rfl rfl ?_
  refine g_aload_n (z := 41) C dX10_init_40 0 rfl rfl rfl ?_
  refine g_sipush (v := 1504) (z := 44) C dX10_init_41 (by decide) rfl ?_
  refine g_newID (N := 1504) (a2 := 5) (b2 := 7520) (z := 46) C hR dX10_init_44 w_109 (by decide) (by decide) (Nat.le_of_ble_eq_true rfl) rfl rfl (Nat.le_of_ble_eq_true rfl) (Nat.le_of_ble_eq_true rfl) rfl (fun q5 => ?_)
  refine g_putF (w2 := [(h0, .inr (11, [.ref q1, .ref q2, .ref q3, .ref q4, .ref q5, .null, .null, .null, .int 0, .null, .null, .int 0]))]) (z := 49) C kX10 dX10_init_46 0 rfl 4 (by decide) w_344 rfl rfl hnm rfl rfl rfl (Nat.le_of_ble_eq_true rfl) rfl rfl ?_
  refine g_aload_n (z := 50) C dX10_init_49 0 rfl rfl rfl ?_
  refine g_sipush (v := 1504) (z := 53) C dX10_init_50 (by decide) rfl ?_
  refine g_newID (N := 1504) (a2 := 6) (b2 := 9024) (z := 55) C hR dX10_init_53 w_109 (by decide) (by decide) (Nat.le_of_ble_eq_true rfl) rfl rfl (Nat.le_of_ble_eq_true rfl) (Nat.le_of_ble_eq_true rfl) rfl (fun q6 => ?_)
  refine g_putF (w2 := [(h0, .inr (11, [.ref q1, .ref q2, .ref q3, .ref q4, .ref q5, .ref q6, .null, .null, .int 0, .null, .null, .int 0]))]) (z := 58) C kX10 dX10_init_55 0 rfl 5 (by decide) w_345 rfl rfl hnm rfl rfl rfl (Nat.le_of_ble_eq_true rfl) rfl rfl ?_
  refine g_aload_n (z := 59) C dX10_init_58 0 rfl rfl rfl ?_
  refine g_sipush (v := 1504) (z := 62) C dX10_init_59 (by decide) rfl ?_
  refine g_newID (N := 1504) (a2 := 7) (b2 := 10528) (z := 64) C hR dX10_init_62 w_109 (by decide) (by decide) (Nat.le_of_ble_eq_true rfl) rfl rfl (Nat.le_of_ble_eq_true rfl) (Nat.le_of_ble_eq_true rfl) rfl (fun q7 => ?_)
  refine g_putF (w2 := [(h0, .inr (11, [.ref q1, .ref q2, .ref q3, .ref q4, .ref q5, .ref q6, .ref q7, .null, .int 0, .null, .null, .int 0]))]) (z := 67) C kX10 dX10_init_64 0 rfl 6 (by decide) w_346 rfl rfl hnm rfl rfl rfl (Nat.le_of_ble_eq_true rfl) rfl rfl ?_
  refine g_aload_n (z := 68) C dX10_init_67 0 rfl rfl rfl ?_
  refine g_sipush (v := 1504) (z := 71) C dX10_init_68 (by decide) rfl ?_
  refine g_newJD (N := 1504) (a2 := 8) (b2 := 12032) (z := 73) C hR dX10_init_71 w_8 (by decide) (by decide) (Nat.le_of_ble_eq_true rfl) rfl rfl (Nat.le_of_ble_eq_true rfl) (Nat.le_of_ble_eq_true rfl) rfl (fun q8 => ?_)
  refine g_putF (w2 := [(h0, .inr (11, [.ref q1, .ref q2, .ref q3, .ref q4, .ref q5, .ref q6, .ref q7, .ref q8, .int 0, .null, .null, .int 0]))]) (z := 76) C kX10 dX10_init_73 0 rfl 7 (by decide) w_347 rfl rfl hnm rfl rfl rfl (Nat.le_of_ble_eq_true rfl) rfl rfl ?_
  refine g_aload_n (z := 77) C dX10_init_76 0 rfl rfl rfl ?_
  refine g_sipush (v := 1800) (z := 80) C dX10_init_77 (by decide) rfl ?_
  refine g_newID (N := 1800) (a2 := 9) (b2 := 13832) (z := 82) C hR dX10_init_80 w_109 (by decide) (by decide) (Nat.le_of_ble_eq_true rfl) rfl rfl (Nat.le_of_ble_eq_true rfl) (Nat.le_of_ble_eq_true rfl) rfl (fun q9 => ?_)
  refine g_putF (w2 := [(h0, .inr (11, [.ref q1, .ref q2, .ref q3, .ref q4, .ref q5, .ref q6, .ref q7, .ref q8, .int 0, .ref q9, .null, .int 0]))]) (z := 85) C kX10 dX10_init_82 0 rfl 9 (by decide) w_348 rfl rfl hnm rfl rfl rfl (Nat.le_of_ble_eq_true rfl) rfl rfl ?_
  refine g_aload_n (z := 86) C dX10_init_85 0 rfl rfl rfl ?_
  refine g_sipush (v := 1800) (z := 89) C dX10_init_86 (by decide) rfl ?_
  refine g_newID (N := 1800) (a2 := 10) (b2 := 15632) (z := 91) C hR dX10_init_89 w_109 (by decide) (by decide) (Nat.le_of_ble_eq_true rfl) rfl rfl (Nat.le_of_ble_eq_true rfl) (Nat.le_of_ble_eq_true rfl) rfl (fun q10 => ?_)
  refine g_putF (w2 := [(h0, .inr (11, [.ref q1, .ref q2, .ref q3, .ref q4, .ref q5, .ref q6, .ref q7, .ref q8, .int 0, .ref q9, .ref q10, .int 0]))]) (z := 94) C kX10 dX10_init_91 0 rfl 10 (by decide) w_349 rfl rfl hnm rfl rfl rfl (Nat.le_of_ble_eq_true rfl) rfl rfl ?_
  exact g_vret C hQ dX10_init_94 (Nat.le_of_ble_eq_true rfl) (Nat.le_of_ble_eq_true rfl) ⟨rfl, q1, q2, q3, q4, q5, q6, q7, q8, q9, q10, rfl⟩
set_option maxHeartbeats 4000000 in
set_option maxRecDepth 100000 in
/-- Places() -/
theorem k_X4_init (l : Launch) (D : va_G) (K : KS) (h0 : Nat) : Con l D K yX4_init cX4_init 1 none 1 12 17 14648 [.ref h0] [(h0, .inr (12, [.null, .null, .null, .null, .null, .null, .null, .null, .null, .null, .null, .null, .int 0, .null, .null, .null, .int 0, .null, .null, .int 0]))] (fun v w => v = none ∧ ∃ (q1 : Nat) (q2 : Nat) (q3 : Nat) (q4 : Nat) (q5 : Nat) (q6 : Nat) (q7 : Nat) (q8 : Nat) (q9 : Nat) (q10 : Nat) (q11 : Nat) (q12 : Nat) (q13 : Nat) (q14 : Nat) (q15 : Nat) (q16 : Nat) (q17 : Nat), w = [(h0, .inr (12, [.ref q1, .ref q2, .ref q3, .ref q4, .ref q5, .ref q6, .ref q7, .ref q8, .ref q9, .ref q10, .ref q11, .ref q12, .int 0, .ref q13, .ref q14, .ref q15, .int 0, .ref q16, .ref q17, .int 0]))]) := by
  refine Con.of (by decide +kernel) (Nat.le_of_ble_eq_true rfl) ?_
  intro X hXl hXD hXK C hR hQ hnm
  subst hXl; subst hXD; subst hXK
  refine g_lv (l2 := [(0, .ref h0)]) [0] rfl ?_
  refine g_aload_n (z := 1) C dX4_init_0 0 rfl rfl rfl ?_
  refine g_objInit (z := 4) C hR dX4_init_1 w_357 w_0 w_1 (Nat.le_of_ble_eq_true rfl) (Nat.le_of_ble_eq_true rfl) rfl ?_
  refine g_aload_n (z := 5) C dX4_init_4 0 rfl rfl rfl ?_
  refine g_sipush (v := 400) (z := 8) C dX4_init_5 (by decide) rfl ?_
  refine g_newID (N := 400) (a2 := 1) (b2 := 400) (z := 10) C hR dX4_init_8 w_109 (by decide) (by decide) (Nat.le_of_ble_eq_true rfl) rfl rfl (Nat.le_of_ble_eq_true rfl) (Nat.le_of_ble_eq_true rfl) rfl (fun q1 => ?_)
  refine g_putF (w2 := [(h0, .inr (12, [.ref q1, .null, .null, .null, .null, .null, .null, .null, .null, .null, .null, .null, .int 0, .null, .null, .null, .int 0, .null, .null, .int 0]))]) (z := 13) C kX4 dX4_init_10 0 rfl 0 (by decide) w_358 rfl rfl hnm rfl rfl rfl (Nat.le_of_ble_eq_true rfl) rfl rfl ?_
  refine g_aload_n (z := 14) C dX4_init_13 0 rfl rfl rfl ?_
  refine g_sipush (v := 400) (z := 17) C dX4_init_14 (by decide) rfl ?_
  refine g_newID (N := 400) (a2 := 2) (b2 := 800) (z := 19) C hR dX4_init_17 w_109 (by decide) (by decide) (Nat.le_of_ble_eq_true rfl) rfl rfl (Nat.le_of_ble_eq_true rfl) (Nat.le_of_ble_eq_true rfl) rfl (fun q2 => ?_)
  refine g_putF (w2 := [(h0, .inr (12, [.ref q1, .ref q2, .null, .null, .null, .null, .null, .null, .null, .null, .null, .null, .int 0, .null, .null, .null, .int 0, .null, .null, .int 0]))]) (z := 22) C kX4 dX4_init_19 0 rfl 1 (by decide) w_359 rfl rfl hnm rfl rfl rfl (Nat.le_of_ble_eq_true rfl) rfl rfl ?_
  refine g_aload_n (z := 23) C dX4_init_22 0 rfl rfl rfl ?_
  refine g_sipush (v := 400) (z := 26) C dX4_init_23 (by decide) rfl ?_
  refine g_newID (N := 400) (a2 := 3) (b2 := 1200) (z := 28) C hR dX4_init_26 w_109 (by decide) (by decide) (Nat.le_of_ble_eq_true rfl) rfl rfl (Nat.le_of_ble_eq_true rfl) (Nat.le_of_ble_eq_true rfl) rfl (fun q3 => ?_)
  refine g_putF (w2 := [(h0, .inr (12, [.ref q1, .ref q2, .ref q3, .null, .null, .null, .null, .null, .null, .null, .null, .null, .int 0, .null, .null, .null, .int 0, .null, .null, .int 0]))]) (z := 31) C kX4 dX4_init_28 0 rfl 2 (by decide) w_360 rfl rfl hnm rfl rfl rfl (Nat.le_of_ble_eq_true rfl) rfl rfl ?_
  refine g_aload_n (z := 32) C dX4_init_31 0 rfl rfl rfl ?_
  refine g_sipush (v := 400) (z := 35) C dX4_init_32 (by decide) rfl ?_
  refine g_newID (N := 400) (a2 := 4) (b2 := 1600) (z := 37) C hR dX4_init_35 w_109 (by decide) (by decide) (Nat.le_of_ble_eq_true rfl) rfl rfl (Nat.le_of_ble_eq_true rfl) (Nat.le_of_ble_eq_true rfl) rfl (fun q4 => ?_)
  refine g_putF (w2 := [(h0, .inr (12, [.ref q1, .ref q2, .ref q3, .ref q4, .null, .null, .null, .null, .null, .null, .null, .null, .int 0, .null, .null, .null, .int 0, .null, .null, .int 0]))]) (z := 40) C kX4 dX4_init_37 0 rfl 3 (by decide) w_361 rfl rfl hnm rfl rfl rfl (Nat.le_of_ble_eq_true rfl) rfl rfl ?_
  refine g_aload_n (z := 41) C dX4_init_40 0 rfl rfl rfl ?_
  refine g_sipush (v := 400) (z := 44) C dX4_init_41 (by decide) rfl ?_
  refine g_newID (N := 400) (a2 := 5) (b2 := 2000) (z := 46) C hR dX4_init_44 w_109 (by decide) (by decide) (Nat.le_of_ble_eq_true rfl) rfl rfl (Nat.le_of_ble_eq_true rfl) (Nat.le_of_ble_eq_true rfl) rfl (fun q5 => ?_)
  refine g_putF (w2 := [(h0, .inr (12, [.ref q1, .ref q2, .ref q3, .ref q4, .ref q5, .null, .null, .null, .null, .null, .null, .null, .int 0, .null, .null, .null, .int 0, .null, .null, .int 0]))]) (z := 49) C kX4 dX4_init_46 0 rfl 4 (by decide) w_362 rfl rfl hnm rfl rfl rfl (Nat.le_of_ble_eq_true rfl) rfl rfl ?_
  refine g_aload_n (z := 50) C dX4_init_49 0 rfl rfl rfl ?_
  refine g_sipush (v := 400) (z := 53) C dX4_init_50 (by decide) rfl ?_
  refine g_newID (N := 400) (a2 := 6) (b2 := 2400) (z := 55) C hR dX4_init_53 w_109 (by decide) (by decide) (Nat.le_of_ble_eq_true rfl) rfl rfl (Nat.le_of_ble_eq_true rfl) (Nat.le_of_ble_eq_true rfl) rfl (fun q6 => ?_)
  refine g_putF (w2 := [(h0, .inr (12, [.ref q1, .ref q2, .ref q3, .ref q4, .ref q5, .ref q6, .null, .null, .null, .null, .null, .null, .int 0, .null, .null, .null, .int 0, .null, .null, .int 0]))]) (z := 58) C kX4 dX4_init_55 0 rfl 5 (by decide) w_363 rfl rfl hnm rfl rfl rfl (Nat.le_of_ble_eq_true rfl) rfl rfl ?_
  refine g_aload_n (z := 59) C dX4_init_58 0 rfl rfl rfl ?_
  refine g_sipush (v := 400) (z := 62) C dX4_init_59 (by decide) rfl ?_
  refine g_newID (N := 400) (a2 := 7) (b2 := 2800) (z := 64) C hR dX4_init_62 w_109 (by decide) (by decide) (Nat.le_of_ble_eq_true rfl) rfl rfl (Nat.le_of_ble_eq_true rfl) (Nat.le_of_ble_eq_true rfl) rfl (fun q7 => ?_)
  refine g_putF (w2 := [(h0, .inr (12, [.ref q1, .ref q2, .ref q3, .ref q4, .ref q5, .ref q6, .ref q7, .null, .null, .null, .null, .null, .int 0, .null, .null, .null, .int 0, .null, .null, .int 0]))]) (z := 67) C kX4 dX4_init_64 0 rfl 6 (by decide) w_364 rfl rfl hnm rfl rfl rfl (Nat.le_of_ble_eq_true rfl) rfl rfl ?_
  refine g_aload_n (z := 68) C dX4_init_67 0 rfl rfl rfl ?_
  refine g_sipush (v := 400) (z := 71) C dX4_init_68 (by decide) rfl ?_
  refine g_newID (N := 400) (a2 := 8) (b2 := 3200) (z := 73) C hR dX4_init_71 w_109 (by decide) (by decide) (Nat.le_of_ble_eq_true rfl) rfl rfl (Nat.le_of_ble_eq_true rfl) (Nat.le_of_ble_eq_true rfl) rfl (fun q8 => ?_)
  refine g_putF (w2 := [(h0, .inr (12, [.ref q1, .ref q2, .ref q3, .ref q4, .ref q5, .ref q6, .ref q7, .ref q8, .null, .null, .null, .null, .int 0, .null, .null, .null, .int 0, .null, .null, .int 0]))]) (z := 76) C kX4 dX4_init_73 0 rfl 7 (by decide) w_365 rfl rfl hnm rfl rfl rfl (Nat.le_of_ble_eq_true rfl) rfl rfl ?_
  refine g_aload_n (z := 77) C dX4_init_76 0 rfl rfl rfl ?_
  refine g_sipush (v := 400) (z := 80) C dX4_init_77 (by decide) rfl ?_
  refine g_newID (N := 400) (a2 := 9) (b2 := 3600) (z := 82) C hR dX4_init_80 w_109 (by decide) (by decide) (Nat.le_of_ble_eq_true rfl) rfl rfl (Nat.le_of_ble_eq_true rfl) (Nat.le_of_ble_eq_true rfl) rfl (fun q9 => ?_)
  refine g_putF (w2 := [(h0, .inr (12, [.ref q1, .ref q2, .ref q3, .ref q4, .ref q5, .ref q6, .ref q7, .ref q8, .ref q9, .null, .null, .null, .int 0, .null, .null, .null, .int 0, .null, .null, .int 0]))]) (z := 85) C kX4 dX4_init_82 0 rfl 8 (by decide) w_366 rfl rfl hnm rfl rfl rfl (Nat.le_of_ble_eq_true rfl) rfl rfl ?_
  refine g_aload_n (z := 86) C dX4_init_85 0 rfl rfl rfl ?_
  refine g_sipush (v := 400) (z := 89) C dX4_init_86 (by decide) rfl ?_
  refine g_newZD (N := 400) (a2 := 10) (b2 := 4000) (z := 91) C hR dX4_init_89 w_224 (by decide) (by decide) (Nat.le_of_ble_eq_true rfl) rfl rfl (Nat.le_of_ble_eq_true rfl) (Nat.le_of_ble_eq_true rfl) rfl (fun q10 => ?_)
  refine g_putF (w2 := [(h0, .inr (12, [.ref q1, .ref q2, .ref q3, .ref q4, .ref q5, .ref q6, .ref q7, .ref q8, .ref q9, .ref q10, .null, .null, .int 0, .null, .null, .null, .int 0, .null, .null, .int 0]))]) (z := 94) C kX4 dX4_init_91 0 rfl 9 (by decide) w_367 rfl rfl hnm rfl rfl rfl (Nat.le_of_ble_eq_true rfl) rfl rfl ?_
  refine g_aload_n (z := 95) C dX4_init_94 0 rfl rfl rfl ?_
  refine g_sipush (v := 400) (z := 98) C dX4_init_95 (by decide) rfl ?_
  refine g_newZD (N := 400) (a2 := 11) (b2 := 4400) (z := 100) C hR dX4_init_98 w_224 (by decide) (by decide) (Nat.le_of_ble_eq_true rfl) rfl rfl (Nat.le_of_ble_eq_true rfl) (Nat.le_of_ble_eq_true rfl) rfl (fun q11 => ?_)
  refine g_putF (w2 := [(h0, .inr (12, [.ref q1, .ref q2, .ref q3, .ref q4, .ref q5, .ref q6, .ref q7, .ref q8, .ref q9, .ref q10, .ref q11, .null, .int 0, .null, .null, .null, .int 0, .null, .null, .int 0]))]) (z := 103) C kX4 dX4_init_100 0 rfl 10 (by decide) w_368 rfl rfl hnm rfl rfl rfl (Nat.le_of_ble_eq_true rfl) rfl rfl ?_
  refine g_aload_n (z := 104) C dX4_init_103 0 rfl rfl rfl ?_
  refine g_sipush (v := 400) (z := 107) C dX4_init_104 (by decide) rfl ?_
  refine g_newJD (N := 400) (a2 := 12) (b2 := 4800) (z := 109) C hR dX4_init_107 w_8 (by decide) (by decide) (Nat.le_of_ble_eq_true rfl) rfl rfl (Nat.le_of_ble_eq_true rfl) (Nat.le_of_ble_eq_true rfl) rfl (fun q12 => ?_)
  refine g_putF (w2 := [(h0, .inr (12, [.ref q1, .ref q2, .ref q3, .ref q4, .ref q5, .ref q6, .ref q7, .ref q8, .ref q9, .ref q10, .ref q11, .ref q12, .int 0, .null, .null, .null, .int 0, .null, .null, .int 0]))]) (z := 112) C kX4 dX4_init_109 0 rfl 11 (by decide) w_369 rfl rfl hnm rfl rfl rfl (Nat.le_of_ble_eq_true rfl) rfl rfl ?_
  refine g_aload_n (z := 113) C dX4_init_112 0 rfl rfl rfl ?_
  refine g_sipush (v := 3016) (z := 116) C dX4_init_113 (by decide) rfl ?_
  refine g_newID (N := 3016) (a2 := 13) (b2 := 7816) (z := 118) C hR dX4_init_116 w_109 (by decide) (by decide) (Nat.le_of_ble_eq_true rfl) rfl rfl (Nat.le_of_ble_eq_true rfl) (Nat.le_of_ble_eq_true rfl) rfl (fun q13 => ?_)
  refine g_putF (w2 := [(h0, .inr (12, [.ref q1, .ref q2, .ref q3, .ref q4, .ref q5, .ref q6, .ref q7, .ref q8, .ref q9, .ref q10, .ref q11, .ref q12, .int 0, .ref q13, .null, .null, .int 0, .null, .null, .int 0]))]) (z := 121) C kX4 dX4_init_118 0 rfl 13 (by decide) w_370 rfl rfl hnm rfl rfl rfl (Nat.le_of_ble_eq_true rfl) rfl rfl ?_
  refine g_aload_n (z := 122) C dX4_init_121 0 rfl rfl rfl ?_
  refine g_sipush (v := 3016) (z := 125) C dX4_init_122 (by decide) rfl ?_
  refine g_newID (N := 3016) (a2 := 14) (b2 := 10832) (z := 127) C hR dX4_init_125 w_109 (by decide) (by decide) (Nat.le_of_ble_eq_true rfl) rfl rfl (Nat.le_of_ble_eq_true rfl) (Nat.le_of_ble_eq_true rfl) rfl (fun q14 => ?_)
  refine g_putF (w2 := [(h0, .inr (12, [.ref q1, .ref q2, .ref q3, .ref q4, .ref q5, .ref q6, .ref q7, .ref q8, .ref q9, .ref q10, .ref q11, .ref q12, .int 0, .ref q13, .ref q14, .null, .int 0, .null, .null, .int 0]))]) (z := 130) C kX4 dX4_init_127 0 rfl 14 (by decide) w_371 rfl rfl hnm rfl rfl rfl (Nat.le_of_ble_eq_true rfl) rfl rfl ?_
  refine g_aload_n (z := 131) C dX4_init_130 0 rfl rfl rfl ?_
  refine g_sipush (v := 3016) (z := 134) C dX4_init_131 (by decide) rfl ?_
  refine g_newID (N := 3016) (a2 := 15) (b2 := 13848) (z := 136) C hR dX4_init_134 w_109 (by decide) (by decide) (Nat.le_of_ble_eq_true rfl) rfl rfl (Nat.le_of_ble_eq_true rfl) (Nat.le_of_ble_eq_true rfl) rfl (fun q15 => ?_)
  refine g_putF (w2 := [(h0, .inr (12, [.ref q1, .ref q2, .ref q3, .ref q4, .ref q5, .ref q6, .ref q7, .ref q8, .ref q9, .ref q10, .ref q11, .ref q12, .int 0, .ref q13, .ref q14, .ref q15, .int 0, .null, .null, .int 0]))]) (z := 139) C kX4 dX4_init_136 0 rfl 15 (by decide) w_372 rfl rfl hnm rfl rfl rfl (Nat.le_of_ble_eq_true rfl) rfl rfl ?_
  refine g_aload_n (z := 140) C dX4_init_139 0 rfl rfl rfl ?_
  refine g_sipush (v := 400) (z := 143) C dX4_init_140 (by decide) rfl ?_
  refine g_newID (N := 400) (a2 := 16) (b2 := 14248) (z := 145) C hR dX4_init_143 w_109 (by decide) (by decide) (Nat.le_of_ble_eq_true rfl) rfl rfl (Nat.le_of_ble_eq_true rfl) (Nat.le_of_ble_eq_true rfl) rfl (fun q16 => ?_)
  refine g_putF (w2 := [(h0, .inr (12, [.ref q1, .ref q2, .ref q3, .ref q4, .ref q5, .ref q6, .ref q7, .ref q8, .ref q9, .ref q10, .ref q11, .ref q12, .int 0, .ref q13, .ref q14, .ref q15, .int 0, .ref q16, .null, .int 0]))]) (z := 148) C kX4 dX4_init_145 0 rfl 17 (by decide) w_373 rfl rfl hnm rfl rfl rfl (Nat.le_of_ble_eq_true rfl) rfl rfl ?_
  refine g_aload_n (z := 149) C dX4_init_148 0 rfl rfl rfl ?_
  refine g_sipush (v := 400) (z := 152) C dX4_init_149 (by decide) rfl ?_
  refine g_newID (N := 400) (a2 := 17) (b2 := 14648) (z := 154) C hR dX4_init_152 w_109 (by decide) (by decide) (Nat.le_of_ble_eq_true rfl) rfl rfl (Nat.le_of_ble_eq_true rfl) (Nat.le_of_ble_eq_true rfl) rfl (fun q17 => ?_)
  refine g_putF (w2 := [(h0, .inr (12, [.ref q1, .ref q2, .ref q3, .ref q4, .ref q5, .ref q6, .ref q7, .ref q8, .ref q9, .ref q10, .ref q11, .ref q12, .int 0, .ref q13, .ref q14, .ref q15, .int 0, .ref q16, .ref q17, .int 0]))]) (z := 157) C kX4 dX4_init_154 0 rfl 18 (by decide) w_374 rfl rfl hnm rfl rfl rfl (Nat.le_of_ble_eq_true rfl) rfl rfl ?_
  exact g_vret C hQ dX4_init_157 (Nat.le_of_ble_eq_true rfl) (Nat.le_of_ble_eq_true rfl) ⟨rfl, q1, q2, q3, q4, q5, q6, q7, q8, q9, q10, q11, q12, q13, q14, q15, q16, q17, rfl⟩
set_option maxHeartbeats 4000000 in
set_option maxRecDepth 100000 in
/-- Ways(): dead where nothing is judged -/
theorem k_X11_init (l : Launch) (D : va_G) (K : KS) (h0 : Nat) : Con l D K yX11_init cX11_init 1 none 1 12 7 10154 [.ref h0] [(h0, .inr (5, [.null, .null, .null, .null, .int 0, .int 0, .null, .int 0, .null, .null, .int 0, .long 0, .null, .int 0, .null, .long 0, .null, .null, .int 0, .int 0, .int 0, .int 0]))] (fun v _ => v = none) := by
  refine Con.of (by decide +kernel) (Nat.le_of_ble_eq_true rfl) ?_
  intro X hXl hXD hXK C hR hQ hnm
  subst hXl; subst hXD; subst hXK
  refine g_lv (l2 := [(0, .ref h0)]) [0] rfl ?_
  refine g_aload_n (z := 1) C dX11_init_0 0 rfl rfl rfl ?_
  refine g_objInit (z := 4) C hR dX11_init_1 w_221 w_0 w_1 (Nat.le_of_ble_eq_true rfl) (Nat.le_of_ble_eq_true rfl) rfl ?_
  refine g_aload_n (z := 5) C dX11_init_4 0 rfl rfl rfl ?_
  refine g_bipush (v := 42) (z := 7) C dX11_init_5 (by decide) rfl ?_
  refine g_newJD (N := 42) (a2 := 1) (b2 := 42) (z := 9) C hR dX11_init_7 w_8 (by decide) (by decide) (Nat.le_of_ble_eq_true rfl) rfl rfl (Nat.le_of_ble_eq_true rfl) (Nat.le_of_ble_eq_true rfl) rfl (fun q1 => ?_)
  refine g_putF (w2 := [(h0, .inr (5, [.null, .null, .null, .null, .int 0, .int 0, .ref q1, .int 0, .null, .null, .int 0, .long 0, .null, .int 0, .null, .long 0, .null, .null, .int 0, .int 0, .int 0, .int 0]))]) (z := 12) C kX11 dX11_init_9 0 rfl 6 (by decide) w_222 rfl rfl hnm rfl rfl rfl (Nat.le_of_ble_eq_true rfl) rfl rfl ?_
  refine g_aload_n (z := 13) C dX11_init_12 0 rfl rfl rfl ?_
  refine g_sipush (v := 2016) (z := 16) C dX11_init_13 (by decide) rfl ?_
  refine g_newJD (N := 2016) (a2 := 2) (b2 := 2058) (z := 18) C hR dX11_init_16 w_8 (by decide) (by decide) (Nat.le_of_ble_eq_true rfl) rfl rfl (Nat.le_of_ble_eq_true rfl) (Nat.le_of_ble_eq_true rfl) rfl (fun q2 => ?_)
  refine g_put (w2 := [(h0, .inr (5, [.null, .null, .null, .null, .int 0, .int 0, .ref q1, .int 0, .ref q2, .null, .int 0, .long 0, .null, .int 0, .null, .long 0, .null, .null, .int 0, .int 0, .int 0, .int 0]))]) (z := 21) C kX11 dX11_init_18 0 rfl 8 (by decide) w_223 rfl rfl rfl rfl (Nat.le_of_ble_eq_true rfl) rfl rfl ?_
  refine g_aload_n (z := 22) C dX11_init_21 0 rfl rfl rfl ?_
  refine g_bipush (v := 48) (z := 24) C dX11_init_22 (by decide) rfl ?_
  refine g_newZD (N := 48) (a2 := 3) (b2 := 2106) (z := 26) C hR dX11_init_24 w_224 (by decide) (by decide) (Nat.le_of_ble_eq_true rfl) rfl rfl (Nat.le_of_ble_eq_true rfl) (Nat.le_of_ble_eq_true rfl) rfl (fun q3 => ?_)
  refine g_put (w2 := [(h0, .inr (5, [.null, .null, .null, .null, .int 0, .int 0, .ref q1, .int 0, .ref q2, .ref q3, .int 0, .long 0, .null, .int 0, .null, .long 0, .null, .null, .int 0, .int 0, .int 0, .int 0]))]) (z := 29) C kX11 dX11_init_26 0 rfl 9 (by decide) w_225 rfl rfl rfl rfl (Nat.le_of_ble_eq_true rfl) rfl rfl ?_
  refine g_aload_n (z := 30) C dX11_init_29 0 rfl rfl rfl ?_
  refine g_sipush (v := 1504) (z := 33) C dX11_init_30 (by decide) rfl ?_
  refine g_newJD (N := 1504) (a2 := 4) (b2 := 3610) (z := 35) C hR dX11_init_33 w_8 (by decide) (by decide) (Nat.le_of_ble_eq_true rfl) rfl rfl (Nat.le_of_ble_eq_true rfl) (Nat.le_of_ble_eq_true rfl) rfl (fun q4 => ?_)
  refine g_putF (w2 := [(h0, .inr (5, [.null, .null, .null, .null, .int 0, .int 0, .ref q1, .int 0, .ref q2, .ref q3, .int 0, .long 0, .ref q4, .int 0, .null, .long 0, .null, .null, .int 0, .int 0, .int 0, .int 0]))]) (z := 38) C kX11 dX11_init_35 0 rfl 12 (by decide) w_226 rfl rfl hnm rfl rfl rfl (Nat.le_of_ble_eq_true rfl) rfl rfl ?_
  refine g_aload_n (z := 39) C dX11_init_38 0 rfl rfl rfl ?_
  refine g_sipush (v := 400) (z := 42) C dX11_init_39 (by decide) rfl ?_
  refine g_newJD (N := 400) (a2 := 5) (b2 := 4010) (z := 44) C hR dX11_init_42 w_8 (by decide) (by decide) (Nat.le_of_ble_eq_true rfl) rfl rfl (Nat.le_of_ble_eq_true rfl) (Nat.le_of_ble_eq_true rfl) rfl (fun q5 => ?_)
  refine g_putF (w2 := [(h0, .inr (5, [.null, .null, .null, .null, .int 0, .int 0, .ref q1, .int 0, .ref q2, .ref q3, .int 0, .long 0, .ref q4, .int 0, .ref q5, .long 0, .null, .null, .int 0, .int 0, .int 0, .int 0]))]) (z := 47) C kX11 dX11_init_44 0 rfl 14 (by decide) w_227 rfl rfl hnm rfl rfl rfl (Nat.le_of_ble_eq_true rfl) rfl rfl ?_
  refine g_aload_n (z := 48) C dX11_init_47 0 rfl rfl rfl ?_
  refine g_sipush (v := 3072) (z := 51) C dX11_init_48 (by decide) rfl ?_
  refine g_newJD (N := 3072) (a2 := 6) (b2 := 7082) (z := 53) C hR dX11_init_51 w_8 (by decide) (by decide) (Nat.le_of_ble_eq_true rfl) rfl rfl (Nat.le_of_ble_eq_true rfl) (Nat.le_of_ble_eq_true rfl) rfl (fun q6 => ?_)
  refine g_putF (w2 := [(h0, .inr (5, [.null, .null, .null, .null, .int 0, .int 0, .ref q1, .int 0, .ref q2, .ref q3, .int 0, .long 0, .ref q4, .int 0, .ref q5, .long 0, .ref q6, .null, .int 0, .int 0, .int 0, .int 0]))]) (z := 56) C kX11 dX11_init_53 0 rfl 16 (by decide) w_228 rfl rfl hnm rfl rfl rfl (Nat.le_of_ble_eq_true rfl) rfl rfl ?_
  refine g_aload_n (z := 57) C dX11_init_56 0 rfl rfl rfl ?_
  refine g_sipush (v := 3072) (z := 60) C dX11_init_57 (by decide) rfl ?_
  refine g_newZD (N := 3072) (a2 := 7) (b2 := 10154) (z := 62) C hR dX11_init_60 w_224 (by decide) (by decide) (Nat.le_of_ble_eq_true rfl) rfl rfl (Nat.le_of_ble_eq_true rfl) (Nat.le_of_ble_eq_true rfl) rfl (fun q7 => ?_)
  refine g_putF (w2 := [(h0, .inr (5, [.null, .null, .null, .null, .int 0, .int 0, .ref q1, .int 0, .ref q2, .ref q3, .int 0, .long 0, .ref q4, .int 0, .ref q5, .long 0, .ref q6, .ref q7, .int 0, .int 0, .int 0, .int 0]))]) (z := 65) C kX11 dX11_init_62 0 rfl 17 (by decide) w_229 rfl rfl hnm rfl rfl rfl (Nat.le_of_ble_eq_true rfl) rfl rfl ?_
  exact g_vret C hQ dX11_init_65 (Nat.le_of_ble_eq_true rfl) (Nat.le_of_ble_eq_true rfl) rfl
set_option maxHeartbeats 4000000 in
set_option maxRecDepth 100000 in
/-- Store(): dead -/
theorem k_X7_init (l : Launch) (D : va_G) (K : KS) (h0 : Nat) : Con l D K yX7_init cX7_init 1 none 1 12 8 30992 [.ref h0] [(h0, .inr (7, [.null, .null, .int 0, .null, .int 0, .int 0, .null, .null, .int 0, .int 0, .null, .null, .int 0, .int 0, .int 0, .int 0, .int 0, .null, .null]))] (fun v _ => v = none) := by
  refine Con.of (by decide +kernel) (Nat.le_of_ble_eq_true rfl) ?_
  intro X hXl hXD hXK C hR hQ hnm
  subst hXl; subst hXD; subst hXK
  refine g_lv (l2 := [(0, .ref h0)]) [0] rfl ?_
  refine g_aload_n (z := 1) C dX7_init_0 0 rfl rfl rfl ?_
  refine g_objInit (z := 4) C hR dX7_init_1 w_242 w_0 w_1 (Nat.le_of_ble_eq_true rfl) (Nat.le_of_ble_eq_true rfl) rfl ?_
  refine g_aload_n (z := 5) C dX7_init_4 0 rfl rfl rfl ?_
  refine g_sipush (v := 19456) (z := 8) C dX7_init_5 (by decide) rfl ?_
  refine g_newJD (N := 19456) (a2 := 1) (b2 := 19456) (z := 10) C hR dX7_init_8 w_8 (by decide) (by decide) (Nat.le_of_ble_eq_true rfl) rfl rfl (Nat.le_of_ble_eq_true rfl) (Nat.le_of_ble_eq_true rfl) rfl (fun q1 => ?_)
  refine g_put (w2 := [(h0, .inr (7, [.null, .ref q1, .int 0, .null, .int 0, .int 0, .null, .null, .int 0, .int 0, .null, .null, .int 0, .int 0, .int 0, .int 0, .int 0, .null, .null]))]) (z := 13) C kX7 dX7_init_10 0 rfl 1 (by decide) w_243 rfl rfl rfl rfl (Nat.le_of_ble_eq_true rfl) rfl rfl ?_
  refine g_aload_n (z := 14) C dX7_init_13 0 rfl rfl rfl ?_
  refine g_sipush (v := 200) (z := 17) C dX7_init_14 (by decide) rfl ?_
  refine g_newZD (N := 200) (a2 := 2) (b2 := 19656) (z := 19) C hR dX7_init_17 w_224 (by decide) (by decide) (Nat.le_of_ble_eq_true rfl) rfl rfl (Nat.le_of_ble_eq_true rfl) (Nat.le_of_ble_eq_true rfl) rfl (fun q2 => ?_)
  refine g_putF (w2 := [(h0, .inr (7, [.null, .ref q1, .int 0, .ref q2, .int 0, .int 0, .null, .null, .int 0, .int 0, .null, .null, .int 0, .int 0, .int 0, .int 0, .int 0, .null, .null]))]) (z := 22) C kX7 dX7_init_19 0 rfl 3 (by decide) w_244 rfl rfl hnm rfl rfl rfl (Nat.le_of_ble_eq_true rfl) rfl rfl ?_
  refine g_aload_n (z := 23) C dX7_init_22 0 rfl rfl rfl ?_
  refine g_bipush (v := 60) (z := 25) C dX7_init_23 (by decide) rfl ?_
  refine g_newZD (N := 60) (a2 := 3) (b2 := 19716) (z := 27) C hR dX7_init_25 w_224 (by decide) (by decide) (Nat.le_of_ble_eq_true rfl) rfl rfl (Nat.le_of_ble_eq_true rfl) (Nat.le_of_ble_eq_true rfl) rfl (fun q3 => ?_)
  refine g_putF (w2 := [(h0, .inr (7, [.null, .ref q1, .int 0, .ref q2, .int 0, .int 0, .ref q3, .null, .int 0, .int 0, .null, .null, .int 0, .int 0, .int 0, .int 0, .int 0, .null, .null]))]) (z := 30) C kX7 dX7_init_27 0 rfl 6 (by decide) w_245 rfl rfl hnm rfl rfl rfl (Nat.le_of_ble_eq_true rfl) rfl rfl ?_
  refine g_aload_n (z := 31) C dX7_init_30 0 rfl rfl rfl ?_
  refine g_bipush (v := 60) (z := 33) C dX7_init_31 (by decide) rfl ?_
  refine g_newID (N := 60) (a2 := 4) (b2 := 19776) (z := 35) C hR dX7_init_33 w_109 (by decide) (by decide) (Nat.le_of_ble_eq_true rfl) rfl rfl (Nat.le_of_ble_eq_true rfl) (Nat.le_of_ble_eq_true rfl) rfl (fun q4 => ?_)
  refine g_putF (w2 := [(h0, .inr (7, [.null, .ref q1, .int 0, .ref q2, .int 0, .int 0, .ref q3, .ref q4, .int 0, .int 0, .null, .null, .int 0, .int 0, .int 0, .int 0, .int 0, .null, .null]))]) (z := 38) C kX7 dX7_init_35 0 rfl 7 (by decide) w_246 rfl rfl hnm rfl rfl rfl (Nat.le_of_ble_eq_true rfl) rfl rfl ?_
  refine g_aload_n (z := 39) C dX7_init_38 0 rfl rfl rfl ?_
  refine g_sipush (v := 1000) (z := 42) C dX7_init_39 (by decide) rfl ?_
  refine g_newID (N := 1000) (a2 := 5) (b2 := 20776) (z := 44) C hR dX7_init_42 w_109 (by decide) (by decide) (Nat.le_of_ble_eq_true rfl) rfl rfl (Nat.le_of_ble_eq_true rfl) (Nat.le_of_ble_eq_true rfl) rfl (fun q5 => ?_)
  refine g_putF (w2 := [(h0, .inr (7, [.null, .ref q1, .int 0, .ref q2, .int 0, .int 0, .ref q3, .ref q4, .int 0, .int 0, .ref q5, .null, .int 0, .int 0, .int 0, .int 0, .int 0, .null, .null]))]) (z := 47) C kX7 dX7_init_44 0 rfl 10 (by decide) w_247 rfl rfl hnm rfl rfl rfl (Nat.le_of_ble_eq_true rfl) rfl rfl ?_
  refine g_aload_n (z := 48) C dX7_init_47 0 rfl rfl rfl ?_
  refine g_sipush (v := 1000) (z := 51) C dX7_init_48 (by decide) rfl ?_
  refine g_newJD (N := 1000) (a2 := 6) (b2 := 21776) (z := 53) C hR dX7_init_51 w_8 (by decide) (by decide) (Nat.le_of_ble_eq_true rfl) rfl rfl (Nat.le_of_ble_eq_true rfl) (Nat.le_of_ble_eq_true rfl) rfl (fun q6 => ?_)
  refine g_putF (w2 := [(h0, .inr (7, [.null, .ref q1, .int 0, .ref q2, .int 0, .int 0, .ref q3, .ref q4, .int 0, .int 0, .ref q5, .ref q6, .int 0, .int 0, .int 0, .int 0, .int 0, .null, .null]))]) (z := 56) C kX7 dX7_init_53 0 rfl 11 (by decide) w_248 rfl rfl hnm rfl rfl rfl (Nat.le_of_ble_eq_true rfl) rfl rfl ?_
  refine g_aload_n (z := 57) C dX7_init_56 0 rfl rfl rfl ?_
  refine g_sipush (v := 4608) (z := 60) C dX7_init_57 (by decide) rfl ?_
  refine g_newID (N := 4608) (a2 := 7) (b2 := 26384) (z := 62) C hR dX7_init_60 w_109 (by decide) (by decide) (Nat.le_of_ble_eq_true rfl) rfl rfl (Nat.le_of_ble_eq_true rfl) (Nat.le_of_ble_eq_true rfl) rfl (fun q7 => ?_)
  refine g_putF (w2 := [(h0, .inr (7, [.null, .ref q1, .int 0, .ref q2, .int 0, .int 0, .ref q3, .ref q4, .int 0, .int 0, .ref q5, .ref q6, .int 0, .int 0, .int 0, .int 0, .int 0, .ref q7, .null]))]) (z := 65) C kX7 dX7_init_62 0 rfl 17 (by decide) w_249 rfl rfl hnm rfl rfl rfl (Nat.le_of_ble_eq_true rfl) rfl rfl ?_
  refine g_aload_n (z := 66) C dX7_init_65 0 rfl rfl rfl ?_
  refine g_sipush (v := 4608) (z := 69) C dX7_init_66 (by decide) rfl ?_
  refine g_newID (N := 4608) (a2 := 8) (b2 := 30992) (z := 71) C hR dX7_init_69 w_109 (by decide) (by decide) (Nat.le_of_ble_eq_true rfl) rfl rfl (Nat.le_of_ble_eq_true rfl) (Nat.le_of_ble_eq_true rfl) rfl (fun q8 => ?_)
  refine g_putF (w2 := [(h0, .inr (7, [.null, .ref q1, .int 0, .ref q2, .int 0, .int 0, .ref q3, .ref q4, .int 0, .int 0, .ref q5, .ref q6, .int 0, .int 0, .int 0, .int 0, .int 0, .ref q7, .ref q8]))]) (z := 74) C kX7 dX7_init_71 0 rfl 18 (by decide) w_250 rfl rfl hnm rfl rfl rfl (Nat.le_of_ble_eq_true rfl) rfl rfl ?_
  exact g_vret C hQ dX7_init_74 (Nat.le_of_ble_eq_true rfl) (Nat.le_of_ble_eq_true rfl) rfl
set_option maxHeartbeats 4000000 in
set_option maxRecDepth 100000 in
/-- Checker(tree), Emitter(tree) -/
theorem k_X0_init (l : Launch) (D : va_G) (K : KS) (h0 h1 : Nat) : Con l D K yX0_init cX0_init 2 none 1 12 0 0 [.ref h0, .ref h1] [(h0, .inr (3, [.null, .null, .null, .null, .null, .int 0, .int 0, .int 0, .int 0, .int 0, .int 0]))] (fun v w => v = none ∧ w = [(h0, .inr (3, [.ref h1, .null, .null, .null, .null, .int 0, .int 0, .int 0, .int 0, .int 0, .int 0]))]) := by
  refine Con.of (by decide +kernel) (Nat.le_of_ble_eq_true rfl) ?_
  intro X hXl hXD hXK C hR hQ hnm
  subst hXl; subst hXD; subst hXK
  refine g_lv (l2 := [(0, .ref h0), (1, .ref h1)]) [0, 1] rfl ?_
  refine g_aload_n (z := 1) C dX0_init_0 0 rfl rfl rfl ?_
  refine g_objInit (z := 4) C hR dX0_init_1 w_184 w_0 w_1 (Nat.le_of_ble_eq_true rfl) (Nat.le_of_ble_eq_true rfl) rfl ?_
  refine g_aload_n (z := 5) C dX0_init_4 0 rfl rfl rfl ?_
  refine g_aload_n (z := 6) C dX0_init_5 1 rfl rfl rfl ?_
  refine g_putF (w2 := [(h0, .inr (3, [.ref h1, .null, .null, .null, .null, .int 0, .int 0, .int 0, .int 0, .int 0, .int 0]))]) (z := 9) C kX0 dX0_init_6 0 rfl 0 (by decide) w_185 rfl rfl hnm rfl rfl rfl (Nat.le_of_ble_eq_true rfl) rfl rfl ?_
  exact g_vret C hQ dX0_init_9 (Nat.le_of_ble_eq_true rfl) (Nat.le_of_ble_eq_true rfl) ⟨rfl, rfl⟩
set_option maxHeartbeats 4000000 in
set_option maxRecDepth 100000 in
/-- Checker(tree), Emitter(tree) -/
theorem k_X1_init (l : Launch) (D : va_G) (K : KS) (h0 h1 : Nat) : Con l D K yX1_init cX1_init 2 none 1 12 0 0 [.ref h0, .ref h1] [(h0, .inr (4, [.null, .null, .null, .null, .null, .null, .int 0, .int 0, .int 0, .int 0]))] (fun v w => v = none ∧ w = [(h0, .inr (4, [.ref h1, .null, .null, .null, .null, .null, .int 0, .int 0, .int 0, .int 0]))]) := by
  refine Con.of (by decide +kernel) (Nat.le_of_ble_eq_true rfl) ?_
  intro X hXl hXD hXK C hR hQ hnm
  subst hXl; subst hXD; subst hXK
  refine g_lv (l2 := [(0, .ref h0), (1, .ref h1)]) [0, 1] rfl ?_
  refine g_aload_n (z := 1) C dX1_init_0 0 rfl rfl rfl ?_
  refine g_objInit (z := 4) C hR dX1_init_1 w_217 w_0 w_1 (Nat.le_of_ble_eq_true rfl) (Nat.le_of_ble_eq_true rfl) rfl ?_
  refine g_aload_n (z := 5) C dX1_init_4 0 rfl rfl rfl ?_
  refine g_aload_n (z := 6) C dX1_init_5 1 rfl rfl rfl ?_
  refine g_putF (w2 := [(h0, .inr (4, [.ref h1, .null, .null, .null, .null, .null, .int 0, .int 0, .int 0, .int 0]))]) (z := 9) C kX1 dX1_init_6 0 rfl 0 (by decide) w_218 rfl rfl hnm rfl rfl rfl (Nat.le_of_ble_eq_true rfl) rfl rfl ?_
  exact g_vret C hQ dX1_init_9 (Nat.le_of_ble_eq_true rfl) (Nat.le_of_ble_eq_true rfl) ⟨rfl, rfl⟩
end
section
theorem dJ0_charAt_5068e_0 : decode cJ0_charAt_5068e 0 = .ok (.aload_n 0, 1) := by decide +kernel
theorem dJ0_charAt_5068e_1 : decode cJ0_charAt_5068e 1 = .ok (.invokevirtual 492, 3) := by decide +kernel
theorem dJ0_charAt_5068e_4 : decode cJ0_charAt_5068e 4 = .ok (.ifCond .eq 12, 3) := by decide +kernel
theorem dJ0_charAt_5068e_7 : decode cJ0_charAt_5068e 7 = .ok (.aload_n 0, 1) := by decide +kernel
theorem dJ0_charAt_5068e_8 : decode cJ0_charAt_5068e 8 = .ok (.getfield 9, 3) := by decide +kernel
theorem dJ0_charAt_5068e_11 : decode cJ0_charAt_5068e 11 = .ok (.iload_n 1, 1) := by decide +kernel
theorem dJ0_charAt_5068e_12 : decode cJ0_charAt_5068e 12 = .ok (.invokestatic 495, 3) := by decide +kernel
theorem dJ0_charAt_5068e_15 : decode cJ0_charAt_5068e 15 = .ok (.ireturn, 1) := by decide +kernel
theorem dJ0_checkIndex_df160_0 : decode cJ0_checkIndex_df160 0 = .ok (.iload_n 0, 1) := by decide +kernel
theorem dJ0_checkIndex_df160_1 : decode cJ0_checkIndex_df160 1 = .ok (.iload_n 1, 1) := by decide +kernel
theorem dJ0_checkIndex_df160_2 : decode cJ0_checkIndex_df160 2 = .ok (.getstatic 1053, 3) := by decide +kernel
theorem dJ0_checkIndex_df160_5 : decode cJ0_checkIndex_df160 5 = .ok (.invokestatic 1059, 3) := by decide +kernel
theorem dJ0_checkIndex_df160_8 : decode cJ0_checkIndex_df160 8 = .ok (.pop, 1) := by decide +kernel
theorem dJ0_checkIndex_df160_9 : decode cJ0_checkIndex_df160 9 = .ok (.return_, 1) := by decide +kernel
theorem dJ0_coder_7d493_0 : decode cJ0_coder_7d493 0 = .ok (.getstatic 38, 3) := by decide +kernel
theorem dJ0_coder_7d493_3 : decode cJ0_coder_7d493 3 = .ok (.ifCond .eq 10, 3) := by decide +kernel
theorem dJ0_coder_7d493_6 : decode cJ0_coder_7d493 6 = .ok (.aload_n 0, 1) := by decide +kernel
theorem dJ0_coder_7d493_7 : decode cJ0_coder_7d493 7 = .ok (.getfield 15, 3) := by decide +kernel
theorem dJ0_coder_7d493_10 : decode cJ0_coder_7d493 10 = .ok (.goto 4, 3) := by decide +kernel
theorem dJ0_coder_7d493_14 : decode cJ0_coder_7d493 14 = .ok (.ireturn, 1) := by decide +kernel
theorem dJ0_isLatin1_aae02_0 : decode cJ0_isLatin1_aae02 0 = .ok (.getstatic 38, 3) := by decide +kernel
theorem dJ0_isLatin1_aae02_3 : decode cJ0_isLatin1_aae02 3 = .ok (.ifCond .eq 14, 3) := by decide +kernel
theorem dJ0_isLatin1_aae02_6 : decode cJ0_isLatin1_aae02 6 = .ok (.aload_n 0, 1) := by decide +kernel
theorem dJ0_isLatin1_aae02_7 : decode cJ0_isLatin1_aae02 7 = .ok (.getfield 15, 3) := by decide +kernel
theorem dJ0_isLatin1_aae02_10 : decode cJ0_isLatin1_aae02 10 = .ok (.ifCond .ne 7, 3) := by decide +kernel
theorem dJ0_isLatin1_aae02_13 : decode cJ0_isLatin1_aae02 13 = .ok (.iconst 1, 1) := by decide +kernel
theorem dJ0_isLatin1_aae02_14 : decode cJ0_isLatin1_aae02 14 = .ok (.goto 4, 3) := by decide +kernel
theorem dJ0_isLatin1_aae02_18 : decode cJ0_isLatin1_aae02 18 = .ok (.ireturn, 1) := by decide +kernel
theorem dJ0_length_8abf5_0 : decode cJ0_length_8abf5 0 = .ok (.aload_n 0, 1) := by decide +kernel
theorem dJ0_length_8abf5_1 : decode cJ0_length_8abf5 1 = .ok (.getfield 9, 3) := by decide +kernel
theorem dJ0_length_8abf5_4 : decode cJ0_length_8abf5 4 = .ok (.arraylength, 1) := by decide +kernel
theorem dJ0_length_8abf5_5 : decode cJ0_length_8abf5 5 = .ok (.aload_n 0, 1) := by decide +kernel
theorem dJ0_length_8abf5_6 : decode cJ0_length_8abf5 6 = .ok (.invokevirtual 335, 3) := by decide +kernel
theorem dJ0_length_8abf5_9 : decode cJ0_length_8abf5 9 = .ok (.ishr, 1) := by decide +kernel
theorem dJ0_length_8abf5_10 : decode cJ0_length_8abf5 10 = .ok (.ireturn, 1) := by decide +kernel
theorem dJ1_charAt_3b067_0 : decode cJ1_charAt_3b067 0 = .ok (.iload_n 1, 1) := by decide +kernel
theorem dJ1_charAt_3b067_1 : decode cJ1_charAt_3b067 1 = .ok (.aload_n 0, 1) := by decide +kernel
theorem dJ1_charAt_3b067_2 : decode cJ1_charAt_3b067 2 = .ok (.arraylength, 1) := by decide +kernel
theorem dJ1_charAt_3b067_3 : decode cJ1_charAt_3b067 3 = .ok (.invokestatic 9, 3) := by decide +kernel
theorem dJ1_charAt_3b067_6 : decode cJ1_charAt_3b067 6 = .ok (.aload_n 0, 1) := by decide +kernel
theorem dJ1_charAt_3b067_7 : decode cJ1_charAt_3b067 7 = .ok (.iload_n 1, 1) := by decide +kernel
theorem dJ1_charAt_3b067_8 : decode cJ1_charAt_3b067 8 = .ok (.baload, 1) := by decide +kernel
theorem dJ1_charAt_3b067_9 : decode cJ1_charAt_3b067 9 = .ok (.sipush 255, 3) := by decide +kernel
theorem dJ1_charAt_3b067_12 : decode cJ1_charAt_3b067 12 = .ok (.iand, 1) := by decide +kernel
theorem dJ1_charAt_3b067_13 : decode cJ1_charAt_3b067 13 = .ok (.i2c, 1) := by decide +kernel
theorem dJ1_charAt_3b067_14 : decode cJ1_charAt_3b067 14 = .ok (.ireturn, 1) := by decide +kernel
theorem dJ3_checkIndex_8e157_0 : decode cJ3_checkIndex_8e157 0 = .ok (.iload_n 0, 1) := by decide +kernel
theorem dJ3_checkIndex_8e157_1 : decode cJ3_checkIndex_8e157 1 = .ok (.ifCond .lt 8, 3) := by decide +kernel
theorem dJ3_checkIndex_8e157_4 : decode cJ3_checkIndex_8e157 4 = .ok (.iload_n 0, 1) := by decide +kernel
theorem dJ3_checkIndex_8e157_5 : decode cJ3_checkIndex_8e157 5 = .ok (.iload_n 1, 1) := by decide +kernel
theorem dJ3_checkIndex_8e157_6 : decode cJ3_checkIndex_8e157 6 = .ok (.if_icmp .lt 10, 3) := by decide +kernel
theorem dJ3_checkIndex_8e157_16 : decode cJ3_checkIndex_8e157 16 = .ok (.iload_n 0, 1) := by decide +kernel
theorem dJ3_checkIndex_8e157_17 : decode cJ3_checkIndex_8e157 17 = .ok (.ireturn, 1) := by decide +kernel
set_option maxHeartbeats 4000000 in
set_option maxRecDepth 100000 in
/-- coder() of WORDS -/
theorem k_coderW (l : Launch) (D : va_G) (K : KS)  : Con l D K yJ0_coder_7d493 cJ0_coder_7d493 1 (some .byte) 0 0 0 0 [.ref (K 10)] [] (fun v w => v = some (.int 0) ∧ w = []) := by
  refine Con.of (by decide +kernel) (Nat.le_of_ble_eq_true rfl) ?_
  intro X hXl hXD hXK C hR hQ hnm
  subst hXl; subst hXD; subst hXK
  refine g_lv (l2 := [(0, .ref (gK X 10))]) [0] rfl ?_
  refine g_gets (z := 3) C dJ0_coder_7d493_0 (evC C) w_734 rfl ?_
  refine g_if_eq_f (z := 6) 13 C dJ0_coder_7d493_3 (by decide) (by decide) rfl ?_
  refine g_aload_n (z := 7) C dJ0_coder_7d493_6 0 rfl rfl rfl ?_
  refine g_getE (z := 10) C dJ0_coder_7d493_7 (evWc C) w_731 rfl ?_
  refine g_goto (z := 14) C dJ0_coder_7d493_10 (by decide) ?_
  exact g_iret C hQ dJ0_coder_7d493_14 rfl (Nat.le_of_ble_eq_true rfl) (Nat.le_of_ble_eq_true rfl) ⟨rfl, rfl⟩
set_option maxHeartbeats 4000000 in
set_option maxRecDepth 100000 in
/-- isLatin1() of WORDS -/
theorem k_latinW (l : Launch) (D : va_G) (K : KS)  : Con l D K yJ0_isLatin1_aae02 cJ0_isLatin1_aae02 1 (some .boolean) 0 0 0 0 [.ref (K 10)] [] (fun v w => v = some (.int 1) ∧ w = []) := by
  refine Con.of (by decide +kernel) (Nat.le_of_ble_eq_true rfl) ?_
  intro X hXl hXD hXK C hR hQ hnm
  subst hXl; subst hXD; subst hXK
  refine g_lv (l2 := [(0, .ref (gK X 10))]) [0] rfl ?_
  refine g_gets (z := 3) C dJ0_isLatin1_aae02_0 (evC C) w_734 rfl ?_
  refine g_if_eq_f (z := 6) 17 C dJ0_isLatin1_aae02_3 (by decide) (by decide) rfl ?_
  refine g_aload_n (z := 7) C dJ0_isLatin1_aae02_6 0 rfl rfl rfl ?_
  refine g_getE (z := 10) C dJ0_isLatin1_aae02_7 (evWc C) w_731 rfl ?_
  refine g_if_ne_f (z := 13) 17 C dJ0_isLatin1_aae02_10 (by decide) (by decide) rfl ?_
  refine g_iconst (v := 1) (z := 14) C dJ0_isLatin1_aae02_13 (by decide) rfl ?_
  refine g_goto (z := 18) C dJ0_isLatin1_aae02_14 (by decide) ?_
  exact g_iret C hQ dJ0_isLatin1_aae02_18 rfl (Nat.le_of_ble_eq_true rfl) (Nat.le_of_ble_eq_true rfl) ⟨rfl, rfl⟩
set_option maxHeartbeats 4000000 in
set_option maxRecDepth 100000 in
/-- length() of WORDS -/
theorem k_lengthW (l : Launch) (D : va_G) (K : KS)  : Con l D K yJ0_length_8abf5 cJ0_length_8abf5 1 (some .int) 1 20 0 0 [.ref (K 10)] [] (fun v w => v = some (.int 157) ∧ w = []) := by
  refine Con.of (by decide +kernel) (Nat.le_of_ble_eq_true rfl) ?_
  intro X hXl hXD hXK C hR hQ hnm
  subst hXl; subst hXD; subst hXK
  refine g_lv (l2 := [(0, .ref (gK X 10))]) [0] rfl ?_
  refine g_aload_n (z := 1) C dJ0_length_8abf5_0 0 rfl rfl rfl ?_
  refine g_getE (z := 4) C dJ0_length_8abf5_1 (evWv C) w_733 rfl ?_
  refine g_tlen (v := 157) (z := 5) C dJ0_length_8abf5_4 (evWt C) (by decide) rfl ?_
  refine g_aload_n (z := 6) C dJ0_length_8abf5_5 0 rfl rfl rfl ?_
  refine g_callVE (n := 0) (As := []) (rest := [.int 157]) (wr := []) (a2 := 0) (b2 := 0) (z := 9) C hR (k_coderW (gl X) (gD X) (gK X)) dJ0_length_8abf5_6 w_739 w_746 w_747 w_745 w_391 ⟨by decide +kernel, by decide +kernel, by decide +kernel⟩ [] [] rfl rfl rfl rfl rfl (by decide) ⟨(Nat.le_of_ble_eq_true rfl), (Nat.le_of_ble_eq_true rfl)⟩ rfl rfl (Nat.le_of_ble_eq_true rfl) (Nat.le_of_ble_eq_true rfl) (Nat.le_of_ble_eq_true rfl) rfl rfl (evWo C) rfl rfl rfl (fun v ws' hp => ?_)
  obtain ⟨rfl, rfl⟩ := hp
  refine g_ws (w2 := []) rfl ?_
  refine g_st (s2 := [.int 0, .int 157]) rfl ?_
  refine g_ishr (v := 157) (z := 10) C dJ0_length_8abf5_9 (by decide) rfl ?_
  exact g_iret C hQ dJ0_length_8abf5_10 rfl (Nat.le_of_ble_eq_true rfl) (Nat.le_of_ble_eq_true rfl) ⟨rfl, rfl⟩
set_option maxHeartbeats 4000000 in
set_option maxRecDepth 100000 in
/-- Preconditions.checkIndex -/
theorem k_preciN (l : Launch) (D : va_G) (K : KS) (i n : Int32) (h0 : ¬ i < 0) (h1 : i < n) : Con l D K yJ3_checkIndex_8e157 cJ3_checkIndex_8e157 3 (some .int) 0 0 0 0 [.int i, .int n, .null] [] (fun v w => v = some (.int i) ∧ w = []) := by
  refine Con.of (by decide +kernel) (Nat.le_of_ble_eq_true rfl) ?_
  intro X hXl hXD hXK C hR hQ hnm
  subst hXl; subst hXD; subst hXK
  refine g_lv (l2 := [(0, .int i), (1, .int n), (2, .null)]) [0, 1, 2] rfl ?_
  refine g_iload_n (z := 1) C dJ3_checkIndex_8e157_0 0 rfl rfl rfl ?_
  refine g_if_lt_f (z := 4) 9 C dJ3_checkIndex_8e157_1 h0 (by decide) rfl ?_
  refine g_iload_n (z := 5) C dJ3_checkIndex_8e157_4 0 rfl rfl rfl ?_
  refine g_iload_n (z := 6) C dJ3_checkIndex_8e157_5 1 rfl rfl rfl ?_
  refine g_icmp_lt_t (z := 16) C dJ3_checkIndex_8e157_6 h1 (by decide) ?_
  refine g_iload_n (z := 17) C dJ3_checkIndex_8e157_16 0 rfl rfl rfl ?_
  exact g_iret C hQ dJ3_checkIndex_8e157_17 rfl (Nat.le_of_ble_eq_true rfl) (Nat.le_of_ble_eq_true rfl) ⟨rfl, rfl⟩
set_option maxHeartbeats 4000000 in
set_option maxRecDepth 100000 in
/-- Preconditions.checkIndex -/
theorem k_preciR (l : Launch) (D : va_G) (K : KS) (t : Nat) (i n : Int32) (h0 : ¬ i < 0) (h1 : i < n) : Con l D K yJ3_checkIndex_8e157 cJ3_checkIndex_8e157 3 (some .int) 0 0 0 0 [.int i, .int n, .ref t] [] (fun v w => v = some (.int i) ∧ w = []) := by
  refine Con.of (by decide +kernel) (Nat.le_of_ble_eq_true rfl) ?_
  intro X hXl hXD hXK C hR hQ hnm
  subst hXl; subst hXD; subst hXK
  refine g_lv (l2 := [(0, .int i), (1, .int n), (2, .ref t)]) [0, 1, 2] rfl ?_
  refine g_iload_n (z := 1) C dJ3_checkIndex_8e157_0 0 rfl rfl rfl ?_
  refine g_if_lt_f (z := 4) 9 C dJ3_checkIndex_8e157_1 h0 (by decide) rfl ?_
  refine g_iload_n (z := 5) C dJ3_checkIndex_8e157_4 0 rfl rfl rfl ?_
  refine g_iload_n (z := 6) C dJ3_checkIndex_8e157_5 1 rfl rfl rfl ?_
  refine g_icmp_lt_t (z := 16) C dJ3_checkIndex_8e157_6 h1 (by decide) ?_
  refine g_iload_n (z := 17) C dJ3_checkIndex_8e157_16 0 rfl rfl rfl ?_
  exact g_iret C hQ dJ3_checkIndex_8e157_17 rfl (Nat.le_of_ble_eq_true rfl) (Nat.le_of_ble_eq_true rfl) ⟨rfl, rfl⟩
set_option maxHeartbeats 4000000 in
set_option maxRecDepth 100000 in
/-- String.checkIndex -/
theorem k_sci (l : Launch) (D : va_G) (K : KS) (i n : Int32) (h0 : ¬ i < 0) (h1 : i < n) : Con l D K yJ0_checkIndex_df160 cJ0_checkIndex_df160 2 none 1 22 0 0 [.int i, .int n] [] (fun v w => v = none ∧ w = []) := by
  refine Con.of (by decide +kernel) (Nat.le_of_ble_eq_true rfl) ?_
  intro X hXl hXD hXK C hR hQ hnm
  subst hXl; subst hXD; subst hXK
  refine g_lv (l2 := [(0, .int i), (1, .int n)]) [0, 1] rfl ?_
  refine g_iload_n (z := 1) C dJ0_checkIndex_df160_0 0 rfl rfl rfl ?_
  refine g_iload_n (z := 2) C dJ0_checkIndex_df160_1 1 rfl rfl rfl ?_
  rcases evF C with hF | ⟨t, hF⟩
  · refine g_gets (z := 5) C dJ0_checkIndex_df160_2 hF w_753 rfl ?_
    refine g_callS (n := 3) (As := [.int i, .int n, .null]) (rest := []) (wr := []) (a2 := 0) (b2 := 0) (z := 8) C hR (k_preciN (gl X) (gD X) (gK X) i n h0 h1) dJ0_checkIndex_df160_5 w_754 w_761 w_759 w_760 ⟨by decide +kernel, by decide +kernel, by decide +kernel⟩ [] [] rfl rfl rfl rfl rfl (by decide) ⟨(Nat.le_of_ble_eq_true rfl), (Nat.le_of_ble_eq_true rfl)⟩ rfl rfl (Nat.le_of_ble_eq_true rfl) (Nat.le_of_ble_eq_true rfl) (Nat.le_of_ble_eq_true rfl) rfl rfl rfl rfl (fun v ws' hp => ?_)
    obtain ⟨rfl, rfl⟩ := hp
    refine g_ws (w2 := []) rfl ?_
    refine g_st (s2 := [.int i]) rfl ?_
    refine g_pop (z := 9) C dJ0_checkIndex_df160_8 rfl rfl ?_
    exact g_vret C hQ dJ0_checkIndex_df160_9 (Nat.le_of_ble_eq_true rfl) (Nat.le_of_ble_eq_true rfl) ⟨rfl, rfl⟩
  · refine g_gets (z := 5) C dJ0_checkIndex_df160_2 hF w_753 rfl ?_
    refine g_callS (n := 3) (As := [.int i, .int n, .ref t]) (rest := []) (wr := []) (a2 := 0) (b2 := 0) (z := 8) C hR (k_preciR (gl X) (gD X) (gK X) t i n h0 h1) dJ0_checkIndex_df160_5 w_754 w_761 w_759 w_760 ⟨by decide +kernel, by decide +kernel, by decide +kernel⟩ [] [] rfl rfl rfl rfl rfl (by decide) ⟨(Nat.le_of_ble_eq_true rfl), (Nat.le_of_ble_eq_true rfl)⟩ rfl rfl (Nat.le_of_ble_eq_true rfl) (Nat.le_of_ble_eq_true rfl) (Nat.le_of_ble_eq_true rfl) rfl rfl rfl rfl (fun v ws' hp => ?_)
    obtain ⟨rfl, rfl⟩ := hp
    refine g_ws (w2 := []) rfl ?_
    refine g_st (s2 := [.int i]) rfl ?_
    refine g_pop (z := 9) C dJ0_checkIndex_df160_8 rfl rfl ?_
    exact g_vret C hQ dJ0_checkIndex_df160_9 (Nat.le_of_ble_eq_true rfl) (Nat.le_of_ble_eq_true rfl) ⟨rfl, rfl⟩
set_option maxHeartbeats 4000000 in
set_option maxRecDepth 100000 in
/-- StringLatin1.charAt over the bytes of WORDS -/
theorem k_lcharW (l : Launch) (D : va_G) (K : KS) (i : Nat) (hi : i < 157) : Con l D K yJ1_charAt_3b067 cJ1_charAt_3b067 2 (some .char) 2 43 0 0 [.ref (K 11), .int (nI i)] [] (fun v w => (∃ r : Int32, narrow .char (.int r) = .int r ∧ v = some (.int r)) ∧ w = []) := by
  refine Con.of (by decide +kernel) (Nat.le_of_ble_eq_true rfl) ?_
  intro X hXl hXD hXK C hR hQ hnm
  subst hXl; subst hXD; subst hXK
  refine g_lv (l2 := [(0, .ref (gK X 11)), (1, .int (nI i))]) [0, 1] rfl ?_
  refine g_iload_n (z := 1) C dJ1_charAt_3b067_0 1 rfl rfl rfl ?_
  refine g_aload_n (z := 2) C dJ1_charAt_3b067_1 0 rfl rfl rfl ?_
  refine g_tlen (v := 157) (z := 3) C dJ1_charAt_3b067_2 (evWt C) (by decide) rfl ?_
  refine g_callS (n := 2) (As := [.int (nI i), .int 157]) (rest := []) (wr := []) (a2 := 0) (b2 := 0) (z := 6) C hR (k_sci (gl X) (gD X) (gK X) (nI i) 157 (nI_pos (by omega)) (nI_lt (a := i) (b := 157) hi (by omega))) dJ1_charAt_3b067_3 w_758 w_752 w_751 w_391 ⟨by decide +kernel, by decide +kernel, by decide +kernel⟩ [] [] rfl rfl rfl rfl rfl (by decide) ⟨(Nat.le_of_ble_eq_true rfl), (Nat.le_of_ble_eq_true rfl)⟩ rfl rfl (Nat.le_of_ble_eq_true rfl) (Nat.le_of_ble_eq_true rfl) (Nat.le_of_ble_eq_true rfl) rfl rfl rfl rfl (fun v ws' hp => ?_)
  obtain ⟨rfl, rfl⟩ := hp
  refine g_ws (w2 := []) rfl ?_
  refine g_st (s2 := []) rfl ?_
  refine g_aload_n (z := 7) C dJ1_charAt_3b067_6 0 rfl rfl rfl ?_
  refine g_iload_n (z := 8) C dJ1_charAt_3b067_7 1 rfl rfl rfl ?_
  refine g_tb (v := .int (fW i)) (z := 9) C dJ1_charAt_3b067_8 (evWt C) (vp_in_nI hi (by omega)) (by rw [nI_clamp (by omega)]) rfl ?_
  refine g_sipush (v := 255) (z := 12) C dJ1_charAt_3b067_9 (by decide) rfl ?_
  refine g_iand (v := ((fW i) &&& 255)) (z := 13) C dJ1_charAt_3b067_12 (rfl) rfl ?_
  refine g_i2c (v := ((fW i &&& 255).toUInt32 % 65536).toInt32) (z := 14) C dJ1_charAt_3b067_13 rfl rfl ?_
  exact g_iret C hQ dJ1_charAt_3b067_14 (pk_nc _) (Nat.le_of_ble_eq_true rfl) (Nat.le_of_ble_eq_true rfl) ⟨⟨_, pk_nc _, rfl⟩, rfl⟩
set_option maxHeartbeats 4000000 in
set_option maxRecDepth 100000 in
/-- charAt(i) of WORDS: some char -/
theorem k_charW (l : Launch) (D : va_G) (K : KS) (i : Nat) (hi : i < 157) : Con l D K yJ0_charAt_5068e cJ0_charAt_5068e 2 (some .char) 3 64 0 0 [.ref (K 10), .int (nI i)] [] (fun v w => (∃ r : Int32, v = some (.int r)) ∧ w = []) := by
  refine Con.of (by decide +kernel) (Nat.le_of_ble_eq_true rfl) ?_
  intro X hXl hXD hXK C hR hQ hnm
  subst hXl; subst hXD; subst hXK
  refine g_lv (l2 := [(0, .ref (gK X 10)), (1, .int (nI i))]) [0, 1] rfl ?_
  refine g_aload_n (z := 1) C dJ0_charAt_5068e_0 0 rfl rfl rfl ?_
  refine g_callVE (n := 0) (As := []) (rest := []) (wr := []) (a2 := 0) (b2 := 0) (z := 4) C hR (k_latinW (gl X) (gD X) (gK X)) dJ0_charAt_5068e_1 w_743 w_749 w_750 w_748 w_391 ⟨by decide +kernel, by decide +kernel, by decide +kernel⟩ [] [] rfl rfl rfl rfl rfl (by decide) ⟨(Nat.le_of_ble_eq_true rfl), (Nat.le_of_ble_eq_true rfl)⟩ rfl rfl (Nat.le_of_ble_eq_true rfl) (Nat.le_of_ble_eq_true rfl) (Nat.le_of_ble_eq_true rfl) rfl rfl (evWo C) rfl rfl rfl (fun v ws' hp => ?_)
  obtain ⟨rfl, rfl⟩ := hp
  refine g_ws (w2 := []) rfl ?_
  refine g_st (s2 := [.int 1]) rfl ?_
  refine g_if_eq_f (z := 7) 16 C dJ0_charAt_5068e_4 (by decide) (by decide) rfl ?_
  refine g_aload_n (z := 8) C dJ0_charAt_5068e_7 0 rfl rfl rfl ?_
  refine g_getE (z := 11) C dJ0_charAt_5068e_8 (evWv C) w_733 rfl ?_
  refine g_iload_n (z := 12) C dJ0_charAt_5068e_11 1 rfl rfl rfl ?_
  refine g_callS (n := 2) (As := [.ref (gK X 11), .int (nI i)]) (rest := []) (wr := []) (a2 := 0) (b2 := 0) (z := 15) C hR (k_lcharW (gl X) (gD X) (gK X) i hi) dJ0_charAt_5068e_12 w_744 w_757 w_755 w_756 ⟨by decide +kernel, by decide +kernel, by decide +kernel⟩ [] [] rfl rfl rfl rfl rfl (by decide) ⟨(Nat.le_of_ble_eq_true rfl), (Nat.le_of_ble_eq_true rfl)⟩ rfl rfl (Nat.le_of_ble_eq_true rfl) (Nat.le_of_ble_eq_true rfl) (Nat.le_of_ble_eq_true rfl) rfl rfl rfl rfl (fun v ws' hp => ?_)
  obtain ⟨⟨r, hr, rfl⟩, rfl⟩ := hp
  refine g_ws (w2 := []) rfl ?_
  refine g_st (s2 := [.int r]) rfl ?_
  exact g_iret C hQ dJ0_charAt_5068e_15 hr (Nat.le_of_ble_eq_true rfl) (Nat.le_of_ble_eq_true rfl) ⟨⟨r, rfl⟩, rfl⟩
end
section
theorem dX5_init_0 : decode cX5_init 0 = .ok (.aload_n 0, 1) := by decide +kernel
theorem dX5_init_1 : decode cX5_init 1 = .ok (.invokespecial 3, 3) := by decide +kernel
theorem dX5_init_4 : decode cX5_init 4 = .ok (.aload_n 0, 1) := by decide +kernel
theorem dX5_init_5 : decode cX5_init 5 = .ok (.new 9, 3) := by decide +kernel
theorem dX5_init_8 : decode cX5_init 8 = .ok (.dup, 1) := by decide +kernel
theorem dX5_init_9 : decode cX5_init 9 = .ok (.invokespecial 11, 3) := by decide +kernel
theorem dX5_init_12 : decode cX5_init 12 = .ok (.putfield 12, 3) := by decide +kernel
theorem dX5_init_15 : decode cX5_init 15 = .ok (.aload_n 0, 1) := by decide +kernel
theorem dX5_init_16 : decode cX5_init 16 = .ok (.new 18, 3) := by decide +kernel
theorem dX5_init_19 : decode cX5_init 19 = .ok (.dup, 1) := by decide +kernel
theorem dX5_init_20 : decode cX5_init 20 = .ok (.invokespecial 20, 3) := by decide +kernel
theorem dX5_init_23 : decode cX5_init 23 = .ok (.putfield 21, 3) := by decide +kernel
theorem dX5_init_26 : decode cX5_init 26 = .ok (.aload_n 0, 1) := by decide +kernel
theorem dX5_init_27 : decode cX5_init 27 = .ok (.new 25, 3) := by decide +kernel
theorem dX5_init_30 : decode cX5_init 30 = .ok (.dup, 1) := by decide +kernel
theorem dX5_init_31 : decode cX5_init 31 = .ok (.invokespecial 27, 3) := by decide +kernel
theorem dX5_init_34 : decode cX5_init 34 = .ok (.putfield 28, 3) := by decide +kernel
theorem dX5_init_37 : decode cX5_init 37 = .ok (.aload_n 0, 1) := by decide +kernel
theorem dX5_init_38 : decode cX5_init 38 = .ok (.new 32, 3) := by decide +kernel
theorem dX5_init_41 : decode cX5_init 41 = .ok (.dup, 1) := by decide +kernel
theorem dX5_init_42 : decode cX5_init 42 = .ok (.invokespecial 34, 3) := by decide +kernel
theorem dX5_init_45 : decode cX5_init 45 = .ok (.putfield 35, 3) := by decide +kernel
theorem dX5_init_48 : decode cX5_init 48 = .ok (.aload_n 0, 1) := by decide +kernel
theorem dX5_init_49 : decode cX5_init 49 = .ok (.sipush 3072, 3) := by decide +kernel
theorem dX5_init_52 : decode cX5_init 52 = .ok (.newarray .int, 2) := by decide +kernel
theorem dX5_init_54 : decode cX5_init 54 = .ok (.putfield 39, 3) := by decide +kernel
theorem dX5_init_57 : decode cX5_init 57 = .ok (.aload_n 0, 1) := by decide +kernel
theorem dX5_init_58 : decode cX5_init 58 = .ok (.sipush 3072, 3) := by decide +kernel
theorem dX5_init_61 : decode cX5_init 61 = .ok (.newarray .int, 2) := by decide +kernel
theorem dX5_init_63 : decode cX5_init 63 = .ok (.putfield 43, 3) := by decide +kernel
theorem dX5_init_66 : decode cX5_init 66 = .ok (.aload_n 0, 1) := by decide +kernel
theorem dX5_init_67 : decode cX5_init 67 = .ok (.sipush 3072, 3) := by decide +kernel
theorem dX5_init_70 : decode cX5_init 70 = .ok (.newarray .int, 2) := by decide +kernel
theorem dX5_init_72 : decode cX5_init 72 = .ok (.putfield 46, 3) := by decide +kernel
theorem dX5_init_75 : decode cX5_init 75 = .ok (.aload_n 0, 1) := by decide +kernel
theorem dX5_init_76 : decode cX5_init 76 = .ok (.sipush 3072, 3) := by decide +kernel
theorem dX5_init_79 : decode cX5_init 79 = .ok (.newarray .int, 2) := by decide +kernel
theorem dX5_init_81 : decode cX5_init 81 = .ok (.putfield 49, 3) := by decide +kernel
theorem dX5_init_84 : decode cX5_init 84 = .ok (.aload_n 0, 1) := by decide +kernel
theorem dX5_init_85 : decode cX5_init 85 = .ok (.sipush 3072, 3) := by decide +kernel
theorem dX5_init_88 : decode cX5_init 88 = .ok (.newarray .int, 2) := by decide +kernel
theorem dX5_init_90 : decode cX5_init 90 = .ok (.putfield 52, 3) := by decide +kernel
theorem dX5_init_93 : decode cX5_init 93 = .ok (.aload_n 0, 1) := by decide +kernel
theorem dX5_init_94 : decode cX5_init 94 = .ok (.sipush 3072, 3) := by decide +kernel
theorem dX5_init_97 : decode cX5_init 97 = .ok (.newarray .int, 2) := by decide +kernel
theorem dX5_init_99 : decode cX5_init 99 = .ok (.putfield 55, 3) := by decide +kernel
theorem dX5_init_102 : decode cX5_init 102 = .ok (.aload_n 0, 1) := by decide +kernel
theorem dX5_init_103 : decode cX5_init 103 = .ok (.sipush 760, 3) := by decide +kernel
theorem dX5_init_106 : decode cX5_init 106 = .ok (.newarray .int, 2) := by decide +kernel
theorem dX5_init_108 : decode cX5_init 108 = .ok (.putfield 58, 3) := by decide +kernel
theorem dX5_init_111 : decode cX5_init 111 = .ok (.return_, 1) := by decide +kernel
theorem dX6_init_0 : decode cX6_init 0 = .ok (.aload_n 0, 1) := by decide +kernel
theorem dX6_init_1 : decode cX6_init 1 = .ok (.invokespecial 3, 3) := by decide +kernel
theorem dX6_init_4 : decode cX6_init 4 = .ok (.aload_n 0, 1) := by decide +kernel
theorem dX6_init_5 : decode cX6_init 5 = .ok (.ldc 9, 2) := by decide +kernel
theorem dX6_init_7 : decode cX6_init 7 = .ok (.invokevirtual 11, 3) := by decide +kernel
theorem dX6_init_10 : decode cX6_init 10 = .ok (.sipush 3000, 3) := by decide +kernel
theorem dX6_init_13 : decode cX6_init 13 = .ok (.iadd, 1) := by decide +kernel
theorem dX6_init_14 : decode cX6_init 14 = .ok (.newarray .byte, 2) := by decide +kernel
theorem dX6_init_16 : decode cX6_init 16 = .ok (.putfield 17, 3) := by decide +kernel
theorem dX6_init_19 : decode cX6_init 19 = .ok (.aload_n 0, 1) := by decide +kernel
theorem dX6_init_20 : decode cX6_init 20 = .ok (.sipush 1544, 3) := by decide +kernel
theorem dX6_init_23 : decode cX6_init 23 = .ok (.newarray .int, 2) := by decide +kernel
theorem dX6_init_25 : decode cX6_init 25 = .ok (.putfield 23, 3) := by decide +kernel
theorem dX6_init_28 : decode cX6_init 28 = .ok (.aload_n 0, 1) := by decide +kernel
theorem dX6_init_29 : decode cX6_init 29 = .ok (.sipush 1544, 3) := by decide +kernel
theorem dX6_init_32 : decode cX6_init 32 = .ok (.newarray .int, 2) := by decide +kernel
theorem dX6_init_34 : decode cX6_init 34 = .ok (.putfield 27, 3) := by decide +kernel
theorem dX6_init_37 : decode cX6_init 37 = .ok (.aload_n 0, 1) := by decide +kernel
theorem dX6_init_38 : decode cX6_init 38 = .ok (.sipush 1544, 3) := by decide +kernel
theorem dX6_init_41 : decode cX6_init 41 = .ok (.newarray .int, 2) := by decide +kernel
theorem dX6_init_43 : decode cX6_init 43 = .ok (.putfield 30, 3) := by decide +kernel
theorem dX6_init_46 : decode cX6_init 46 = .ok (.aload_n 0, 1) := by decide +kernel
theorem dX6_init_47 : decode cX6_init 47 = .ok (.sipush 256, 3) := by decide +kernel
theorem dX6_init_50 : decode cX6_init 50 = .ok (.newarray .int, 2) := by decide +kernel
theorem dX6_init_52 : decode cX6_init 52 = .ok (.putfield 33, 3) := by decide +kernel
theorem dX6_init_55 : decode cX6_init 55 = .ok (.aload_n 0, 1) := by decide +kernel
theorem dX6_init_56 : decode cX6_init 56 = .ok (.sipush 3001, 3) := by decide +kernel
theorem dX6_init_59 : decode cX6_init 59 = .ok (.newarray .int, 2) := by decide +kernel
theorem dX6_init_61 : decode cX6_init 61 = .ok (.putfield 36, 3) := by decide +kernel
theorem dX6_init_64 : decode cX6_init 64 = .ok (.aload_n 0, 1) := by decide +kernel
theorem dX6_init_65 : decode cX6_init 65 = .ok (.sipush 3001, 3) := by decide +kernel
theorem dX6_init_68 : decode cX6_init 68 = .ok (.newarray .int, 2) := by decide +kernel
theorem dX6_init_70 : decode cX6_init 70 = .ok (.putfield 39, 3) := by decide +kernel
theorem dX6_init_73 : decode cX6_init 73 = .ok (.aload_n 0, 1) := by decide +kernel
theorem dX6_init_74 : decode cX6_init 74 = .ok (.sipush 3001, 3) := by decide +kernel
theorem dX6_init_77 : decode cX6_init 77 = .ok (.newarray .long, 2) := by decide +kernel
theorem dX6_init_79 : decode cX6_init 79 = .ok (.putfield 42, 3) := by decide +kernel
theorem dX6_init_82 : decode cX6_init 82 = .ok (.aload_n 0, 1) := by decide +kernel
theorem dX6_init_83 : decode cX6_init 83 = .ok (.aload_n 1, 1) := by decide +kernel
theorem dX6_init_84 : decode cX6_init 84 = .ok (.putfield 46, 3) := by decide +kernel
theorem dX6_init_87 : decode cX6_init 87 = .ok (.iconst 0, 1) := by decide +kernel
theorem dX6_init_88 : decode cX6_init 88 = .ok (.istore_n 2, 1) := by decide +kernel
theorem dX6_init_89 : decode cX6_init 89 = .ok (.iload_n 2, 1) := by decide +kernel
theorem dX6_init_90 : decode cX6_init 90 = .ok (.ldc 9, 2) := by decide +kernel
theorem dX6_init_92 : decode cX6_init 92 = .ok (.invokevirtual 11, 3) := by decide +kernel
theorem dX6_init_95 : decode cX6_init 95 = .ok (.if_icmp .ge 22, 3) := by decide +kernel
theorem dX6_init_98 : decode cX6_init 98 = .ok (.aload_n 0, 1) := by decide +kernel
theorem dX6_init_99 : decode cX6_init 99 = .ok (.getfield 17, 3) := by decide +kernel
theorem dX6_init_102 : decode cX6_init 102 = .ok (.iload_n 2, 1) := by decide +kernel
theorem dX6_init_103 : decode cX6_init 103 = .ok (.ldc 9, 2) := by decide +kernel
theorem dX6_init_105 : decode cX6_init 105 = .ok (.iload_n 2, 1) := by decide +kernel
theorem dX6_init_106 : decode cX6_init 106 = .ok (.invokevirtual 50, 3) := by decide +kernel
theorem dX6_init_109 : decode cX6_init 109 = .ok (.i2b, 1) := by decide +kernel
theorem dX6_init_110 : decode cX6_init 110 = .ok (.bastore, 1) := by decide +kernel
theorem dX6_init_111 : decode cX6_init 111 = .ok (.iinc 2 1, 3) := by decide +kernel
theorem dX6_init_114 : decode cX6_init 114 = .ok (.goto (-25), 3) := by decide +kernel
theorem dX6_init_117 : decode cX6_init 117 = .ok (.return_, 1) := by decide +kernel
set_option maxHeartbeats 4000000 in
set_option maxRecDepth 100000 in
/-- Program() -/
theorem k_X5_init (l : Launch) (D : va_G) (K : KS) (h0 : Nat) : Con l D K yX5_init cX5_init 1 none 2 32 69 70906 [.ref h0] [(h0, .inr (8, [.null, .null, .null, .null, .null, .null, .null, .null, .null, .null, .int 0, .int 0, .int 0, .null, .int 0]))] (fun v w => v = none ∧ ∃ (q1 : Nat) (q17 : Nat) (q34 : Nat) (q45 : Nat) (q63 : Nat) (q64 : Nat) (q65 : Nat) (q66 : Nat) (q67 : Nat) (q68 : Nat) (q69 : Nat) (q2 : Nat) (q3 : Nat) (q4 : Nat) (q5 : Nat) (q6 : Nat) (q7 : Nat) (q8 : Nat) (q9 : Nat) (q10 : Nat) (q11 : Nat) (q12 : Nat) (q13 : Nat) (q14 : Nat) (q15 : Nat) (q16 : Nat) (q18 : Nat) (q19 : Nat) (q20 : Nat) (q21 : Nat) (q22 : Nat) (q23 : Nat) (q24 : Nat) (q25 : Nat) (q26 : Nat) (q27 : Nat) (q28 : Nat) (q29 : Nat) (q30 : Nat) (q31 : Nat) (q32 : Nat) (q33 : Nat) (q35 : Nat) (q36 : Nat) (q37 : Nat) (q38 : Nat) (q39 : Nat) (q40 : Nat) (q41 : Nat) (q42 : Nat) (q43 : Nat) (q44 : Nat) (q46 : Nat) (q47 : Nat) (q48 : Nat) (q49 : Nat) (q50 : Nat) (q51 : Nat) (q52 : Nat) (q53 : Nat) (q54 : Nat) (q55 : Nat) (q56 : Nat) (q57 : Nat) (q58 : Nat) (q59 : Nat) (q60 : Nat) (q61 : Nat) (q62 : Nat), w = [(h0, .inr (8, [.ref q1, .ref q17, .ref q34, .ref q45, .ref q63, .ref q64, .ref q65, .ref q66, .ref q67, .ref q68, .int 0, .int 0, .int 0, .ref q69, .int 0])), (q1, .inr (9, [.ref q2, .ref q3, .int 0, .ref q4, .ref q5, .ref q6, .ref q7, .ref q8, .ref q9, .ref q10, .int 0, .ref q11, .ref q12, .ref q13, .int 0, .ref q14, .ref q15, .ref q16, .int 0])), (q2, .inl (K 0, 1504, .inl (fun _ => 0))), (q17, .inr (10, [.ref q18, .ref q19, .ref q20, .ref q21, .ref q22, .ref q23, .ref q24, .int 0, .ref q25, .ref q26, .ref q27, .ref q28, .ref q29, .ref q30, .ref q31, .ref q32, .ref q33, .int 0, .int 0])), (q34, .inr (11, [.ref q35, .ref q36, .ref q37, .ref q38, .ref q39, .ref q40, .ref q41, .ref q42, .int 0, .ref q43, .ref q44, .int 0])), (q45, .inr (12, [.ref q46, .ref q47, .ref q48, .ref q49, .ref q50, .ref q51, .ref q52, .ref q53, .ref q54, .ref q55, .ref q56, .ref q57, .int 0, .ref q58, .ref q59, .ref q60, .int 0, .ref q61, .ref q62, .int 0]))]) := by
  refine Con.of (by decide +kernel) (Nat.le_of_ble_eq_true rfl) ?_
  intro X hXl hXD hXK C hR hQ hnm
  subst hXl; subst hXD; subst hXK
  refine g_lv (l2 := [(0, .ref h0)]) [0] rfl ?_
  refine g_aload_n (z := 1) C dX5_init_0 0 rfl rfl rfl ?_
  refine g_objInit (z := 4) C hR dX5_init_1 w_253 w_0 w_1 (Nat.le_of_ble_eq_true rfl) (Nat.le_of_ble_eq_true rfl) rfl ?_
  refine g_aload_n (z := 5) C dX5_init_4 0 rfl rfl rfl ?_
  refine g_new (fs := [.null, .null, .int 0, .null, .null, .null, .null, .null, .null, .null, .int 0, .null, .null, .null, .int 0, .null, .null, .null, .int 0]) (a2 := 1) (b2 := 19) (z := 8) C hR kX9 dX5_init_5 w_254 w_255 w_256 rfl rfl rfl (Nat.le_of_ble_eq_true rfl) (Nat.le_of_ble_eq_true rfl) rfl (fun q1 => ?_)
  refine g_ws (w2 := [(h0, .inr (8, [.null, .null, .null, .null, .null, .null, .null, .null, .null, .null, .int 0, .int 0, .int 0, .null, .int 0])), (q1, .inr (9, [.null, .null, .int 0, .null, .null, .null, .null, .null, .null, .null, .int 0, .null, .null, .null, .int 0, .null, .null, .null, .int 0]))]) rfl ?_
  refine g_dup (z := 9) C dX5_init_8 rfl rfl ?_
  refine g_callIN (n := 0) (As := []) (rest := [.ref q1, .ref h0]) (wr := [(h0, .inr (8, [.null, .null, .null, .null, .null, .null, .null, .null, .null, .null, .int 0, .int 0, .int 0, .null, .int 0]))]) (a2 := 16) (b2 := 14179) (z := 12) C hR (k_X9_init (gl X) (gD X) (gK X) q1) dX5_init_9 nw_63 w_285 rfl w_284 w_256 ⟨by decide +kernel, by decide +kernel, by decide +kernel⟩ [1] [0] rfl rfl rfl rfl rfl (by decide) ⟨(Nat.le_of_ble_eq_true rfl), (Nat.le_of_ble_eq_true rfl)⟩ rfl rfl (Nat.le_of_ble_eq_true rfl) (Nat.le_of_ble_eq_true rfl) (Nat.le_of_ble_eq_true rfl) rfl rfl rfl rfl (fun v ws' hp => ?_)
  obtain ⟨rfl, q2, q3, q4, q5, q6, q7, q8, q9, q10, q11, q12, q13, q14, q15, q16, rfl⟩ := hp
  refine g_ws (w2 := [(h0, .inr (8, [.null, .null, .null, .null, .null, .null, .null, .null, .null, .null, .int 0, .int 0, .int 0, .null, .int 0])), (q1, .inr (9, [.ref q2, .ref q3, .int 0, .ref q4, .ref q5, .ref q6, .ref q7, .ref q8, .ref q9, .ref q10, .int 0, .ref q11, .ref q12, .ref q13, .int 0, .ref q14, .ref q15, .ref q16, .int 0])), (q2, .inl (gK X 0, 1504, .inl (fun _ => 0)))]) rfl ?_
  refine g_st (s2 := [.ref q1, .ref h0]) rfl ?_
  refine g_putF (w2 := [(h0, .inr (8, [.ref q1, .null, .null, .null, .null, .null, .null, .null, .null, .null, .int 0, .int 0, .int 0, .null, .int 0])), (q1, .inr (9, [.ref q2, .ref q3, .int 0, .ref q4, .ref q5, .ref q6, .ref q7, .ref q8, .ref q9, .ref q10, .int 0, .ref q11, .ref q12, .ref q13, .int 0, .ref q14, .ref q15, .ref q16, .int 0])), (q2, .inl (gK X 0, 1504, .inl (fun _ => 0)))]) (z := 15) C kX5 dX5_init_12 0 rfl 0 (by decide) w_257 rfl rfl hnm rfl rfl rfl (Nat.le_of_ble_eq_true rfl) rfl rfl ?_
  refine g_aload_n (z := 16) C dX5_init_15 0 rfl rfl rfl ?_
  refine g_new (fs := [.null, .null, .null, .null, .null, .null, .null, .int 0, .null, .null, .null, .null, .null, .null, .null, .null, .null, .int 0, .int 0]) (a2 := 17) (b2 := 14198) (z := 19) C hR kX2 dX5_init_16 w_258 w_259 w_260 rfl rfl rfl (Nat.le_of_ble_eq_true rfl) (Nat.le_of_ble_eq_true rfl) rfl (fun q17 => ?_)
  refine g_ws (w2 := [(h0, .inr (8, [.ref q1, .null, .null, .null, .null, .null, .null, .null, .null, .null, .int 0, .int 0, .int 0, .null, .int 0])), (q1, .inr (9, [.ref q2, .ref q3, .int 0, .ref q4, .ref q5, .ref q6, .ref q7, .ref q8, .ref q9, .ref q10, .int 0, .ref q11, .ref q12, .ref q13, .int 0, .ref q14, .ref q15, .ref q16, .int 0])), (q2, .inl (gK X 0, 1504, .inl (fun _ => 0))), (q17, .inr (10, [.null, .null, .null, .null, .null, .null, .null, .int 0, .null, .null, .null, .null, .null, .null, .null, .null, .null, .int 0, .int 0]))]) rfl ?_
  refine g_dup (z := 20) C dX5_init_19 rfl rfl ?_
  refine g_callIN (n := 0) (As := []) (rest := [.ref q17, .ref h0]) (wr := [(h0, .inr (8, [.ref q1, .null, .null, .null, .null, .null, .null, .null, .null, .null, .int 0, .int 0, .int 0, .null, .int 0])), (q1, .inr (9, [.ref q2, .ref q3, .int 0, .ref q4, .ref q5, .ref q6, .ref q7, .ref q8, .ref q9, .ref q10, .int 0, .ref q11, .ref q12, .ref q13, .int 0, .ref q14, .ref q15, .ref q16, .int 0])), (q2, .inl (gK X 0, 1504, .inl (fun _ => 0)))]) (a2 := 33) (b2 := 21402) (z := 23) C hR (k_X2_init (gl X) (gD X) (gK X) q17) dX5_init_20 nw_64 w_313 rfl w_312 w_260 ⟨by decide +kernel, by decide +kernel, by decide +kernel⟩ [3] [0, 1, 2] rfl rfl rfl rfl rfl (by decide) ⟨(Nat.le_of_ble_eq_true rfl), (Nat.le_of_ble_eq_true rfl)⟩ rfl rfl (Nat.le_of_ble_eq_true rfl) (Nat.le_of_ble_eq_true rfl) (Nat.le_of_ble_eq_true rfl) rfl rfl rfl rfl (fun v ws' hp => ?_)
  obtain ⟨rfl, q18, q19, q20, q21, q22, q23, q24, q25, q26, q27, q28, q29, q30, q31, q32, q33, rfl⟩ := hp
  refine g_ws (w2 := [(h0, .inr (8, [.ref q1, .null, .null, .null, .null, .null, .null, .null, .null, .null, .int 0, .int 0, .int 0, .null, .int 0])), (q1, .inr (9, [.ref q2, .ref q3, .int 0, .ref q4, .ref q5, .ref q6, .ref q7, .ref q8, .ref q9, .ref q10, .int 0, .ref q11, .ref q12, .ref q13, .int 0, .ref q14, .ref q15, .ref q16, .int 0])), (q2, .inl (gK X 0, 1504, .inl (fun _ => 0))), (q17, .inr (10, [.ref q18, .ref q19, .ref q20, .ref q21, .ref q22, .ref q23, .ref q24, .int 0, .ref q25, .ref q26, .ref q27, .ref q28, .ref q29, .ref q30, .ref q31, .ref q32, .ref q33, .int 0, .int 0]))]) rfl ?_
  refine g_st (s2 := [.ref q17, .ref h0]) rfl ?_
  refine g_putF (w2 := [(h0, .inr (8, [.ref q1, .ref q17, .null, .null, .null, .null, .null, .null, .null, .null, .int 0, .int 0, .int 0, .null, .int 0])), (q1, .inr (9, [.ref q2, .ref q3, .int 0, .ref q4, .ref q5, .ref q6, .ref q7, .ref q8, .ref q9, .ref q10, .int 0, .ref q11, .ref q12, .ref q13, .int 0, .ref q14, .ref q15, .ref q16, .int 0])), (q2, .inl (gK X 0, 1504, .inl (fun _ => 0))), (q17, .inr (10, [.ref q18, .ref q19, .ref q20, .ref q21, .ref q22, .ref q23, .ref q24, .int 0, .ref q25, .ref q26, .ref q27, .ref q28, .ref q29, .ref q30, .ref q31, .ref q32, .ref q33, .int 0, .int 0]))]) (z := 26) C kX5 dX5_init_23 0 rfl 1 (by decide) w_261 rfl rfl hnm rfl rfl rfl (Nat.le_of_ble_eq_true rfl) rfl rfl ?_
  refine g_aload_n (z := 27) C dX5_init_26 0 rfl rfl rfl ?_
  refine g_new (fs := [.null, .null, .null, .null, .null, .null, .null, .null, .int 0, .null, .null, .int 0]) (a2 := 34) (b2 := 21414) (z := 30) C hR kX10 dX5_init_27 w_262 w_263 w_264 rfl rfl rfl (Nat.le_of_ble_eq_true rfl) (Nat.le_of_ble_eq_true rfl) rfl (fun q34 => ?_)
  refine g_ws (w2 := [(h0, .inr (8, [.ref q1, .ref q17, .null, .null, .null, .null, .null, .null, .null, .null, .int 0, .int 0, .int 0, .null, .int 0])), (q1, .inr (9, [.ref q2, .ref q3, .int 0, .ref q4, .ref q5, .ref q6, .ref q7, .ref q8, .ref q9, .ref q10, .int 0, .ref q11, .ref q12, .ref q13, .int 0, .ref q14, .ref q15, .ref q16, .int 0])), (q2, .inl (gK X 0, 1504, .inl (fun _ => 0))), (q17, .inr (10, [.ref q18, .ref q19, .ref q20, .ref q21, .ref q22, .ref q23, .ref q24, .int 0, .ref q25, .ref q26, .ref q27, .ref q28, .ref q29, .ref q30, .ref q31, .ref q32, .ref q33, .int 0, .int 0])), (q34, .inr (11, [.null, .null, .null, .null, .null, .null, .null, .null, .int 0, .null, .null, .int 0]))]) rfl ?_
  refine g_dup (z := 31) C dX5_init_30 rfl rfl ?_
  refine g_callIN (n := 0) (As := []) (rest := [.ref q34, .ref h0]) (wr := [(h0, .inr (8, [.ref q1, .ref q17, .null, .null, .null, .null, .null, .null, .null, .null, .int 0, .int 0, .int 0, .null, .int 0])), (q1, .inr (9, [.ref q2, .ref q3, .int 0, .ref q4, .ref q5, .ref q6, .ref q7, .ref q8, .ref q9, .ref q10, .int 0, .ref q11, .ref q12, .ref q13, .int 0, .ref q14, .ref q15, .ref q16, .int 0])), (q2, .inl (gK X 0, 1504, .inl (fun _ => 0))), (q17, .inr (10, [.ref q18, .ref q19, .ref q20, .ref q21, .ref q22, .ref q23, .ref q24, .int 0, .ref q25, .ref q26, .ref q27, .ref q28, .ref q29, .ref q30, .ref q31, .ref q32, .ref q33, .int 0, .int 0]))]) (a2 := 44) (b2 := 37046) (z := 34) C hR (k_X10_init (gl X) (gD X) (gK X) q34) dX5_init_31 nw_65 w_338 rfl w_337 w_264 ⟨by decide +kernel, by decide +kernel, by decide +kernel⟩ [4] [0, 1, 2, 3] rfl rfl rfl rfl rfl (by decide) ⟨(Nat.le_of_ble_eq_true rfl), (Nat.le_of_ble_eq_true rfl)⟩ rfl rfl (Nat.le_of_ble_eq_true rfl) (Nat.le_of_ble_eq_true rfl) (Nat.le_of_ble_eq_true rfl) rfl rfl rfl rfl (fun v ws' hp => ?_)
  obtain ⟨rfl, q35, q36, q37, q38, q39, q40, q41, q42, q43, q44, rfl⟩ := hp
  refine g_ws (w2 := [(h0, .inr (8, [.ref q1, .ref q17, .null, .null, .null, .null, .null, .null, .null, .null, .int 0, .int 0, .int 0, .null, .int 0])), (q1, .inr (9, [.ref q2, .ref q3, .int 0, .ref q4, .ref q5, .ref q6, .ref q7, .ref q8, .ref q9, .ref q10, .int 0, .ref q11, .ref q12, .ref q13, .int 0, .ref q14, .ref q15, .ref q16, .int 0])), (q2, .inl (gK X 0, 1504, .inl (fun _ => 0))), (q17, .inr (10, [.ref q18, .ref q19, .ref q20, .ref q21, .ref q22, .ref q23, .ref q24, .int 0, .ref q25, .ref q26, .ref q27, .ref q28, .ref q29, .ref q30, .ref q31, .ref q32, .ref q33, .int 0, .int 0])), (q34, .inr (11, [.ref q35, .ref q36, .ref q37, .ref q38, .ref q39, .ref q40, .ref q41, .ref q42, .int 0, .ref q43, .ref q44, .int 0]))]) rfl ?_
  refine g_st (s2 := [.ref q34, .ref h0]) rfl ?_
  refine g_putF (w2 := [(h0, .inr (8, [.ref q1, .ref q17, .ref q34, .null, .null, .null, .null, .null, .null, .null, .int 0, .int 0, .int 0, .null, .int 0])), (q1, .inr (9, [.ref q2, .ref q3, .int 0, .ref q4, .ref q5, .ref q6, .ref q7, .ref q8, .ref q9, .ref q10, .int 0, .ref q11, .ref q12, .ref q13, .int 0, .ref q14, .ref q15, .ref q16, .int 0])), (q2, .inl (gK X 0, 1504, .inl (fun _ => 0))), (q17, .inr (10, [.ref q18, .ref q19, .ref q20, .ref q21, .ref q22, .ref q23, .ref q24, .int 0, .ref q25, .ref q26, .ref q27, .ref q28, .ref q29, .ref q30, .ref q31, .ref q32, .ref q33, .int 0, .int 0])), (q34, .inr (11, [.ref q35, .ref q36, .ref q37, .ref q38, .ref q39, .ref q40, .ref q41, .ref q42, .int 0, .ref q43, .ref q44, .int 0]))]) (z := 37) C kX5 dX5_init_34 0 rfl 2 (by decide) w_265 rfl rfl hnm rfl rfl rfl (Nat.le_of_ble_eq_true rfl) rfl rfl ?_
  refine g_aload_n (z := 38) C dX5_init_37 0 rfl rfl rfl ?_
  refine g_new (fs := [.null, .null, .null, .null, .null, .null, .null, .null, .null, .null, .null, .null, .int 0, .null, .null, .null, .int 0, .null, .null, .int 0]) (a2 := 45) (b2 := 37066) (z := 41) C hR kX4 dX5_init_38 w_266 w_267 w_268 rfl rfl rfl (Nat.le_of_ble_eq_true rfl) (Nat.le_of_ble_eq_true rfl) rfl (fun q45 => ?_)
  refine g_ws (w2 := [(h0, .inr (8, [.ref q1, .ref q17, .ref q34, .null, .null, .null, .null, .null, .null, .null, .int 0, .int 0, .int 0, .null, .int 0])), (q1, .inr (9, [.ref q2, .ref q3, .int 0, .ref q4, .ref q5, .ref q6, .ref q7, .ref q8, .ref q9, .ref q10, .int 0, .ref q11, .ref q12, .ref q13, .int 0, .ref q14, .ref q15, .ref q16, .int 0])), (q2, .inl (gK X 0, 1504, .inl (fun _ => 0))), (q17, .inr (10, [.ref q18, .ref q19, .ref q20, .ref q21, .ref q22, .ref q23, .ref q24, .int 0, .ref q25, .ref q26, .ref q27, .ref q28, .ref q29, .ref q30, .ref q31, .ref q32, .ref q33, .int 0, .int 0])), (q34, .inr (11, [.ref q35, .ref q36, .ref q37, .ref q38, .ref q39, .ref q40, .ref q41, .ref q42, .int 0, .ref q43, .ref q44, .int 0])), (q45, .inr (12, [.null, .null, .null, .null, .null, .null, .null, .null, .null, .null, .null, .null, .int 0, .null, .null, .null, .int 0, .null, .null, .int 0]))]) rfl ?_
  refine g_dup (z := 42) C dX5_init_41 rfl rfl ?_
  refine g_callIN (n := 0) (As := []) (rest := [.ref q45, .ref h0]) (wr := [(h0, .inr (8, [.ref q1, .ref q17, .ref q34, .null, .null, .null, .null, .null, .null, .null, .int 0, .int 0, .int 0, .null, .int 0])), (q1, .inr (9, [.ref q2, .ref q3, .int 0, .ref q4, .ref q5, .ref q6, .ref q7, .ref q8, .ref q9, .ref q10, .int 0, .ref q11, .ref q12, .ref q13, .int 0, .ref q14, .ref q15, .ref q16, .int 0])), (q2, .inl (gK X 0, 1504, .inl (fun _ => 0))), (q17, .inr (10, [.ref q18, .ref q19, .ref q20, .ref q21, .ref q22, .ref q23, .ref q24, .int 0, .ref q25, .ref q26, .ref q27, .ref q28, .ref q29, .ref q30, .ref q31, .ref q32, .ref q33, .int 0, .int 0])), (q34, .inr (11, [.ref q35, .ref q36, .ref q37, .ref q38, .ref q39, .ref q40, .ref q41, .ref q42, .int 0, .ref q43, .ref q44, .int 0]))]) (a2 := 62) (b2 := 51714) (z := 45) C hR (k_X4_init (gl X) (gD X) (gK X) q45) dX5_init_42 nw_66 w_356 rfl w_355 w_268 ⟨by decide +kernel, by decide +kernel, by decide +kernel⟩ [5] [0, 1, 2, 3, 4] rfl rfl rfl rfl rfl (by decide) ⟨(Nat.le_of_ble_eq_true rfl), (Nat.le_of_ble_eq_true rfl)⟩ rfl rfl (Nat.le_of_ble_eq_true rfl) (Nat.le_of_ble_eq_true rfl) (Nat.le_of_ble_eq_true rfl) rfl rfl rfl rfl (fun v ws' hp => ?_)
  obtain ⟨rfl, q46, q47, q48, q49, q50, q51, q52, q53, q54, q55, q56, q57, q58, q59, q60, q61, q62, rfl⟩ := hp
  refine g_ws (w2 := [(h0, .inr (8, [.ref q1, .ref q17, .ref q34, .null, .null, .null, .null, .null, .null, .null, .int 0, .int 0, .int 0, .null, .int 0])), (q1, .inr (9, [.ref q2, .ref q3, .int 0, .ref q4, .ref q5, .ref q6, .ref q7, .ref q8, .ref q9, .ref q10, .int 0, .ref q11, .ref q12, .ref q13, .int 0, .ref q14, .ref q15, .ref q16, .int 0])), (q2, .inl (gK X 0, 1504, .inl (fun _ => 0))), (q17, .inr (10, [.ref q18, .ref q19, .ref q20, .ref q21, .ref q22, .ref q23, .ref q24, .int 0, .ref q25, .ref q26, .ref q27, .ref q28, .ref q29, .ref q30, .ref q31, .ref q32, .ref q33, .int 0, .int 0])), (q34, .inr (11, [.ref q35, .ref q36, .ref q37, .ref q38, .ref q39, .ref q40, .ref q41, .ref q42, .int 0, .ref q43, .ref q44, .int 0])), (q45, .inr (12, [.ref q46, .ref q47, .ref q48, .ref q49, .ref q50, .ref q51, .ref q52, .ref q53, .ref q54, .ref q55, .ref q56, .ref q57, .int 0, .ref q58, .ref q59, .ref q60, .int 0, .ref q61, .ref q62, .int 0]))]) rfl ?_
  refine g_st (s2 := [.ref q45, .ref h0]) rfl ?_
  refine g_putF (w2 := [(h0, .inr (8, [.ref q1, .ref q17, .ref q34, .ref q45, .null, .null, .null, .null, .null, .null, .int 0, .int 0, .int 0, .null, .int 0])), (q1, .inr (9, [.ref q2, .ref q3, .int 0, .ref q4, .ref q5, .ref q6, .ref q7, .ref q8, .ref q9, .ref q10, .int 0, .ref q11, .ref q12, .ref q13, .int 0, .ref q14, .ref q15, .ref q16, .int 0])), (q2, .inl (gK X 0, 1504, .inl (fun _ => 0))), (q17, .inr (10, [.ref q18, .ref q19, .ref q20, .ref q21, .ref q22, .ref q23, .ref q24, .int 0, .ref q25, .ref q26, .ref q27, .ref q28, .ref q29, .ref q30, .ref q31, .ref q32, .ref q33, .int 0, .int 0])), (q34, .inr (11, [.ref q35, .ref q36, .ref q37, .ref q38, .ref q39, .ref q40, .ref q41, .ref q42, .int 0, .ref q43, .ref q44, .int 0])), (q45, .inr (12, [.ref q46, .ref q47, .ref q48, .ref q49, .ref q50, .ref q51, .ref q52, .ref q53, .ref q54, .ref q55, .ref q56, .ref q57, .int 0, .ref q58, .ref q59, .ref q60, .int 0, .ref q61, .ref q62, .int 0]))]) (z := 48) C kX5 dX5_init_45 0 rfl 3 (by decide) w_269 rfl rfl hnm rfl rfl rfl (Nat.le_of_ble_eq_true rfl) rfl rfl ?_
  refine g_aload_n (z := 49) C dX5_init_48 0 rfl rfl rfl ?_
  refine g_sipush (v := 3072) (z := 52) C dX5_init_49 (by decide) rfl ?_
  refine g_newID (N := 3072) (a2 := 63) (b2 := 54786) (z := 54) C hR dX5_init_52 w_109 (by decide) (by decide) (Nat.le_of_ble_eq_true rfl) rfl rfl (Nat.le_of_ble_eq_true rfl) (Nat.le_of_ble_eq_true rfl) rfl (fun q63 => ?_)
  refine g_putF (w2 := [(h0, .inr (8, [.ref q1, .ref q17, .ref q34, .ref q45, .ref q63, .null, .null, .null, .null, .null, .int 0, .int 0, .int 0, .null, .int 0])), (q1, .inr (9, [.ref q2, .ref q3, .int 0, .ref q4, .ref q5, .ref q6, .ref q7, .ref q8, .ref q9, .ref q10, .int 0, .ref q11, .ref q12, .ref q13, .int 0, .ref q14, .ref q15, .ref q16, .int 0])), (q2, .inl (gK X 0, 1504, .inl (fun _ => 0))), (q17, .inr (10, [.ref q18, .ref q19, .ref q20, .ref q21, .ref q22, .ref q23, .ref q24, .int 0, .ref q25, .ref q26, .ref q27, .ref q28, .ref q29, .ref q30, .ref q31, .ref q32, .ref q33, .int 0, .int 0])), (q34, .inr (11, [.ref q35, .ref q36, .ref q37, .ref q38, .ref q39, .ref q40, .ref q41, .ref q42, .int 0, .ref q43, .ref q44, .int 0])), (q45, .inr (12, [.ref q46, .ref q47, .ref q48, .ref q49, .ref q50, .ref q51, .ref q52, .ref q53, .ref q54, .ref q55, .ref q56, .ref q57, .int 0, .ref q58, .ref q59, .ref q60, .int 0, .ref q61, .ref q62, .int 0]))]) (z := 57) C kX5 dX5_init_54 0 rfl 4 (by decide) w_270 rfl rfl hnm rfl rfl rfl (Nat.le_of_ble_eq_true rfl) rfl rfl ?_
  refine g_aload_n (z := 58) C dX5_init_57 0 rfl rfl rfl ?_
  refine g_sipush (v := 3072) (z := 61) C dX5_init_58 (by decide) rfl ?_
  refine g_newID (N := 3072) (a2 := 64) (b2 := 57858) (z := 63) C hR dX5_init_61 w_109 (by decide) (by decide) (Nat.le_of_ble_eq_true rfl) rfl rfl (Nat.le_of_ble_eq_true rfl) (Nat.le_of_ble_eq_true rfl) rfl (fun q64 => ?_)
  refine g_putF (w2 := [(h0, .inr (8, [.ref q1, .ref q17, .ref q34, .ref q45, .ref q63, .ref q64, .null, .null, .null, .null, .int 0, .int 0, .int 0, .null, .int 0])), (q1, .inr (9, [.ref q2, .ref q3, .int 0, .ref q4, .ref q5, .ref q6, .ref q7, .ref q8, .ref q9, .ref q10, .int 0, .ref q11, .ref q12, .ref q13, .int 0, .ref q14, .ref q15, .ref q16, .int 0])), (q2, .inl (gK X 0, 1504, .inl (fun _ => 0))), (q17, .inr (10, [.ref q18, .ref q19, .ref q20, .ref q21, .ref q22, .ref q23, .ref q24, .int 0, .ref q25, .ref q26, .ref q27, .ref q28, .ref q29, .ref q30, .ref q31, .ref q32, .ref q33, .int 0, .int 0])), (q34, .inr (11, [.ref q35, .ref q36, .ref q37, .ref q38, .ref q39, .ref q40, .ref q41, .ref q42, .int 0, .ref q43, .ref q44, .int 0])), (q45, .inr (12, [.ref q46, .ref q47, .ref q48, .ref q49, .ref q50, .ref q51, .ref q52, .ref q53, .ref q54, .ref q55, .ref q56, .ref q57, .int 0, .ref q58, .ref q59, .ref q60, .int 0, .ref q61, .ref q62, .int 0]))]) (z := 66) C kX5 dX5_init_63 0 rfl 5 (by decide) w_271 rfl rfl hnm rfl rfl rfl (Nat.le_of_ble_eq_true rfl) rfl rfl ?_
  refine g_aload_n (z := 67) C dX5_init_66 0 rfl rfl rfl ?_
  refine g_sipush (v := 3072) (z := 70) C dX5_init_67 (by decide) rfl ?_
  refine g_newID (N := 3072) (a2 := 65) (b2 := 60930) (z := 72) C hR dX5_init_70 w_109 (by decide) (by decide) (Nat.le_of_ble_eq_true rfl) rfl rfl (Nat.le_of_ble_eq_true rfl) (Nat.le_of_ble_eq_true rfl) rfl (fun q65 => ?_)
  refine g_putF (w2 := [(h0, .inr (8, [.ref q1, .ref q17, .ref q34, .ref q45, .ref q63, .ref q64, .ref q65, .null, .null, .null, .int 0, .int 0, .int 0, .null, .int 0])), (q1, .inr (9, [.ref q2, .ref q3, .int 0, .ref q4, .ref q5, .ref q6, .ref q7, .ref q8, .ref q9, .ref q10, .int 0, .ref q11, .ref q12, .ref q13, .int 0, .ref q14, .ref q15, .ref q16, .int 0])), (q2, .inl (gK X 0, 1504, .inl (fun _ => 0))), (q17, .inr (10, [.ref q18, .ref q19, .ref q20, .ref q21, .ref q22, .ref q23, .ref q24, .int 0, .ref q25, .ref q26, .ref q27, .ref q28, .ref q29, .ref q30, .ref q31, .ref q32, .ref q33, .int 0, .int 0])), (q34, .inr (11, [.ref q35, .ref q36, .ref q37, .ref q38, .ref q39, .ref q40, .ref q41, .ref q42, .int 0, .ref q43, .ref q44, .int 0])), (q45, .inr (12, [.ref q46, .ref q47, .ref q48, .ref q49, .ref q50, .ref q51, .ref q52, .ref q53, .ref q54, .ref q55, .ref q56, .ref q57, .int 0, .ref q58, .ref q59, .ref q60, .int 0, .ref q61, .ref q62, .int 0]))]) (z := 75) C kX5 dX5_init_72 0 rfl 6 (by decide) w_272 rfl rfl hnm rfl rfl rfl (Nat.le_of_ble_eq_true rfl) rfl rfl ?_
  refine g_aload_n (z := 76) C dX5_init_75 0 rfl rfl rfl ?_
  refine g_sipush (v := 3072) (z := 79) C dX5_init_76 (by decide) rfl ?_
  refine g_newID (N := 3072) (a2 := 66) (b2 := 64002) (z := 81) C hR dX5_init_79 w_109 (by decide) (by decide) (Nat.le_of_ble_eq_true rfl) rfl rfl (Nat.le_of_ble_eq_true rfl) (Nat.le_of_ble_eq_true rfl) rfl (fun q66 => ?_)
  refine g_putF (w2 := [(h0, .inr (8, [.ref q1, .ref q17, .ref q34, .ref q45, .ref q63, .ref q64, .ref q65, .ref q66, .null, .null, .int 0, .int 0, .int 0, .null, .int 0])), (q1, .inr (9, [.ref q2, .ref q3, .int 0, .ref q4, .ref q5, .ref q6, .ref q7, .ref q8, .ref q9, .ref q10, .int 0, .ref q11, .ref q12, .ref q13, .int 0, .ref q14, .ref q15, .ref q16, .int 0])), (q2, .inl (gK X 0, 1504, .inl (fun _ => 0))), (q17, .inr (10, [.ref q18, .ref q19, .ref q20, .ref q21, .ref q22, .ref q23, .ref q24, .int 0, .ref q25, .ref q26, .ref q27, .ref q28, .ref q29, .ref q30, .ref q31, .ref q32, .ref q33, .int 0, .int 0])), (q34, .inr (11, [.ref q35, .ref q36, .ref q37, .ref q38, .ref q39, .ref q40, .ref q41, .ref q42, .int 0, .ref q43, .ref q44, .int 0])), (q45, .inr (12, [.ref q46, .ref q47, .ref q48, .ref q49, .ref q50, .ref q51, .ref q52, .ref q53, .ref q54, .ref q55, .ref q56, .ref q57, .int 0, .ref q58, .ref q59, .ref q60, .int 0, .ref q61, .ref q62, .int 0]))]) (z := 84) C kX5 dX5_init_81 0 rfl 7 (by decide) w_273 rfl rfl hnm rfl rfl rfl (Nat.le_of_ble_eq_true rfl) rfl rfl ?_
  refine g_aload_n (z := 85) C dX5_init_84 0 rfl rfl rfl ?_
  refine g_sipush (v := 3072) (z := 88) C dX5_init_85 (by decide) rfl ?_
  refine g_newID (N := 3072) (a2 := 67) (b2 := 67074) (z := 90) C hR dX5_init_88 w_109 (by decide) (by decide) (Nat.le_of_ble_eq_true rfl) rfl rfl (Nat.le_of_ble_eq_true rfl) (Nat.le_of_ble_eq_true rfl) rfl (fun q67 => ?_)
  refine g_putF (w2 := [(h0, .inr (8, [.ref q1, .ref q17, .ref q34, .ref q45, .ref q63, .ref q64, .ref q65, .ref q66, .ref q67, .null, .int 0, .int 0, .int 0, .null, .int 0])), (q1, .inr (9, [.ref q2, .ref q3, .int 0, .ref q4, .ref q5, .ref q6, .ref q7, .ref q8, .ref q9, .ref q10, .int 0, .ref q11, .ref q12, .ref q13, .int 0, .ref q14, .ref q15, .ref q16, .int 0])), (q2, .inl (gK X 0, 1504, .inl (fun _ => 0))), (q17, .inr (10, [.ref q18, .ref q19, .ref q20, .ref q21, .ref q22, .ref q23, .ref q24, .int 0, .ref q25, .ref q26, .ref q27, .ref q28, .ref q29, .ref q30, .ref q31, .ref q32, .ref q33, .int 0, .int 0])), (q34, .inr (11, [.ref q35, .ref q36, .ref q37, .ref q38, .ref q39, .ref q40, .ref q41, .ref q42, .int 0, .ref q43, .ref q44, .int 0])), (q45, .inr (12, [.ref q46, .ref q47, .ref q48, .ref q49, .ref q50, .ref q51, .ref q52, .ref q53, .ref q54, .ref q55, .ref q56, .ref q57, .int 0, .ref q58, .ref q59, .ref q60, .int 0, .ref q61, .ref q62, .int 0]))]) (z := 93) C kX5 dX5_init_90 0 rfl 8 (by decide) w_274 rfl rfl hnm rfl rfl rfl (Nat.le_of_ble_eq_true rfl) rfl rfl ?_
  refine g_aload_n (z := 94) C dX5_init_93 0 rfl rfl rfl ?_
  refine g_sipush (v := 3072) (z := 97) C dX5_init_94 (by decide) rfl ?_
  refine g_newID (N := 3072) (a2 := 68) (b2 := 70146) (z := 99) C hR dX5_init_97 w_109 (by decide) (by decide) (Nat.le_of_ble_eq_true rfl) rfl rfl (Nat.le_of_ble_eq_true rfl) (Nat.le_of_ble_eq_true rfl) rfl (fun q68 => ?_)
  refine g_putF (w2 := [(h0, .inr (8, [.ref q1, .ref q17, .ref q34, .ref q45, .ref q63, .ref q64, .ref q65, .ref q66, .ref q67, .ref q68, .int 0, .int 0, .int 0, .null, .int 0])), (q1, .inr (9, [.ref q2, .ref q3, .int 0, .ref q4, .ref q5, .ref q6, .ref q7, .ref q8, .ref q9, .ref q10, .int 0, .ref q11, .ref q12, .ref q13, .int 0, .ref q14, .ref q15, .ref q16, .int 0])), (q2, .inl (gK X 0, 1504, .inl (fun _ => 0))), (q17, .inr (10, [.ref q18, .ref q19, .ref q20, .ref q21, .ref q22, .ref q23, .ref q24, .int 0, .ref q25, .ref q26, .ref q27, .ref q28, .ref q29, .ref q30, .ref q31, .ref q32, .ref q33, .int 0, .int 0])), (q34, .inr (11, [.ref q35, .ref q36, .ref q37, .ref q38, .ref q39, .ref q40, .ref q41, .ref q42, .int 0, .ref q43, .ref q44, .int 0])), (q45, .inr (12, [.ref q46, .ref q47, .ref q48, .ref q49, .ref q50, .ref q51, .ref q52, .ref q53, .ref q54, .ref q55, .ref q56, .ref q57, .int 0, .ref q58, .ref q59, .ref q60, .int 0, .ref q61, .ref q62, .int 0]))]) (z := 102) C kX5 dX5_init_99 0 rfl 9 (by decide) w_275 rfl rfl hnm rfl rfl rfl (Nat.le_of_ble_eq_true rfl) rfl rfl ?_
  refine g_aload_n (z := 103) C dX5_init_102 0 rfl rfl rfl ?_
  refine g_sipush (v := 760) (z := 106) C dX5_init_103 (by decide) rfl ?_
  refine g_newID (N := 760) (a2 := 69) (b2 := 70906) (z := 108) C hR dX5_init_106 w_109 (by decide) (by decide) (Nat.le_of_ble_eq_true rfl) rfl rfl (Nat.le_of_ble_eq_true rfl) (Nat.le_of_ble_eq_true rfl) rfl (fun q69 => ?_)
  refine g_putF (w2 := [(h0, .inr (8, [.ref q1, .ref q17, .ref q34, .ref q45, .ref q63, .ref q64, .ref q65, .ref q66, .ref q67, .ref q68, .int 0, .int 0, .int 0, .ref q69, .int 0])), (q1, .inr (9, [.ref q2, .ref q3, .int 0, .ref q4, .ref q5, .ref q6, .ref q7, .ref q8, .ref q9, .ref q10, .int 0, .ref q11, .ref q12, .ref q13, .int 0, .ref q14, .ref q15, .ref q16, .int 0])), (q2, .inl (gK X 0, 1504, .inl (fun _ => 0))), (q17, .inr (10, [.ref q18, .ref q19, .ref q20, .ref q21, .ref q22, .ref q23, .ref q24, .int 0, .ref q25, .ref q26, .ref q27, .ref q28, .ref q29, .ref q30, .ref q31, .ref q32, .ref q33, .int 0, .int 0])), (q34, .inr (11, [.ref q35, .ref q36, .ref q37, .ref q38, .ref q39, .ref q40, .ref q41, .ref q42, .int 0, .ref q43, .ref q44, .int 0])), (q45, .inr (12, [.ref q46, .ref q47, .ref q48, .ref q49, .ref q50, .ref q51, .ref q52, .ref q53, .ref q54, .ref q55, .ref q56, .ref q57, .int 0, .ref q58, .ref q59, .ref q60, .int 0, .ref q61, .ref q62, .int 0]))]) (z := 111) C kX5 dX5_init_108 0 rfl 13 (by decide) w_276 rfl rfl hnm rfl rfl rfl (Nat.le_of_ble_eq_true rfl) rfl rfl ?_
  exact g_vret C hQ dX5_init_111 (Nat.le_of_ble_eq_true rfl) (Nat.le_of_ble_eq_true rfl) ⟨rfl, q1, q17, q34, q45, q63, q64, q65, q66, q67, q68, q69, q2, q3, q4, q5, q6, q7, q8, q9, q10, q11, q12, q13, q14, q15, q16, q18, q19, q20, q21, q22, q23, q24, q25, q26, q27, q28, q29, q30, q31, q32, q33, q35, q36, q37, q38, q39, q40, q41, q42, q43, q44, q46, q47, q48, q49, q50, q51, q52, q53, q54, q55, q56, q57, q58, q59, q60, q61, q62, rfl⟩
set_option maxHeartbeats 4000000 in
set_option maxRecDepth 100000 in
/-- Reader(tree): the words of the language come into the pool, whatever they are -/
theorem k_X6_init (l : Launch) (D : va_G) (K : KS) (h0 h1 : Nat) : Con l D K yX6_init cX6_init 3 none 4 85 8 17048 [.ref h0, .ref h1] [(h0, .inr (2, [.null, .null, .null, .null, .null, .null, .int 0, .int 0, .int 0, .null, .null, .null, .int 0, .int 0, .int 0, .int 0, .int 0, .int 0]))] (fun v w => v = none ∧ ∃ (f : Nat → Int32) (q1 : Nat) (q2 : Nat) (q3 : Nat) (q4 : Nat) (q5 : Nat) (q6 : Nat) (q7 : Nat) (q8 : Nat), w = [(h0, .inr (2, [.ref h1, .ref q1, .ref q2, .ref q3, .ref q4, .ref q5, .int 0, .int 0, .int 0, .ref q6, .ref q7, .ref q8, .int 0, .int 0, .int 0, .int 0, .int 0, .int 0])), (q1, .inl (K 2, 3157, .inl (f))), (q2, .inl (K 0, 1544, .inl (fun _ => 0))), (q3, .inl (K 0, 1544, .inl (fun _ => 0))), (q4, .inl (K 0, 1544, .inl (fun _ => 0))), (q5, .inl (K 0, 256, .inl (fun _ => 0))), (q6, .inl (K 0, 3001, .inl (fun _ => 0))), (q7, .inl (K 0, 3001, .inl (fun _ => 0)))]) := by
  refine Con.of (by decide +kernel) (Nat.le_of_ble_eq_true rfl) ?_
  intro X hXl hXD hXK C hR hQ hnm
  subst hXl; subst hXD; subst hXK
  refine g_lv (l2 := [(0, .ref h0), (1, .ref h1)]) [0, 1] rfl ?_
  refine g_aload_n (z := 1) C dX6_init_0 0 rfl rfl rfl ?_
  refine g_objInit (z := 4) C hR dX6_init_1 w_130 w_0 w_1 (Nat.le_of_ble_eq_true rfl) (Nat.le_of_ble_eq_true rfl) rfl ?_
  refine g_aload_n (z := 5) C dX6_init_4 0 rfl rfl rfl ?_
  refine g_ldcS (z := 7) C dX6_init_5 (evW C) rfl ?_
  refine g_callVE (n := 0) (As := []) (rest := [.ref h0]) (wr := [(h0, .inr (2, [.null, .null, .null, .null, .null, .null, .int 0, .int 0, .int 0, .null, .null, .null, .int 0, .int 0, .int 0, .int 0, .int 0, .int 0]))]) (a2 := 0) (b2 := 0) (z := 10) C hR (k_lengthW (gl X) (gD X) (gK X)) dX6_init_7 w_131 w_737 w_738 w_736 w_391 ⟨by decide +kernel, by decide +kernel, by decide +kernel⟩ [] [0] rfl rfl rfl rfl rfl (by decide) ⟨(Nat.le_of_ble_eq_true rfl), (Nat.le_of_ble_eq_true rfl)⟩ rfl rfl (Nat.le_of_ble_eq_true rfl) (Nat.le_of_ble_eq_true rfl) (Nat.le_of_ble_eq_true rfl) rfl rfl (evWo C) rfl rfl rfl (fun v ws' hp => ?_)
  obtain ⟨rfl, rfl⟩ := hp
  refine g_ws (w2 := [(h0, .inr (2, [.null, .null, .null, .null, .null, .null, .int 0, .int 0, .int 0, .null, .null, .null, .int 0, .int 0, .int 0, .int 0, .int 0, .int 0]))]) rfl ?_
  refine g_st (s2 := [.int 157, .ref h0]) rfl ?_
  refine g_sipush (v := 3000) (z := 13) C dX6_init_10 (by decide) rfl ?_
  refine g_iadd (v := 3157) (z := 14) C dX6_init_13 (by decide) rfl ?_
  refine g_newB (N := 3157) (a2 := 1) (b2 := 3157) (z := 16) C hR dX6_init_14 w_6 (by decide) (by decide) (Nat.le_of_ble_eq_true rfl) rfl rfl (Nat.le_of_ble_eq_true rfl) (Nat.le_of_ble_eq_true rfl) rfl (fun q1 => ?_)
  refine g_ws (w2 := [(h0, .inr (2, [.null, .null, .null, .null, .null, .null, .int 0, .int 0, .int 0, .null, .null, .null, .int 0, .int 0, .int 0, .int 0, .int 0, .int 0])), (q1, .inl (gK X 2, 3157, .inl (fun _ => 0)))]) rfl ?_
  refine g_putF (w2 := [(h0, .inr (2, [.null, .ref q1, .null, .null, .null, .null, .int 0, .int 0, .int 0, .null, .null, .null, .int 0, .int 0, .int 0, .int 0, .int 0, .int 0])), (q1, .inl (gK X 2, 3157, .inl (fun _ => 0)))]) (z := 19) C kX6 dX6_init_16 0 rfl 1 (by decide) w_132 rfl rfl hnm rfl rfl rfl (Nat.le_of_ble_eq_true rfl) rfl rfl ?_
  refine g_aload_n (z := 20) C dX6_init_19 0 rfl rfl rfl ?_
  refine g_sipush (v := 1544) (z := 23) C dX6_init_20 (by decide) rfl ?_
  refine g_newI (N := 1544) (a2 := 2) (b2 := 4701) (z := 25) C hR dX6_init_23 w_109 (by decide) (by decide) (Nat.le_of_ble_eq_true rfl) rfl rfl (Nat.le_of_ble_eq_true rfl) (Nat.le_of_ble_eq_true rfl) rfl (fun q2 => ?_)
  refine g_ws (w2 := [(h0, .inr (2, [.null, .ref q1, .null, .null, .null, .null, .int 0, .int 0, .int 0, .null, .null, .null, .int 0, .int 0, .int 0, .int 0, .int 0, .int 0])), (q1, .inl (gK X 2, 3157, .inl (fun _ => 0))), (q2, .inl (gK X 0, 1544, .inl (fun _ => 0)))]) rfl ?_
  refine g_putF (w2 := [(h0, .inr (2, [.null, .ref q1, .ref q2, .null, .null, .null, .int 0, .int 0, .int 0, .null, .null, .null, .int 0, .int 0, .int 0, .int 0, .int 0, .int 0])), (q1, .inl (gK X 2, 3157, .inl (fun _ => 0))), (q2, .inl (gK X 0, 1544, .inl (fun _ => 0)))]) (z := 28) C kX6 dX6_init_25 0 rfl 2 (by decide) w_133 rfl rfl hnm rfl rfl rfl (Nat.le_of_ble_eq_true rfl) rfl rfl ?_
  refine g_aload_n (z := 29) C dX6_init_28 0 rfl rfl rfl ?_
  refine g_sipush (v := 1544) (z := 32) C dX6_init_29 (by decide) rfl ?_
  refine g_newI (N := 1544) (a2 := 3) (b2 := 6245) (z := 34) C hR dX6_init_32 w_109 (by decide) (by decide) (Nat.le_of_ble_eq_true rfl) rfl rfl (Nat.le_of_ble_eq_true rfl) (Nat.le_of_ble_eq_true rfl) rfl (fun q3 => ?_)
  refine g_ws (w2 := [(h0, .inr (2, [.null, .ref q1, .ref q2, .null, .null, .null, .int 0, .int 0, .int 0, .null, .null, .null, .int 0, .int 0, .int 0, .int 0, .int 0, .int 0])), (q1, .inl (gK X 2, 3157, .inl (fun _ => 0))), (q2, .inl (gK X 0, 1544, .inl (fun _ => 0))), (q3, .inl (gK X 0, 1544, .inl (fun _ => 0)))]) rfl ?_
  refine g_putF (w2 := [(h0, .inr (2, [.null, .ref q1, .ref q2, .ref q3, .null, .null, .int 0, .int 0, .int 0, .null, .null, .null, .int 0, .int 0, .int 0, .int 0, .int 0, .int 0])), (q1, .inl (gK X 2, 3157, .inl (fun _ => 0))), (q2, .inl (gK X 0, 1544, .inl (fun _ => 0))), (q3, .inl (gK X 0, 1544, .inl (fun _ => 0)))]) (z := 37) C kX6 dX6_init_34 0 rfl 3 (by decide) w_134 rfl rfl hnm rfl rfl rfl (Nat.le_of_ble_eq_true rfl) rfl rfl ?_
  refine g_aload_n (z := 38) C dX6_init_37 0 rfl rfl rfl ?_
  refine g_sipush (v := 1544) (z := 41) C dX6_init_38 (by decide) rfl ?_
  refine g_newI (N := 1544) (a2 := 4) (b2 := 7789) (z := 43) C hR dX6_init_41 w_109 (by decide) (by decide) (Nat.le_of_ble_eq_true rfl) rfl rfl (Nat.le_of_ble_eq_true rfl) (Nat.le_of_ble_eq_true rfl) rfl (fun q4 => ?_)
  refine g_ws (w2 := [(h0, .inr (2, [.null, .ref q1, .ref q2, .ref q3, .null, .null, .int 0, .int 0, .int 0, .null, .null, .null, .int 0, .int 0, .int 0, .int 0, .int 0, .int 0])), (q1, .inl (gK X 2, 3157, .inl (fun _ => 0))), (q2, .inl (gK X 0, 1544, .inl (fun _ => 0))), (q3, .inl (gK X 0, 1544, .inl (fun _ => 0))), (q4, .inl (gK X 0, 1544, .inl (fun _ => 0)))]) rfl ?_
  refine g_putF (w2 := [(h0, .inr (2, [.null, .ref q1, .ref q2, .ref q3, .ref q4, .null, .int 0, .int 0, .int 0, .null, .null, .null, .int 0, .int 0, .int 0, .int 0, .int 0, .int 0])), (q1, .inl (gK X 2, 3157, .inl (fun _ => 0))), (q2, .inl (gK X 0, 1544, .inl (fun _ => 0))), (q3, .inl (gK X 0, 1544, .inl (fun _ => 0))), (q4, .inl (gK X 0, 1544, .inl (fun _ => 0)))]) (z := 46) C kX6 dX6_init_43 0 rfl 4 (by decide) w_135 rfl rfl hnm rfl rfl rfl (Nat.le_of_ble_eq_true rfl) rfl rfl ?_
  refine g_aload_n (z := 47) C dX6_init_46 0 rfl rfl rfl ?_
  refine g_sipush (v := 256) (z := 50) C dX6_init_47 (by decide) rfl ?_
  refine g_newI (N := 256) (a2 := 5) (b2 := 8045) (z := 52) C hR dX6_init_50 w_109 (by decide) (by decide) (Nat.le_of_ble_eq_true rfl) rfl rfl (Nat.le_of_ble_eq_true rfl) (Nat.le_of_ble_eq_true rfl) rfl (fun q5 => ?_)
  refine g_ws (w2 := [(h0, .inr (2, [.null, .ref q1, .ref q2, .ref q3, .ref q4, .null, .int 0, .int 0, .int 0, .null, .null, .null, .int 0, .int 0, .int 0, .int 0, .int 0, .int 0])), (q1, .inl (gK X 2, 3157, .inl (fun _ => 0))), (q2, .inl (gK X 0, 1544, .inl (fun _ => 0))), (q3, .inl (gK X 0, 1544, .inl (fun _ => 0))), (q4, .inl (gK X 0, 1544, .inl (fun _ => 0))), (q5, .inl (gK X 0, 256, .inl (fun _ => 0)))]) rfl ?_
  refine g_putF (w2 := [(h0, .inr (2, [.null, .ref q1, .ref q2, .ref q3, .ref q4, .ref q5, .int 0, .int 0, .int 0, .null, .null, .null, .int 0, .int 0, .int 0, .int 0, .int 0, .int 0])), (q1, .inl (gK X 2, 3157, .inl (fun _ => 0))), (q2, .inl (gK X 0, 1544, .inl (fun _ => 0))), (q3, .inl (gK X 0, 1544, .inl (fun _ => 0))), (q4, .inl (gK X 0, 1544, .inl (fun _ => 0))), (q5, .inl (gK X 0, 256, .inl (fun _ => 0)))]) (z := 55) C kX6 dX6_init_52 0 rfl 5 (by decide) w_136 rfl rfl hnm rfl rfl rfl (Nat.le_of_ble_eq_true rfl) rfl rfl ?_
  refine g_aload_n (z := 56) C dX6_init_55 0 rfl rfl rfl ?_
  refine g_sipush (v := 3001) (z := 59) C dX6_init_56 (by decide) rfl ?_
  refine g_newI (N := 3001) (a2 := 6) (b2 := 11046) (z := 61) C hR dX6_init_59 w_109 (by decide) (by decide) (Nat.le_of_ble_eq_true rfl) rfl rfl (Nat.le_of_ble_eq_true rfl) (Nat.le_of_ble_eq_true rfl) rfl (fun q6 => ?_)
  refine g_ws (w2 := [(h0, .inr (2, [.null, .ref q1, .ref q2, .ref q3, .ref q4, .ref q5, .int 0, .int 0, .int 0, .null, .null, .null, .int 0, .int 0, .int 0, .int 0, .int 0, .int 0])), (q1, .inl (gK X 2, 3157, .inl (fun _ => 0))), (q2, .inl (gK X 0, 1544, .inl (fun _ => 0))), (q3, .inl (gK X 0, 1544, .inl (fun _ => 0))), (q4, .inl (gK X 0, 1544, .inl (fun _ => 0))), (q5, .inl (gK X 0, 256, .inl (fun _ => 0))), (q6, .inl (gK X 0, 3001, .inl (fun _ => 0)))]) rfl ?_
  refine g_putF (w2 := [(h0, .inr (2, [.null, .ref q1, .ref q2, .ref q3, .ref q4, .ref q5, .int 0, .int 0, .int 0, .ref q6, .null, .null, .int 0, .int 0, .int 0, .int 0, .int 0, .int 0])), (q1, .inl (gK X 2, 3157, .inl (fun _ => 0))), (q2, .inl (gK X 0, 1544, .inl (fun _ => 0))), (q3, .inl (gK X 0, 1544, .inl (fun _ => 0))), (q4, .inl (gK X 0, 1544, .inl (fun _ => 0))), (q5, .inl (gK X 0, 256, .inl (fun _ => 0))), (q6, .inl (gK X 0, 3001, .inl (fun _ => 0)))]) (z := 64) C kX6 dX6_init_61 0 rfl 9 (by decide) w_137 rfl rfl hnm rfl rfl rfl (Nat.le_of_ble_eq_true rfl) rfl rfl ?_
  refine g_aload_n (z := 65) C dX6_init_64 0 rfl rfl rfl ?_
  refine g_sipush (v := 3001) (z := 68) C dX6_init_65 (by decide) rfl ?_
  refine g_newI (N := 3001) (a2 := 7) (b2 := 14047) (z := 70) C hR dX6_init_68 w_109 (by decide) (by decide) (Nat.le_of_ble_eq_true rfl) rfl rfl (Nat.le_of_ble_eq_true rfl) (Nat.le_of_ble_eq_true rfl) rfl (fun q7 => ?_)
  refine g_ws (w2 := [(h0, .inr (2, [.null, .ref q1, .ref q2, .ref q3, .ref q4, .ref q5, .int 0, .int 0, .int 0, .ref q6, .null, .null, .int 0, .int 0, .int 0, .int 0, .int 0, .int 0])), (q1, .inl (gK X 2, 3157, .inl (fun _ => 0))), (q2, .inl (gK X 0, 1544, .inl (fun _ => 0))), (q3, .inl (gK X 0, 1544, .inl (fun _ => 0))), (q4, .inl (gK X 0, 1544, .inl (fun _ => 0))), (q5, .inl (gK X 0, 256, .inl (fun _ => 0))), (q6, .inl (gK X 0, 3001, .inl (fun _ => 0))), (q7, .inl (gK X 0, 3001, .inl (fun _ => 0)))]) rfl ?_
  refine g_putF (w2 := [(h0, .inr (2, [.null, .ref q1, .ref q2, .ref q3, .ref q4, .ref q5, .int 0, .int 0, .int 0, .ref q6, .ref q7, .null, .int 0, .int 0, .int 0, .int 0, .int 0, .int 0])), (q1, .inl (gK X 2, 3157, .inl (fun _ => 0))), (q2, .inl (gK X 0, 1544, .inl (fun _ => 0))), (q3, .inl (gK X 0, 1544, .inl (fun _ => 0))), (q4, .inl (gK X 0, 1544, .inl (fun _ => 0))), (q5, .inl (gK X 0, 256, .inl (fun _ => 0))), (q6, .inl (gK X 0, 3001, .inl (fun _ => 0))), (q7, .inl (gK X 0, 3001, .inl (fun _ => 0)))]) (z := 73) C kX6 dX6_init_70 0 rfl 10 (by decide) w_138 rfl rfl hnm rfl rfl rfl (Nat.le_of_ble_eq_true rfl) rfl rfl ?_
  refine g_aload_n (z := 74) C dX6_init_73 0 rfl rfl rfl ?_
  refine g_sipush (v := 3001) (z := 77) C dX6_init_74 (by decide) rfl ?_
  refine g_newJD (N := 3001) (a2 := 8) (b2 := 17048) (z := 79) C hR dX6_init_77 w_8 (by decide) (by decide) (Nat.le_of_ble_eq_true rfl) rfl rfl (Nat.le_of_ble_eq_true rfl) (Nat.le_of_ble_eq_true rfl) rfl (fun q8 => ?_)
  refine g_putF (w2 := [(h0, .inr (2, [.null, .ref q1, .ref q2, .ref q3, .ref q4, .ref q5, .int 0, .int 0, .int 0, .ref q6, .ref q7, .ref q8, .int 0, .int 0, .int 0, .int 0, .int 0, .int 0])), (q1, .inl (gK X 2, 3157, .inl (fun _ => 0))), (q2, .inl (gK X 0, 1544, .inl (fun _ => 0))), (q3, .inl (gK X 0, 1544, .inl (fun _ => 0))), (q4, .inl (gK X 0, 1544, .inl (fun _ => 0))), (q5, .inl (gK X 0, 256, .inl (fun _ => 0))), (q6, .inl (gK X 0, 3001, .inl (fun _ => 0))), (q7, .inl (gK X 0, 3001, .inl (fun _ => 0)))]) (z := 82) C kX6 dX6_init_79 0 rfl 11 (by decide) w_139 rfl rfl hnm rfl rfl rfl (Nat.le_of_ble_eq_true rfl) rfl rfl ?_
  refine g_aload_n (z := 83) C dX6_init_82 0 rfl rfl rfl ?_
  refine g_aload_n (z := 84) C dX6_init_83 1 rfl rfl rfl ?_
  refine g_putF (w2 := [(h0, .inr (2, [.ref h1, .ref q1, .ref q2, .ref q3, .ref q4, .ref q5, .int 0, .int 0, .int 0, .ref q6, .ref q7, .ref q8, .int 0, .int 0, .int 0, .int 0, .int 0, .int 0])), (q1, .inl (gK X 2, 3157, .inl (fun _ => 0))), (q2, .inl (gK X 0, 1544, .inl (fun _ => 0))), (q3, .inl (gK X 0, 1544, .inl (fun _ => 0))), (q4, .inl (gK X 0, 1544, .inl (fun _ => 0))), (q5, .inl (gK X 0, 256, .inl (fun _ => 0))), (q6, .inl (gK X 0, 3001, .inl (fun _ => 0))), (q7, .inl (gK X 0, 3001, .inl (fun _ => 0)))]) (z := 87) C kX6 dX6_init_84 0 rfl 0 (by decide) w_140 rfl rfl hnm rfl rfl rfl (Nat.le_of_ble_eq_true rfl) rfl rfl ?_
  refine g_iconst (v := 0) (z := 88) C dX6_init_87 (by decide) rfl ?_
  refine g_istore_n (l2 := [(2, .int 0), (0, .ref h0), (1, .ref h1)]) (z := 89) C dX6_init_88 rfl (by decide) rfl rfl ?_
  refine g_lv (l2 := [(2, .int 0), (0, .ref h0), (1, .ref h1)]) [0, 1, 2] rfl ?_
  have loop : ∀ (n i : Nat) (x : Int32) (f : Nat → Int32), x = nI i → i ≤ 157 → 158 ≤ i + n → G X 8 17048 [(h0, .inr (2, [.ref h1, .ref q1, .ref q2, .ref q3, .ref q4, .ref q5, .int 0, .int 0, .int 0, .ref q6, .ref q7, .ref q8, .int 0, .int 0, .int 0, .int 0, .int 0, .int 0])), (q1, .inl (gK X 2, 3157, .inl (f))), (q2, .inl (gK X 0, 1544, .inl (fun _ => 0))), (q3, .inl (gK X 0, 1544, .inl (fun _ => 0))), (q4, .inl (gK X 0, 1544, .inl (fun _ => 0))), (q5, .inl (gK X 0, 256, .inl (fun _ => 0))), (q6, .inl (gK X 0, 3001, .inl (fun _ => 0))), (q7, .inl (gK X 0, 3001, .inl (fun _ => 0)))] [(2, .int x), (0, .ref h0), (1, .ref h1)] 89 [] := by
    intro n
    induction n with
    | zero => intro i x f _ u1 u2; omega
    | succ n ih =>
      intro i x f hx u1 u2
      subst hx
      refine g_iload_n (z := 90) C dX6_init_89 0 rfl rfl rfl ?_
      refine g_ldcS (z := 92) C dX6_init_90 (evW C) rfl ?_
      refine g_callVE (n := 0) (As := []) (rest := [.int (nI i)]) (wr := [(h0, .inr (2, [.ref h1, .ref q1, .ref q2, .ref q3, .ref q4, .ref q5, .int 0, .int 0, .int 0, .ref q6, .ref q7, .ref q8, .int 0, .int 0, .int 0, .int 0, .int 0, .int 0])), (q1, .inl (gK X 2, 3157, .inl (f))), (q2, .inl (gK X 0, 1544, .inl (fun _ => 0))), (q3, .inl (gK X 0, 1544, .inl (fun _ => 0))), (q4, .inl (gK X 0, 1544, .inl (fun _ => 0))), (q5, .inl (gK X 0, 256, .inl (fun _ => 0))), (q6, .inl (gK X 0, 3001, .inl (fun _ => 0))), (q7, .inl (gK X 0, 3001, .inl (fun _ => 0)))]) (a2 := 8) (b2 := 17048) (z := 95) C hR (k_lengthW (gl X) (gD X) (gK X)) dX6_init_92 w_131 w_737 w_738 w_736 w_391 ⟨by decide +kernel, by decide +kernel, by decide +kernel⟩ [] [0, 1, 2, 3, 4, 5, 6, 7] rfl rfl rfl rfl rfl (by decide) ⟨(Nat.le_of_ble_eq_true rfl), (Nat.le_of_ble_eq_true rfl)⟩ rfl rfl (Nat.le_of_ble_eq_true rfl) (Nat.le_of_ble_eq_true rfl) (Nat.le_of_ble_eq_true rfl) rfl rfl (evWo C) rfl rfl rfl (fun v ws' hp => ?_)
      obtain ⟨rfl, rfl⟩ := hp
      refine g_ws (w2 := [(h0, .inr (2, [.ref h1, .ref q1, .ref q2, .ref q3, .ref q4, .ref q5, .int 0, .int 0, .int 0, .ref q6, .ref q7, .ref q8, .int 0, .int 0, .int 0, .int 0, .int 0, .int 0])), (q1, .inl (gK X 2, 3157, .inl (f))), (q2, .inl (gK X 0, 1544, .inl (fun _ => 0))), (q3, .inl (gK X 0, 1544, .inl (fun _ => 0))), (q4, .inl (gK X 0, 1544, .inl (fun _ => 0))), (q5, .inl (gK X 0, 256, .inl (fun _ => 0))), (q6, .inl (gK X 0, 3001, .inl (fun _ => 0))), (q7, .inl (gK X 0, 3001, .inl (fun _ => 0)))]) rfl ?_
      refine g_st (s2 := [.int 157, .int (nI i)]) rfl ?_
      refine g_icmp_ge (z2 := 117) (z := 98) C dX6_init_95 (by decide) rfl (fun hc => ?_) (fun hc => ?_)
      · exact g_vret C hQ dX6_init_117 (Nat.le_of_ble_eq_true rfl) (Nat.le_of_ble_eq_true rfl) ⟨rfl, f, q1, q2, q3, q4, q5, q6, q7, q8, rfl⟩
      · have hi : i < 157 := by
          rcases Nat.lt_or_ge i 157 with q | q
          · exact q
          · exact absurd (nI_le (a := 157) (b := i) q (by omega)) hc
        refine g_aload_n (z := 99) C dX6_init_98 1 rfl rfl rfl ?_
        refine g_get (z := 102) C kX6 dX6_init_99 0 rfl 1 (by decide) w_132 rfl rfl rfl ?_
        refine g_iload_n (z := 103) C dX6_init_102 0 rfl rfl rfl ?_
        refine g_ldcS (z := 105) C dX6_init_103 (evW C) rfl ?_
        refine g_iload_n (z := 106) C dX6_init_105 0 rfl rfl rfl ?_
        refine g_callVE (n := 1) (As := [.int (nI i)]) (rest := [.int (nI i), .ref q1]) (wr := [(h0, .inr (2, [.ref h1, .ref q1, .ref q2, .ref q3, .ref q4, .ref q5, .int 0, .int 0, .int 0, .ref q6, .ref q7, .ref q8, .int 0, .int 0, .int 0, .int 0, .int 0, .int 0])), (q1, .inl (gK X 2, 3157, .inl (f))), (q2, .inl (gK X 0, 1544, .inl (fun _ => 0))), (q3, .inl (gK X 0, 1544, .inl (fun _ => 0))), (q4, .inl (gK X 0, 1544, .inl (fun _ => 0))), (q5, .inl (gK X 0, 256, .inl (fun _ => 0))), (q6, .inl (gK X 0, 3001, .inl (fun _ => 0))), (q7, .inl (gK X 0, 3001, .inl (fun _ => 0)))]) (a2 := 8) (b2 := 17048) (z := 109) C hR (k_charW (gl X) (gD X) (gK X) i hi) dX6_init_106 w_141 w_741 w_742 w_740 w_391 ⟨by decide +kernel, by decide +kernel, by decide +kernel⟩ [] [0, 1, 2, 3, 4, 5, 6, 7] rfl rfl rfl rfl rfl (by decide) ⟨(Nat.le_of_ble_eq_true rfl), (Nat.le_of_ble_eq_true rfl)⟩ rfl rfl (Nat.le_of_ble_eq_true rfl) (Nat.le_of_ble_eq_true rfl) (Nat.le_of_ble_eq_true rfl) rfl rfl (evWo C) rfl rfl rfl (fun v ws' hp => ?_)
        obtain ⟨⟨r, rfl⟩, rfl⟩ := hp
        refine g_ws (w2 := [(h0, .inr (2, [.ref h1, .ref q1, .ref q2, .ref q3, .ref q4, .ref q5, .int 0, .int 0, .int 0, .ref q6, .ref q7, .ref q8, .int 0, .int 0, .int 0, .int 0, .int 0, .int 0])), (q1, .inl (gK X 2, 3157, .inl (f))), (q2, .inl (gK X 0, 1544, .inl (fun _ => 0))), (q3, .inl (gK X 0, 1544, .inl (fun _ => 0))), (q4, .inl (gK X 0, 1544, .inl (fun _ => 0))), (q5, .inl (gK X 0, 256, .inl (fun _ => 0))), (q6, .inl (gK X 0, 3001, .inl (fun _ => 0))), (q7, .inl (gK X 0, 3001, .inl (fun _ => 0)))]) rfl ?_
        refine g_st (s2 := [.int r, .int (nI i), .ref q1]) rfl ?_
        refine g_i2b (v := r.toInt8.toInt32) (z := 110) C dX6_init_109 rfl rfl ?_
        refine g_bast (w2 := [(h0, .inr (2, [.ref h1, .ref q1, .ref q2, .ref q3, .ref q4, .ref q5, .int 0, .int 0, .int 0, .ref q6, .ref q7, .ref q8, .int 0, .int 0, .int 0, .int 0, .int 0, .int 0])), (q1, .inl (gK X 2, 3157, .inl (upd (f) ((nI i) : Int32).toNatClampNeg (vp_nar .byte r.toInt8.toInt32)))), (q2, .inl (gK X 0, 1544, .inl (fun _ => 0))), (q3, .inl (gK X 0, 1544, .inl (fun _ => 0))), (q4, .inl (gK X 0, 1544, .inl (fun _ => 0))), (q5, .inl (gK X 0, 256, .inl (fun _ => 0))), (q6, .inl (gK X 0, 3001, .inl (fun _ => 0))), (q7, .inl (gK X 0, 3001, .inl (fun _ => 0)))]) (z := 111) C dX6_init_110 1 rfl (vp_in_nI (by omega) (by omega)) rfl rfl ?_
        refine g_iinc (v := ((nI i) + 1)) (l2 := [(2, .int ((nI i) + 1)), (0, .ref h0), (1, .ref h1)]) (z := 114) C dX6_init_111 0 rfl (by rfl) (by decide) rfl rfl ?_
        refine g_goto (z := 89) C dX6_init_114 (by decide) ?_
        refine g_lv (l2 := [(2, .int ((nI i) + 1)), (0, .ref h0), (1, .ref h1)]) [0, 1, 2] rfl ?_
        exact ih (i + 1) _ _ (nI_1 i) (by omega) (by omega)
  exact loop 158 0 0 _ nI_0.symm (by omega) (by omega)
end
section
theorem dX6_alike_0 : decode cX6_alike 0 = .ok (.iconst 0, 1) := by decide +kernel
theorem dX6_alike_1 : decode cX6_alike 1 = .ok (.istore 4, 2) := by decide +kernel
theorem dX6_alike_3 : decode cX6_alike 3 = .ok (.iload 4, 2) := by decide +kernel
theorem dX6_alike_5 : decode cX6_alike 5 = .ok (.iload_n 3, 1) := by decide +kernel
theorem dX6_alike_6 : decode cX6_alike 6 = .ok (.if_icmp .ge 32, 3) := by decide +kernel
theorem dX6_alike_9 : decode cX6_alike 9 = .ok (.aload_n 0, 1) := by decide +kernel
theorem dX6_alike_10 : decode cX6_alike 10 = .ok (.getfield 17, 3) := by decide +kernel
theorem dX6_alike_13 : decode cX6_alike 13 = .ok (.iload_n 1, 1) := by decide +kernel
theorem dX6_alike_14 : decode cX6_alike 14 = .ok (.iload 4, 2) := by decide +kernel
theorem dX6_alike_16 : decode cX6_alike 16 = .ok (.iadd, 1) := by decide +kernel
theorem dX6_alike_17 : decode cX6_alike 17 = .ok (.baload, 1) := by decide +kernel
theorem dX6_alike_18 : decode cX6_alike 18 = .ok (.aload_n 0, 1) := by decide +kernel
theorem dX6_alike_19 : decode cX6_alike 19 = .ok (.getfield 17, 3) := by decide +kernel
theorem dX6_alike_22 : decode cX6_alike 22 = .ok (.iload_n 2, 1) := by decide +kernel
theorem dX6_alike_23 : decode cX6_alike 23 = .ok (.iload 4, 2) := by decide +kernel
theorem dX6_alike_25 : decode cX6_alike 25 = .ok (.iadd, 1) := by decide +kernel
theorem dX6_alike_26 : decode cX6_alike 26 = .ok (.baload, 1) := by decide +kernel
theorem dX6_alike_27 : decode cX6_alike 27 = .ok (.if_icmp .eq 5, 3) := by decide +kernel
theorem dX6_alike_30 : decode cX6_alike 30 = .ok (.iconst 0, 1) := by decide +kernel
theorem dX6_alike_31 : decode cX6_alike 31 = .ok (.ireturn, 1) := by decide +kernel
theorem dX6_alike_32 : decode cX6_alike 32 = .ok (.iinc 4 1, 3) := by decide +kernel
theorem dX6_alike_35 : decode cX6_alike 35 = .ok (.goto (-32), 3) := by decide +kernel
theorem dX6_alike_38 : decode cX6_alike 38 = .ok (.iconst 1, 1) := by decide +kernel
theorem dX6_alike_39 : decode cX6_alike 39 = .ok (.ireturn, 1) := by decide +kernel
theorem dX6_nameOf_0 : decode cX6_nameOf 0 = .ok (.iconst 0, 1) := by decide +kernel
theorem dX6_nameOf_1 : decode cX6_nameOf 1 = .ok (.istore_n 3, 1) := by decide +kernel
theorem dX6_nameOf_2 : decode cX6_nameOf 2 = .ok (.iconst 0, 1) := by decide +kernel
theorem dX6_nameOf_3 : decode cX6_nameOf 3 = .ok (.istore 4, 2) := by decide +kernel
theorem dX6_nameOf_5 : decode cX6_nameOf 5 = .ok (.iload 4, 2) := by decide +kernel
theorem dX6_nameOf_7 : decode cX6_nameOf 7 = .ok (.iload_n 2, 1) := by decide +kernel
theorem dX6_nameOf_8 : decode cX6_nameOf 8 = .ok (.if_icmp .ge 24, 3) := by decide +kernel
theorem dX6_nameOf_11 : decode cX6_nameOf 11 = .ok (.iload_n 3, 1) := by decide +kernel
theorem dX6_nameOf_12 : decode cX6_nameOf 12 = .ok (.bipush 31, 2) := by decide +kernel
theorem dX6_nameOf_14 : decode cX6_nameOf 14 = .ok (.imul, 1) := by decide +kernel
theorem dX6_nameOf_15 : decode cX6_nameOf 15 = .ok (.aload_n 0, 1) := by decide +kernel
theorem dX6_nameOf_16 : decode cX6_nameOf 16 = .ok (.getfield 17, 3) := by decide +kernel
theorem dX6_nameOf_19 : decode cX6_nameOf 19 = .ok (.iload_n 1, 1) := by decide +kernel
theorem dX6_nameOf_20 : decode cX6_nameOf 20 = .ok (.iload 4, 2) := by decide +kernel
theorem dX6_nameOf_22 : decode cX6_nameOf 22 = .ok (.iadd, 1) := by decide +kernel
theorem dX6_nameOf_23 : decode cX6_nameOf 23 = .ok (.baload, 1) := by decide +kernel
theorem dX6_nameOf_24 : decode cX6_nameOf 24 = .ok (.iadd, 1) := by decide +kernel
theorem dX6_nameOf_25 : decode cX6_nameOf 25 = .ok (.istore_n 3, 1) := by decide +kernel
theorem dX6_nameOf_26 : decode cX6_nameOf 26 = .ok (.iinc 4 1, 3) := by decide +kernel
theorem dX6_nameOf_29 : decode cX6_nameOf 29 = .ok (.goto (-24), 3) := by decide +kernel
theorem dX6_nameOf_32 : decode cX6_nameOf 32 = .ok (.iload_n 3, 1) := by decide +kernel
theorem dX6_nameOf_33 : decode cX6_nameOf 33 = .ok (.sipush 255, 3) := by decide +kernel
theorem dX6_nameOf_36 : decode cX6_nameOf 36 = .ok (.iand, 1) := by decide +kernel
theorem dX6_nameOf_37 : decode cX6_nameOf 37 = .ok (.istore 4, 2) := by decide +kernel
theorem dX6_nameOf_39 : decode cX6_nameOf 39 = .ok (.aload_n 0, 1) := by decide +kernel
theorem dX6_nameOf_40 : decode cX6_nameOf 40 = .ok (.getfield 33, 3) := by decide +kernel
theorem dX6_nameOf_43 : decode cX6_nameOf 43 = .ok (.iload 4, 2) := by decide +kernel
theorem dX6_nameOf_45 : decode cX6_nameOf 45 = .ok (.iaload, 1) := by decide +kernel
theorem dX6_nameOf_46 : decode cX6_nameOf 46 = .ok (.istore 5, 2) := by decide +kernel
theorem dX6_nameOf_48 : decode cX6_nameOf 48 = .ok (.iload 5, 2) := by decide +kernel
theorem dX6_nameOf_50 : decode cX6_nameOf 50 = .ok (.ifCond .lt 45, 3) := by decide +kernel
theorem dX6_nameOf_53 : decode cX6_nameOf 53 = .ok (.aload_n 0, 1) := by decide +kernel
theorem dX6_nameOf_54 : decode cX6_nameOf 54 = .ok (.getfield 27, 3) := by decide +kernel
theorem dX6_nameOf_57 : decode cX6_nameOf 57 = .ok (.iload 5, 2) := by decide +kernel
theorem dX6_nameOf_59 : decode cX6_nameOf 59 = .ok (.iaload, 1) := by decide +kernel
theorem dX6_nameOf_60 : decode cX6_nameOf 60 = .ok (.iload_n 2, 1) := by decide +kernel
theorem dX6_nameOf_61 : decode cX6_nameOf 61 = .ok (.if_icmp .ne 22, 3) := by decide +kernel
theorem dX6_nameOf_64 : decode cX6_nameOf 64 = .ok (.aload_n 0, 1) := by decide +kernel
theorem dX6_nameOf_65 : decode cX6_nameOf 65 = .ok (.aload_n 0, 1) := by decide +kernel
theorem dX6_nameOf_66 : decode cX6_nameOf 66 = .ok (.getfield 23, 3) := by decide +kernel
theorem dX6_nameOf_69 : decode cX6_nameOf 69 = .ok (.iload 5, 2) := by decide +kernel
theorem dX6_nameOf_71 : decode cX6_nameOf 71 = .ok (.iaload, 1) := by decide +kernel
theorem dX6_nameOf_72 : decode cX6_nameOf 72 = .ok (.iload_n 1, 1) := by decide +kernel
theorem dX6_nameOf_73 : decode cX6_nameOf 73 = .ok (.iload_n 2, 1) := by decide +kernel
theorem dX6_nameOf_74 : decode cX6_nameOf 74 = .ok (.invokevirtual 125, 3) := by decide +kernel
theorem dX6_nameOf_77 : decode cX6_nameOf 77 = .ok (.ifCond .eq 6, 3) := by decide +kernel
theorem dX6_nameOf_80 : decode cX6_nameOf 80 = .ok (.iload 5, 2) := by decide +kernel
theorem dX6_nameOf_82 : decode cX6_nameOf 82 = .ok (.ireturn, 1) := by decide +kernel
theorem dX6_nameOf_83 : decode cX6_nameOf 83 = .ok (.aload_n 0, 1) := by decide +kernel
theorem dX6_nameOf_84 : decode cX6_nameOf 84 = .ok (.getfield 30, 3) := by decide +kernel
theorem dX6_nameOf_87 : decode cX6_nameOf 87 = .ok (.iload 5, 2) := by decide +kernel
theorem dX6_nameOf_89 : decode cX6_nameOf 89 = .ok (.iaload, 1) := by decide +kernel
theorem dX6_nameOf_90 : decode cX6_nameOf 90 = .ok (.istore 5, 2) := by decide +kernel
theorem dX6_nameOf_92 : decode cX6_nameOf 92 = .ok (.goto (-44), 3) := by decide +kernel
theorem dX6_nameOf_95 : decode cX6_nameOf 95 = .ok (.aload_n 0, 1) := by decide +kernel
theorem dX6_nameOf_96 : decode cX6_nameOf 96 = .ok (.getfield 119, 3) := by decide +kernel
theorem dX6_nameOf_99 : decode cX6_nameOf 99 = .ok (.sipush 1544, 3) := by decide +kernel
theorem dX6_nameOf_102 : decode cX6_nameOf 102 = .ok (.if_icmp .lt 5, 3) := by decide +kernel
theorem dX6_nameOf_107 : decode cX6_nameOf 107 = .ok (.aload_n 0, 1) := by decide +kernel
theorem dX6_nameOf_108 : decode cX6_nameOf 108 = .ok (.getfield 23, 3) := by decide +kernel
theorem dX6_nameOf_111 : decode cX6_nameOf 111 = .ok (.aload_n 0, 1) := by decide +kernel
theorem dX6_nameOf_112 : decode cX6_nameOf 112 = .ok (.getfield 119, 3) := by decide +kernel
theorem dX6_nameOf_115 : decode cX6_nameOf 115 = .ok (.iload_n 1, 1) := by decide +kernel
theorem dX6_nameOf_116 : decode cX6_nameOf 116 = .ok (.iastore, 1) := by decide +kernel
theorem dX6_nameOf_117 : decode cX6_nameOf 117 = .ok (.aload_n 0, 1) := by decide +kernel
theorem dX6_nameOf_118 : decode cX6_nameOf 118 = .ok (.getfield 27, 3) := by decide +kernel
theorem dX6_nameOf_121 : decode cX6_nameOf 121 = .ok (.aload_n 0, 1) := by decide +kernel
theorem dX6_nameOf_122 : decode cX6_nameOf 122 = .ok (.getfield 119, 3) := by decide +kernel
theorem dX6_nameOf_125 : decode cX6_nameOf 125 = .ok (.iload_n 2, 1) := by decide +kernel
theorem dX6_nameOf_126 : decode cX6_nameOf 126 = .ok (.iastore, 1) := by decide +kernel
theorem dX6_nameOf_127 : decode cX6_nameOf 127 = .ok (.aload_n 0, 1) := by decide +kernel
theorem dX6_nameOf_128 : decode cX6_nameOf 128 = .ok (.getfield 30, 3) := by decide +kernel
theorem dX6_nameOf_131 : decode cX6_nameOf 131 = .ok (.aload_n 0, 1) := by decide +kernel
theorem dX6_nameOf_132 : decode cX6_nameOf 132 = .ok (.getfield 119, 3) := by decide +kernel
theorem dX6_nameOf_135 : decode cX6_nameOf 135 = .ok (.aload_n 0, 1) := by decide +kernel
theorem dX6_nameOf_136 : decode cX6_nameOf 136 = .ok (.getfield 33, 3) := by decide +kernel
theorem dX6_nameOf_139 : decode cX6_nameOf 139 = .ok (.iload 4, 2) := by decide +kernel
theorem dX6_nameOf_141 : decode cX6_nameOf 141 = .ok (.iaload, 1) := by decide +kernel
theorem dX6_nameOf_142 : decode cX6_nameOf 142 = .ok (.iastore, 1) := by decide +kernel
theorem dX6_nameOf_143 : decode cX6_nameOf 143 = .ok (.aload_n 0, 1) := by decide +kernel
theorem dX6_nameOf_144 : decode cX6_nameOf 144 = .ok (.getfield 33, 3) := by decide +kernel
theorem dX6_nameOf_147 : decode cX6_nameOf 147 = .ok (.iload 4, 2) := by decide +kernel
theorem dX6_nameOf_149 : decode cX6_nameOf 149 = .ok (.aload_n 0, 1) := by decide +kernel
theorem dX6_nameOf_150 : decode cX6_nameOf 150 = .ok (.getfield 119, 3) := by decide +kernel
theorem dX6_nameOf_153 : decode cX6_nameOf 153 = .ok (.iastore, 1) := by decide +kernel
theorem dX6_nameOf_154 : decode cX6_nameOf 154 = .ok (.aload_n 0, 1) := by decide +kernel
theorem dX6_nameOf_155 : decode cX6_nameOf 155 = .ok (.dup, 1) := by decide +kernel
theorem dX6_nameOf_156 : decode cX6_nameOf 156 = .ok (.getfield 119, 3) := by decide +kernel
theorem dX6_nameOf_159 : decode cX6_nameOf 159 = .ok (.iconst 1, 1) := by decide +kernel
theorem dX6_nameOf_160 : decode cX6_nameOf 160 = .ok (.iadd, 1) := by decide +kernel
theorem dX6_nameOf_161 : decode cX6_nameOf 161 = .ok (.putfield 119, 3) := by decide +kernel
theorem dX6_nameOf_164 : decode cX6_nameOf 164 = .ok (.aload_n 0, 1) := by decide +kernel
theorem dX6_nameOf_165 : decode cX6_nameOf 165 = .ok (.getfield 119, 3) := by decide +kernel
theorem dX6_nameOf_168 : decode cX6_nameOf 168 = .ok (.iconst 1, 1) := by decide +kernel
theorem dX6_nameOf_169 : decode cX6_nameOf 169 = .ok (.isub, 1) := by decide +kernel
theorem dX6_nameOf_170 : decode cX6_nameOf 170 = .ok (.ireturn, 1) := by decide +kernel
/-- what the names are: each within the words, each chain runs down -/
def RI (n : Nat) (fS fL fN fH : Nat → Int32) : Prop := n ≤ 200 ∧ (∀ k, k < n → ∃ s l : Nat, fS k = nI s ∧ fL k = nI l ∧ s + l ≤ 157) ∧ (∀ k, k < n → fN k = -1 ∨ ∃ j : Nat, j < k ∧ fN k = nI j) ∧ (∀ k, k < 256 → fH k = -1 ∨ ∃ j : Nat, j < n ∧ fH k = nI j)
theorem RI.add {n s l h : Nat} {fS fL fN fH : Nat → Int32} (H : RI n fS fL fN fH) (hn : n < 200) (hs : s + l ≤ 157) (hh : h < 256) : RI (n + 1) (upd fS n (nI s)) (upd fL n (nI l)) (upd fN n (fH h)) (upd fH h (nI n)) := by
  obtain ⟨h1, h2, h3, h4⟩ := H
  refine ⟨by omega, fun k hk => ?_, fun k hk => ?_, fun k hk => ?_⟩
  · by_cases e : k = n
    · subst e
      exact ⟨s, l, by rw [pk_us], by rw [pk_us], hs⟩
    · obtain ⟨s', l', a, b, c⟩ := h2 k (by omega)
      exact ⟨s', l', by rw [pk_un e]; exact a, by rw [pk_un e]; exact b, c⟩
  · by_cases e : k = n
    · subst e
      rw [pk_us]
      exact h4 h hh
    · rw [pk_un e]
      exact h3 k (by omega)
  · by_cases e : k = h
    · subst e
      rw [pk_us]
      exact Or.inr ⟨n, by omega, rfl⟩
    · rw [pk_un e]
      rcases h4 k hk with a | ⟨j, hj, a⟩
      · exact Or.inl a
      · exact Or.inr ⟨j, by omega, a⟩
theorem m1_lt : (-1 : Int32) < 0 := by decide
theorem nar_z {r : Int32} (h : r = 0 ∨ r = 1) : narrow .boolean (.int r) = .int r := by rcases h with h | h <;> subst h <;> rfl
set_option maxHeartbeats 4000000 in
set_option maxRecDepth 100000 in
/-- alike: a byte for a byte -/
theorem k_alike (l : Launch) (D : va_G) (K : KS) (h0 h1 pP pS pL pN pH pK pO pV : Nat) (xat xend xtok xcur xkind xpos xopen xwrong : Int32) (xn : Int32) (f : Nat → Int32) (s t len : Nat) (hs : s + len ≤ 157) (ht : t + len ≤ 157) : Con l D K yX6_alike cX6_alike 5 (some .boolean) 0 0 0 0 [.ref h0, .int (nI s), .int (nI t), .int (nI len)] [(h0, .inr (2, [.ref h1, .ref pP, .ref pS, .ref pL, .ref pN, .ref pH, .int xn, .int xat, .int xend, .ref pK, .ref pO, .ref pV, .int xtok, .int xcur, .int xkind, .int xpos, .int xopen, .int xwrong])), (pP, .inl (K 2, 3157, .inl (f)))] (fun v w => (∃ r : Int32, (r = 0 ∨ r = 1) ∧ v = some (.int r)) ∧ w = [(h0, .inr (2, [.ref h1, .ref pP, .ref pS, .ref pL, .ref pN, .ref pH, .int xn, .int xat, .int xend, .ref pK, .ref pO, .ref pV, .int xtok, .int xcur, .int xkind, .int xpos, .int xopen, .int xwrong])), (pP, .inl (K 2, 3157, .inl (f)))]) := by
  refine Con.of (by decide +kernel) (Nat.le_of_ble_eq_true rfl) ?_
  intro X hXl hXD hXK C hR hQ hnm
  subst hXl; subst hXD; subst hXK
  refine g_lv (l2 := [(0, .ref h0), (1, .int (nI s)), (2, .int (nI t)), (3, .int (nI len))]) [0, 1, 2, 3] rfl ?_
  refine g_iconst (v := 0) (z := 1) C dX6_alike_0 (by decide) rfl ?_
  refine g_istore (l2 := [(4, .int 0), (0, .ref h0), (1, .int (nI s)), (2, .int (nI t)), (3, .int (nI len))]) (z := 3) C dX6_alike_1 (by decide) rfl rfl ?_
  refine g_lv (l2 := [(4, .int 0), (0, .ref h0), (1, .int (nI s)), (2, .int (nI t)), (3, .int (nI len))]) [0, 1, 2, 3, 4] rfl ?_
  have loop : ∀ (n i : Nat) (x : Int32), x = nI i → i ≤ len → len + 1 ≤ i + n → G X 0 0 [(h0, .inr (2, [.ref h1, .ref pP, .ref pS, .ref pL, .ref pN, .ref pH, .int xn, .int xat, .int xend, .ref pK, .ref pO, .ref pV, .int xtok, .int xcur, .int xkind, .int xpos, .int xopen, .int xwrong])), (pP, .inl (gK X 2, 3157, .inl (f)))] [(4, .int x), (0, .ref h0), (1, .int (nI s)), (2, .int (nI t)), (3, .int (nI len))] 3 [] := by
    intro n
    induction n with
    | zero => intro i x _ u1 u2; omega
    | succ n ih =>
      intro i x hx u1 u2
      subst hx
      refine g_iload (z := 5) C dX6_alike_3 0 rfl rfl ?_
      refine g_iload_n (z := 6) C dX6_alike_5 4 rfl rfl rfl ?_
      refine g_icmp_ge (z2 := 38) (z := 9) C dX6_alike_6 (by decide) rfl (fun hc => ?_) (fun hc => ?_)
      · refine g_iconst (v := 1) (z := 39) C dX6_alike_38 (by decide) rfl ?_
        exact g_iret C hQ dX6_alike_39 rfl (Nat.le_of_ble_eq_true rfl) (Nat.le_of_ble_eq_true rfl) ⟨⟨1, Or.inr rfl, rfl⟩, rfl⟩
      · have hi : i < len := by
          rcases Nat.lt_or_ge i len with q | q
          · exact q
          · exact absurd (nI_le q (by omega)) hc
        refine g_aload_n (z := 10) C dX6_alike_9 1 rfl rfl rfl ?_
        refine g_get (z := 13) C kX6 dX6_alike_10 0 rfl 1 (by decide) w_132 rfl rfl rfl ?_
        refine g_iload_n (z := 14) C dX6_alike_13 2 rfl rfl rfl ?_
        refine g_iload (z := 16) C dX6_alike_14 0 rfl rfl ?_
        refine g_iadd (v := nI (s + i)) (z := 17) C dX6_alike_16 (nI_add s i) rfl ?_
        refine g_bald (v := (f (s + i))) (z := 18) C dX6_alike_17 1 rfl (vp_in_nI (by omega) (by omega)) (by rw [nI_clamp (by omega)]) rfl ?_
        refine g_aload_n (z := 19) C dX6_alike_18 1 rfl rfl rfl ?_
        refine g_get (z := 22) C kX6 dX6_alike_19 0 rfl 1 (by decide) w_132 rfl rfl rfl ?_
        refine g_iload_n (z := 23) C dX6_alike_22 3 rfl rfl rfl ?_
        refine g_iload (z := 25) C dX6_alike_23 0 rfl rfl ?_
        refine g_iadd (v := nI (t + i)) (z := 26) C dX6_alike_25 (nI_add t i) rfl ?_
        refine g_bald (v := (f (t + i))) (z := 27) C dX6_alike_26 1 rfl (vp_in_nI (by omega) (by omega)) (by rw [nI_clamp (by omega)]) rfl ?_
        refine g_icmp_eq (z2 := 32) (z := 30) C dX6_alike_27 (by decide) rfl (fun hq => ?_) (fun hq => ?_)
        · refine g_iinc (v := ((nI i) + 1)) (l2 := [(4, .int ((nI i) + 1)), (0, .ref h0), (1, .int (nI s)), (2, .int (nI t)), (3, .int (nI len))]) (z := 35) C dX6_alike_32 0 rfl (by rfl) (by decide) rfl rfl ?_
          refine g_goto (z := 3) C dX6_alike_35 (by decide) ?_
          exact ih (i + 1) _ (nI_1 i) (by omega) (by omega)
        · refine g_iconst (v := 0) (z := 31) C dX6_alike_30 (by decide) rfl ?_
          exact g_iret C hQ dX6_alike_31 rfl (Nat.le_of_ble_eq_true rfl) (Nat.le_of_ble_eq_true rfl) ⟨⟨0, Or.inl rfl, rfl⟩, rfl⟩
  exact loop (len + 1) 0 0 nI_0.symm (by omega) (by omega)
set_option maxHeartbeats 4000000 in
set_option maxRecDepth 100000 in
/-- nameOf: an old name, or one more -/
theorem k_nameOf (l : Launch) (D : va_G) (K : KS) (h0 h1 pP pS pL pN pH pK pO pV : Nat) (xat xend xtok xcur xkind xpos xopen xwrong : Int32) (f fS fL fN fH : Nat → Int32) (n s len : Nat) (hI : RI n fS fL fN fH) (hn : n < 200) (hsl : s + len ≤ 157) : Con l D K yX6_nameOf cX6_nameOf 6 (some .int) 1 24 0 0 [.ref h0, .int (nI s), .int (nI len)] [(h0, .inr (2, [.ref h1, .ref pP, .ref pS, .ref pL, .ref pN, .ref pH, .int (nI n), .int xat, .int xend, .ref pK, .ref pO, .ref pV, .int xtok, .int xcur, .int xkind, .int xpos, .int xopen, .int xwrong])), (pP, .inl (K 2, 3157, .inl (f))), (pS, .inl (K 0, 1544, .inl (fS))), (pL, .inl (K 0, 1544, .inl (fL))), (pN, .inl (K 0, 1544, .inl (fN))), (pH, .inl (K 0, 256, .inl (fH)))] (fun v w => ∃ (r : Int32) (n2 : Nat) (gS gL gN gH : Nat → Int32), n2 ≤ n + 1 ∧ RI n2 gS gL gN gH ∧ v = some (.int r) ∧ w = [(h0, .inr (2, [.ref h1, .ref pP, .ref pS, .ref pL, .ref pN, .ref pH, .int (nI n2), .int xat, .int xend, .ref pK, .ref pO, .ref pV, .int xtok, .int xcur, .int xkind, .int xpos, .int xopen, .int xwrong])), (pP, .inl (K 2, 3157, .inl (f))), (pS, .inl (K 0, 1544, .inl (gS))), (pL, .inl (K 0, 1544, .inl (gL))), (pN, .inl (K 0, 1544, .inl (gN))), (pH, .inl (K 0, 256, .inl (gH)))]) := by
  refine Con.of (by decide +kernel) (Nat.le_of_ble_eq_true rfl) ?_
  intro X hXl hXD hXK C hR hQ hnm
  subst hXl; subst hXD; subst hXK
  refine g_lv (l2 := [(0, .ref h0), (1, .int (nI s)), (2, .int (nI len))]) [0, 1, 2] rfl ?_
  refine g_iconst (v := 0) (z := 1) C dX6_nameOf_0 (by decide) rfl ?_
  refine g_istore_n (l2 := [(3, .int 0), (0, .ref h0), (1, .int (nI s)), (2, .int (nI len))]) (z := 2) C dX6_nameOf_1 rfl (by decide) rfl rfl ?_
  refine g_iconst (v := 0) (z := 3) C dX6_nameOf_2 (by decide) rfl ?_
  refine g_istore (l2 := [(4, .int 0), (3, .int 0), (0, .ref h0), (1, .int (nI s)), (2, .int (nI len))]) (z := 5) C dX6_nameOf_3 (by decide) rfl rfl ?_
  refine g_lv (l2 := [(4, .int 0), (3, .int 0), (0, .ref h0), (1, .int (nI s)), (2, .int (nI len))]) [0, 1, 2, 3, 4] rfl ?_
  obtain ⟨hI1, hI2, hI3, hI4⟩ := id hI
  have chain : ∀ (k : Nat) (x y : Int32) (hh : Nat), hh < 256 → (x = -1 ∨ ∃ j : Nat, j < n ∧ j < k ∧ x = nI j) → G X 0 0 [(h0, .inr (2, [.ref h1, .ref pP, .ref pS, .ref pL, .ref pN, .ref pH, .int (nI n), .int xat, .int xend, .ref pK, .ref pO, .ref pV, .int xtok, .int xcur, .int xkind, .int xpos, .int xopen, .int xwrong])), (pP, .inl (gK X 2, 3157, .inl (f))), (pS, .inl (gK X 0, 1544, .inl (fS))), (pL, .inl (gK X 0, 1544, .inl (fL))), (pN, .inl (gK X 0, 1544, .inl (fN))), (pH, .inl (gK X 0, 256, .inl (fH)))] [(5, .int x), (4, .int (nI hh)), (3, .int y), (0, .ref h0), (1, .int (nI s)), (2, .int (nI len))] 48 [] := by
    intro k
    induction k with
    | zero =>
      intro x y hh hhh hj
      have hx : x < 0 := by
        rcases hj with e | ⟨j, _, hj2, _⟩
        · rw [e]; exact m1_lt
        · omega
      refine g_iload (z := 50) C dX6_nameOf_48 0 rfl rfl ?_
      refine g_if_lt_t (z := 95) C dX6_nameOf_50 hx (by decide) ?_
      refine g_aload_n (z := 96) C dX6_nameOf_95 3 rfl rfl rfl ?_
      refine g_get (z := 99) C kX6 dX6_nameOf_96 0 rfl 6 (by decide) w_162 rfl rfl rfl ?_
      refine g_sipush (v := 1544) (z := 102) C dX6_nameOf_99 (by decide) rfl ?_
      refine g_icmp_lt_t (z := 107) C dX6_nameOf_102 (nI_lt (a := n) (b := 1544) (by omega) (by omega)) (by decide) ?_
      refine g_aload_n (z := 108) C dX6_nameOf_107 3 rfl rfl rfl ?_
      refine g_get (z := 111) C kX6 dX6_nameOf_108 0 rfl 2 (by decide) w_133 rfl rfl rfl ?_
      refine g_aload_n (z := 112) C dX6_nameOf_111 3 rfl rfl rfl ?_
      refine g_get (z := 115) C kX6 dX6_nameOf_112 0 rfl 6 (by decide) w_162 rfl rfl rfl ?_
      refine g_iload_n (z := 116) C dX6_nameOf_115 4 rfl rfl rfl ?_
      refine g_iast (w2 := [(h0, .inr (2, [.ref h1, .ref pP, .ref pS, .ref pL, .ref pN, .ref pH, .int (nI n), .int xat, .int xend, .ref pK, .ref pO, .ref pV, .int xtok, .int xcur, .int xkind, .int xpos, .int xopen, .int xwrong])), (pP, .inl (gK X 2, 3157, .inl (f))), (pS, .inl (gK X 0, 1544, .inl (upd (fS) ((nI n) : Int32).toNatClampNeg (nI s)))), (pL, .inl (gK X 0, 1544, .inl (fL))), (pN, .inl (gK X 0, 1544, .inl (fN))), (pH, .inl (gK X 0, 256, .inl (fH)))]) (z := 117) C dX6_nameOf_116 2 rfl (vp_in_nI (by omega) (by omega)) rfl rfl ?_
      rw [nI_clamp (by omega : n < 2 ^ 31)]
      refine g_aload_n (z := 118) C dX6_nameOf_117 3 rfl rfl rfl ?_
      refine g_get (z := 121) C kX6 dX6_nameOf_118 0 rfl 3 (by decide) w_134 rfl rfl rfl ?_
      refine g_aload_n (z := 122) C dX6_nameOf_121 3 rfl rfl rfl ?_
      refine g_get (z := 125) C kX6 dX6_nameOf_122 0 rfl 6 (by decide) w_162 rfl rfl rfl ?_
      refine g_iload_n (z := 126) C dX6_nameOf_125 5 rfl rfl rfl ?_
      refine g_iast (w2 := [(h0, .inr (2, [.ref h1, .ref pP, .ref pS, .ref pL, .ref pN, .ref pH, .int (nI n), .int xat, .int xend, .ref pK, .ref pO, .ref pV, .int xtok, .int xcur, .int xkind, .int xpos, .int xopen, .int xwrong])), (pP, .inl (gK X 2, 3157, .inl (f))), (pS, .inl (gK X 0, 1544, .inl (upd fS n (nI s)))), (pL, .inl (gK X 0, 1544, .inl (upd (fL) ((nI n) : Int32).toNatClampNeg (nI len)))), (pN, .inl (gK X 0, 1544, .inl (fN))), (pH, .inl (gK X 0, 256, .inl (fH)))]) (z := 127) C dX6_nameOf_126 3 rfl (vp_in_nI (by omega) (by omega)) rfl rfl ?_
      rw [nI_clamp (by omega : n < 2 ^ 31)]
      refine g_aload_n (z := 128) C dX6_nameOf_127 3 rfl rfl rfl ?_
      refine g_get (z := 131) C kX6 dX6_nameOf_128 0 rfl 4 (by decide) w_135 rfl rfl rfl ?_
      refine g_aload_n (z := 132) C dX6_nameOf_131 3 rfl rfl rfl ?_
      refine g_get (z := 135) C kX6 dX6_nameOf_132 0 rfl 6 (by decide) w_162 rfl rfl rfl ?_
      refine g_aload_n (z := 136) C dX6_nameOf_135 3 rfl rfl rfl ?_
      refine g_get (z := 139) C kX6 dX6_nameOf_136 0 rfl 5 (by decide) w_136 rfl rfl rfl ?_
      refine g_iload (z := 141) C dX6_nameOf_139 1 rfl rfl ?_
      refine g_iald (v := (fH hh)) (z := 142) C dX6_nameOf_141 5 rfl (vp_in_nI (by omega) (by omega)) (by rw [nI_clamp (by omega)]) rfl ?_
      refine g_iast (w2 := [(h0, .inr (2, [.ref h1, .ref pP, .ref pS, .ref pL, .ref pN, .ref pH, .int (nI n), .int xat, .int xend, .ref pK, .ref pO, .ref pV, .int xtok, .int xcur, .int xkind, .int xpos, .int xopen, .int xwrong])), (pP, .inl (gK X 2, 3157, .inl (f))), (pS, .inl (gK X 0, 1544, .inl (upd fS n (nI s)))), (pL, .inl (gK X 0, 1544, .inl (upd fL n (nI len)))), (pN, .inl (gK X 0, 1544, .inl (upd (fN) ((nI n) : Int32).toNatClampNeg (fH hh)))), (pH, .inl (gK X 0, 256, .inl (fH)))]) (z := 143) C dX6_nameOf_142 4 rfl (vp_in_nI (by omega) (by omega)) rfl rfl ?_
      rw [nI_clamp (by omega : n < 2 ^ 31)]
      refine g_aload_n (z := 144) C dX6_nameOf_143 3 rfl rfl rfl ?_
      refine g_get (z := 147) C kX6 dX6_nameOf_144 0 rfl 5 (by decide) w_136 rfl rfl rfl ?_
      refine g_iload (z := 149) C dX6_nameOf_147 1 rfl rfl ?_
      refine g_aload_n (z := 150) C dX6_nameOf_149 3 rfl rfl rfl ?_
      refine g_get (z := 153) C kX6 dX6_nameOf_150 0 rfl 6 (by decide) w_162 rfl rfl rfl ?_
      refine g_iast (w2 := [(h0, .inr (2, [.ref h1, .ref pP, .ref pS, .ref pL, .ref pN, .ref pH, .int (nI n), .int xat, .int xend, .ref pK, .ref pO, .ref pV, .int xtok, .int xcur, .int xkind, .int xpos, .int xopen, .int xwrong])), (pP, .inl (gK X 2, 3157, .inl (f))), (pS, .inl (gK X 0, 1544, .inl (upd fS n (nI s)))), (pL, .inl (gK X 0, 1544, .inl (upd fL n (nI len)))), (pN, .inl (gK X 0, 1544, .inl (upd fN n (fH hh)))), (pH, .inl (gK X 0, 256, .inl (upd (fH) ((nI hh) : Int32).toNatClampNeg (nI n))))]) (z := 154) C dX6_nameOf_153 5 rfl (vp_in_nI (by omega) (by omega)) rfl rfl ?_
      rw [nI_clamp (by omega : hh < 2 ^ 31)]
      refine g_aload_n (z := 155) C dX6_nameOf_154 3 rfl rfl rfl ?_
      refine g_dup (z := 156) C dX6_nameOf_155 rfl rfl ?_
      refine g_get (z := 159) C kX6 dX6_nameOf_156 0 rfl 6 (by decide) w_162 rfl rfl rfl ?_
      refine g_iconst (v := 1) (z := 160) C dX6_nameOf_159 (by decide) rfl ?_
      refine g_iadd (v := nI (n + 1)) (z := 161) C dX6_nameOf_160 (nI_1 n) rfl ?_
      refine g_put (w2 := [(h0, .inr (2, [.ref h1, .ref pP, .ref pS, .ref pL, .ref pN, .ref pH, .int (nI (n + 1)), .int xat, .int xend, .ref pK, .ref pO, .ref pV, .int xtok, .int xcur, .int xkind, .int xpos, .int xopen, .int xwrong])), (pP, .inl (gK X 2, 3157, .inl (f))), (pS, .inl (gK X 0, 1544, .inl (upd fS n (nI s)))), (pL, .inl (gK X 0, 1544, .inl (upd fL n (nI len)))), (pN, .inl (gK X 0, 1544, .inl (upd fN n (fH hh)))), (pH, .inl (gK X 0, 256, .inl (upd fH hh (nI n))))]) (z := 164) C kX6 dX6_nameOf_161 0 rfl 6 (by decide) w_162 rfl rfl rfl rfl (Nat.le_of_ble_eq_true rfl) rfl rfl ?_
      refine g_aload_n (z := 165) C dX6_nameOf_164 3 rfl rfl rfl ?_
      refine g_get (z := 168) C kX6 dX6_nameOf_165 0 rfl 6 (by decide) w_162 rfl rfl rfl ?_
      refine g_iconst (v := 1) (z := 169) C dX6_nameOf_168 (by decide) rfl ?_
      refine g_isub (v := ((nI (n + 1)) - 1)) (z := 170) C dX6_nameOf_169 (rfl) rfl ?_
      exact g_iret C hQ dX6_nameOf_170 rfl (Nat.le_of_ble_eq_true rfl) (Nat.le_of_ble_eq_true rfl) ⟨_, n + 1, _, _, _, _, Nat.le_refl _, hI.add (by omega) (by omega) hhh, rfl, rfl⟩
    | succ k ih =>
      intro x y hh hhh hj
      rcases hj with e | ⟨j, hj1, hj2, e⟩
      · have hx : x < 0 := by rw [e]; exact m1_lt
        refine g_iload (z := 50) C dX6_nameOf_48 0 rfl rfl ?_
        refine g_if_lt_t (z := 95) C dX6_nameOf_50 hx (by decide) ?_
        refine g_aload_n (z := 96) C dX6_nameOf_95 3 rfl rfl rfl ?_
        refine g_get (z := 99) C kX6 dX6_nameOf_96 0 rfl 6 (by decide) w_162 rfl rfl rfl ?_
        refine g_sipush (v := 1544) (z := 102) C dX6_nameOf_99 (by decide) rfl ?_
        refine g_icmp_lt_t (z := 107) C dX6_nameOf_102 (nI_lt (a := n) (b := 1544) (by omega) (by omega)) (by decide) ?_
        refine g_aload_n (z := 108) C dX6_nameOf_107 3 rfl rfl rfl ?_
        refine g_get (z := 111) C kX6 dX6_nameOf_108 0 rfl 2 (by decide) w_133 rfl rfl rfl ?_
        refine g_aload_n (z := 112) C dX6_nameOf_111 3 rfl rfl rfl ?_
        refine g_get (z := 115) C kX6 dX6_nameOf_112 0 rfl 6 (by decide) w_162 rfl rfl rfl ?_
        refine g_iload_n (z := 116) C dX6_nameOf_115 4 rfl rfl rfl ?_
        refine g_iast (w2 := [(h0, .inr (2, [.ref h1, .ref pP, .ref pS, .ref pL, .ref pN, .ref pH, .int (nI n), .int xat, .int xend, .ref pK, .ref pO, .ref pV, .int xtok, .int xcur, .int xkind, .int xpos, .int xopen, .int xwrong])), (pP, .inl (gK X 2, 3157, .inl (f))), (pS, .inl (gK X 0, 1544, .inl (upd (fS) ((nI n) : Int32).toNatClampNeg (nI s)))), (pL, .inl (gK X 0, 1544, .inl (fL))), (pN, .inl (gK X 0, 1544, .inl (fN))), (pH, .inl (gK X 0, 256, .inl (fH)))]) (z := 117) C dX6_nameOf_116 2 rfl (vp_in_nI (by omega) (by omega)) rfl rfl ?_
        rw [nI_clamp (by omega : n < 2 ^ 31)]
        refine g_aload_n (z := 118) C dX6_nameOf_117 3 rfl rfl rfl ?_
        refine g_get (z := 121) C kX6 dX6_nameOf_118 0 rfl 3 (by decide) w_134 rfl rfl rfl ?_
        refine g_aload_n (z := 122) C dX6_nameOf_121 3 rfl rfl rfl ?_
        refine g_get (z := 125) C kX6 dX6_nameOf_122 0 rfl 6 (by decide) w_162 rfl rfl rfl ?_
        refine g_iload_n (z := 126) C dX6_nameOf_125 5 rfl rfl rfl ?_
        refine g_iast (w2 := [(h0, .inr (2, [.ref h1, .ref pP, .ref pS, .ref pL, .ref pN, .ref pH, .int (nI n), .int xat, .int xend, .ref pK, .ref pO, .ref pV, .int xtok, .int xcur, .int xkind, .int xpos, .int xopen, .int xwrong])), (pP, .inl (gK X 2, 3157, .inl (f))), (pS, .inl (gK X 0, 1544, .inl (upd fS n (nI s)))), (pL, .inl (gK X 0, 1544, .inl (upd (fL) ((nI n) : Int32).toNatClampNeg (nI len)))), (pN, .inl (gK X 0, 1544, .inl (fN))), (pH, .inl (gK X 0, 256, .inl (fH)))]) (z := 127) C dX6_nameOf_126 3 rfl (vp_in_nI (by omega) (by omega)) rfl rfl ?_
        rw [nI_clamp (by omega : n < 2 ^ 31)]
        refine g_aload_n (z := 128) C dX6_nameOf_127 3 rfl rfl rfl ?_
        refine g_get (z := 131) C kX6 dX6_nameOf_128 0 rfl 4 (by decide) w_135 rfl rfl rfl ?_
        refine g_aload_n (z := 132) C dX6_nameOf_131 3 rfl rfl rfl ?_
        refine g_get (z := 135) C kX6 dX6_nameOf_132 0 rfl 6 (by decide) w_162 rfl rfl rfl ?_
        refine g_aload_n (z := 136) C dX6_nameOf_135 3 rfl rfl rfl ?_
        refine g_get (z := 139) C kX6 dX6_nameOf_136 0 rfl 5 (by decide) w_136 rfl rfl rfl ?_
        refine g_iload (z := 141) C dX6_nameOf_139 1 rfl rfl ?_
        refine g_iald (v := (fH hh)) (z := 142) C dX6_nameOf_141 5 rfl (vp_in_nI (by omega) (by omega)) (by rw [nI_clamp (by omega)]) rfl ?_
        refine g_iast (w2 := [(h0, .inr (2, [.ref h1, .ref pP, .ref pS, .ref pL, .ref pN, .ref pH, .int (nI n), .int xat, .int xend, .ref pK, .ref pO, .ref pV, .int xtok, .int xcur, .int xkind, .int xpos, .int xopen, .int xwrong])), (pP, .inl (gK X 2, 3157, .inl (f))), (pS, .inl (gK X 0, 1544, .inl (upd fS n (nI s)))), (pL, .inl (gK X 0, 1544, .inl (upd fL n (nI len)))), (pN, .inl (gK X 0, 1544, .inl (upd (fN) ((nI n) : Int32).toNatClampNeg (fH hh)))), (pH, .inl (gK X 0, 256, .inl (fH)))]) (z := 143) C dX6_nameOf_142 4 rfl (vp_in_nI (by omega) (by omega)) rfl rfl ?_
        rw [nI_clamp (by omega : n < 2 ^ 31)]
        refine g_aload_n (z := 144) C dX6_nameOf_143 3 rfl rfl rfl ?_
        refine g_get (z := 147) C kX6 dX6_nameOf_144 0 rfl 5 (by decide) w_136 rfl rfl rfl ?_
        refine g_iload (z := 149) C dX6_nameOf_147 1 rfl rfl ?_
        refine g_aload_n (z := 150) C dX6_nameOf_149 3 rfl rfl rfl ?_
        refine g_get (z := 153) C kX6 dX6_nameOf_150 0 rfl 6 (by decide) w_162 rfl rfl rfl ?_
        refine g_iast (w2 := [(h0, .inr (2, [.ref h1, .ref pP, .ref pS, .ref pL, .ref pN, .ref pH, .int (nI n), .int xat, .int xend, .ref pK, .ref pO, .ref pV, .int xtok, .int xcur, .int xkind, .int xpos, .int xopen, .int xwrong])), (pP, .inl (gK X 2, 3157, .inl (f))), (pS, .inl (gK X 0, 1544, .inl (upd fS n (nI s)))), (pL, .inl (gK X 0, 1544, .inl (upd fL n (nI len)))), (pN, .inl (gK X 0, 1544, .inl (upd fN n (fH hh)))), (pH, .inl (gK X 0, 256, .inl (upd (fH) ((nI hh) : Int32).toNatClampNeg (nI n))))]) (z := 154) C dX6_nameOf_153 5 rfl (vp_in_nI (by omega) (by omega)) rfl rfl ?_
        rw [nI_clamp (by omega : hh < 2 ^ 31)]
        refine g_aload_n (z := 155) C dX6_nameOf_154 3 rfl rfl rfl ?_
        refine g_dup (z := 156) C dX6_nameOf_155 rfl rfl ?_
        refine g_get (z := 159) C kX6 dX6_nameOf_156 0 rfl 6 (by decide) w_162 rfl rfl rfl ?_
        refine g_iconst (v := 1) (z := 160) C dX6_nameOf_159 (by decide) rfl ?_
        refine g_iadd (v := nI (n + 1)) (z := 161) C dX6_nameOf_160 (nI_1 n) rfl ?_
        refine g_put (w2 := [(h0, .inr (2, [.ref h1, .ref pP, .ref pS, .ref pL, .ref pN, .ref pH, .int (nI (n + 1)), .int xat, .int xend, .ref pK, .ref pO, .ref pV, .int xtok, .int xcur, .int xkind, .int xpos, .int xopen, .int xwrong])), (pP, .inl (gK X 2, 3157, .inl (f))), (pS, .inl (gK X 0, 1544, .inl (upd fS n (nI s)))), (pL, .inl (gK X 0, 1544, .inl (upd fL n (nI len)))), (pN, .inl (gK X 0, 1544, .inl (upd fN n (fH hh)))), (pH, .inl (gK X 0, 256, .inl (upd fH hh (nI n))))]) (z := 164) C kX6 dX6_nameOf_161 0 rfl 6 (by decide) w_162 rfl rfl rfl rfl (Nat.le_of_ble_eq_true rfl) rfl rfl ?_
        refine g_aload_n (z := 165) C dX6_nameOf_164 3 rfl rfl rfl ?_
        refine g_get (z := 168) C kX6 dX6_nameOf_165 0 rfl 6 (by decide) w_162 rfl rfl rfl ?_
        refine g_iconst (v := 1) (z := 169) C dX6_nameOf_168 (by decide) rfl ?_
        refine g_isub (v := ((nI (n + 1)) - 1)) (z := 170) C dX6_nameOf_169 (rfl) rfl ?_
        exact g_iret C hQ dX6_nameOf_170 rfl (Nat.le_of_ble_eq_true rfl) (Nat.le_of_ble_eq_true rfl) ⟨_, n + 1, _, _, _, _, Nat.le_refl _, hI.add (by omega) (by omega) hhh, rfl, rfl⟩
      · subst e
        refine g_iload (z := 50) C dX6_nameOf_48 0 rfl rfl ?_
        refine g_if_lt_f (z := 53) 95 C dX6_nameOf_50 (nI_pos (by omega)) (by decide) rfl ?_
        obtain ⟨s2, l2, e1, e2, e3⟩ := hI2 j hj1
        refine g_aload_n (z := 54) C dX6_nameOf_53 3 rfl rfl rfl ?_
        refine g_get (z := 57) C kX6 dX6_nameOf_54 0 rfl 3 (by decide) w_134 rfl rfl rfl ?_
        refine g_iload (z := 59) C dX6_nameOf_57 0 rfl rfl ?_
        refine g_iald (v := (nI l2)) (z := 60) C dX6_nameOf_59 3 rfl (vp_in_nI (by omega) (by omega)) (by rw [nI_clamp (by omega)]; exact e2) rfl ?_
        refine g_iload_n (z := 61) C dX6_nameOf_60 5 rfl rfl rfl ?_
        refine g_icmp_ne (z2 := 83) (z := 64) C dX6_nameOf_61 (by decide) rfl (fun hl => ?_) (fun hl => ?_)
        · refine g_aload_n (z := 84) C dX6_nameOf_83 3 rfl rfl rfl ?_
          refine g_get (z := 87) C kX6 dX6_nameOf_84 0 rfl 4 (by decide) w_135 rfl rfl rfl ?_
          refine g_iload (z := 89) C dX6_nameOf_87 0 rfl rfl ?_
          refine g_iald (v := (fN j)) (z := 90) C dX6_nameOf_89 4 rfl (vp_in_nI (by omega) (by omega)) (by rw [nI_clamp (by omega)]) rfl ?_
          refine g_istore (l2 := [(5, .int (fN j)), (4, .int (nI hh)), (3, .int y), (0, .ref h0), (1, .int (nI s)), (2, .int (nI len))]) (z := 92) C dX6_nameOf_90 (by decide) rfl rfl ?_
          refine g_goto (z := 48) C dX6_nameOf_92 (by decide) ?_
          refine g_lv (l2 := [(5, .int (fN j)), (4, .int (nI hh)), (3, .int y), (0, .ref h0), (1, .int (nI s)), (2, .int (nI len))]) [0, 1, 2, 3, 4, 5] rfl ?_
          refine ih _ y hh hhh ?_
          rcases hI3 j hj1 with q | ⟨i, hi, q⟩
          · exact Or.inl q
          · exact Or.inr ⟨i, by omega, by omega, q⟩
        · have el : len = l2 := ((nI_eq (by omega) (by omega)).mp hl).symm
          subst el
          refine g_aload_n (z := 65) C dX6_nameOf_64 3 rfl rfl rfl ?_
          refine g_aload_n (z := 66) C dX6_nameOf_65 3 rfl rfl rfl ?_
          refine g_get (z := 69) C kX6 dX6_nameOf_66 0 rfl 2 (by decide) w_133 rfl rfl rfl ?_
          refine g_iload (z := 71) C dX6_nameOf_69 0 rfl rfl ?_
          refine g_iald (v := (nI s2)) (z := 72) C dX6_nameOf_71 2 rfl (vp_in_nI (by omega) (by omega)) (by rw [nI_clamp (by omega)]; exact e1) rfl ?_
          refine g_iload_n (z := 73) C dX6_nameOf_72 4 rfl rfl rfl ?_
          refine g_iload_n (z := 74) C dX6_nameOf_73 5 rfl rfl rfl ?_
          refine g_callV (n := 3) (As := [.int (nI s2), .int (nI s), .int (nI len)]) (rest := []) (wr := [(pS, .inl (gK X 0, 1544, .inl (fS))), (pL, .inl (gK X 0, 1544, .inl (fL))), (pN, .inl (gK X 0, 1544, .inl (fN))), (pH, .inl (gK X 0, 256, .inl (fH)))]) (a2 := 0) (b2 := 0) (z := 77) C hR (k_alike (gl X) (gD X) (gK X) h0 h1 pP pS pL pN pH pK pO pV xat xend xtok xcur xkind xpos xopen xwrong (nI n) f s2 s len (by omega) (by omega)) dX6_nameOf_74 w_167 w_169 w_170 w_168 w_16 ⟨by decide +kernel, by decide +kernel, by decide +kernel⟩ [0, 1] [2, 3, 4, 5] rfl rfl rfl rfl rfl (by decide) ⟨(Nat.le_of_ble_eq_true rfl), (Nat.le_of_ble_eq_true rfl)⟩ rfl rfl (Nat.le_of_ble_eq_true rfl) (Nat.le_of_ble_eq_true rfl) (Nat.le_of_ble_eq_true rfl) rfl rfl 0 kX6 rfl rfl rfl rfl (fun v ws' hp => ?_)
          obtain ⟨⟨r, hr, rfl⟩, rfl⟩ := hp
          refine g_ws (w2 := [(pS, .inl (gK X 0, 1544, .inl (fS))), (pL, .inl (gK X 0, 1544, .inl (fL))), (pN, .inl (gK X 0, 1544, .inl (fN))), (pH, .inl (gK X 0, 256, .inl (fH))), (h0, .inr (2, [.ref h1, .ref pP, .ref pS, .ref pL, .ref pN, .ref pH, .int (nI n), .int xat, .int xend, .ref pK, .ref pO, .ref pV, .int xtok, .int xcur, .int xkind, .int xpos, .int xopen, .int xwrong])), (pP, .inl (gK X 2, 3157, .inl (f)))]) rfl ?_
          refine g_st (s2 := [.int r]) rfl ?_
          refine g_sub (w2 := [(h0, .inr (2, [.ref h1, .ref pP, .ref pS, .ref pL, .ref pN, .ref pH, .int (nI n), .int xat, .int xend, .ref pK, .ref pO, .ref pV, .int xtok, .int xcur, .int xkind, .int xpos, .int xopen, .int xwrong])), (pP, .inl (gK X 2, 3157, .inl (f))), (pS, .inl (gK X 0, 1544, .inl (fS))), (pL, .inl (gK X 0, 1544, .inl (fL))), (pN, .inl (gK X 0, 1544, .inl (fN))), (pH, .inl (gK X 0, 256, .inl (fH)))]) [4, 5, 0, 1, 2, 3] rfl rfl rfl ?_
          refine g_if_eq (z2 := 83) (z := 80) C dX6_nameOf_77 (by decide) rfl (fun hz => ?_) (fun hz => ?_)
          · refine g_aload_n (z := 84) C dX6_nameOf_83 3 rfl rfl rfl ?_
            refine g_get (z := 87) C kX6 dX6_nameOf_84 0 rfl 4 (by decide) w_135 rfl rfl rfl ?_
            refine g_iload (z := 89) C dX6_nameOf_87 0 rfl rfl ?_
            refine g_iald (v := (fN j)) (z := 90) C dX6_nameOf_89 4 rfl (vp_in_nI (by omega) (by omega)) (by rw [nI_clamp (by omega)]) rfl ?_
            refine g_istore (l2 := [(5, .int (fN j)), (4, .int (nI hh)), (3, .int y), (0, .ref h0), (1, .int (nI s)), (2, .int (nI len))]) (z := 92) C dX6_nameOf_90 (by decide) rfl rfl ?_
            refine g_goto (z := 48) C dX6_nameOf_92 (by decide) ?_
            refine g_lv (l2 := [(5, .int (fN j)), (4, .int (nI hh)), (3, .int y), (0, .ref h0), (1, .int (nI s)), (2, .int (nI len))]) [0, 1, 2, 3, 4, 5] rfl ?_
            refine ih _ y hh hhh ?_
            rcases hI3 j hj1 with q | ⟨i, hi, q⟩
            · exact Or.inl q
            · exact Or.inr ⟨i, by omega, by omega, q⟩
          · refine g_iload (z := 82) C dX6_nameOf_80 0 rfl rfl ?_
            exact g_iret C hQ dX6_nameOf_82 rfl (Nat.le_of_ble_eq_true rfl) (Nat.le_of_ble_eq_true rfl) ⟨_, n, _, _, _, _, Nat.le_succ n, hI, rfl, rfl⟩
  have loop : ∀ (k i : Nat) (x y : Int32), x = nI i → i ≤ len → len + 1 ≤ i + k → G X 0 0 [(h0, .inr (2, [.ref h1, .ref pP, .ref pS, .ref pL, .ref pN, .ref pH, .int (nI n), .int xat, .int xend, .ref pK, .ref pO, .ref pV, .int xtok, .int xcur, .int xkind, .int xpos, .int xopen, .int xwrong])), (pP, .inl (gK X 2, 3157, .inl (f))), (pS, .inl (gK X 0, 1544, .inl (fS))), (pL, .inl (gK X 0, 1544, .inl (fL))), (pN, .inl (gK X 0, 1544, .inl (fN))), (pH, .inl (gK X 0, 256, .inl (fH)))] [(4, .int x), (3, .int y), (0, .ref h0), (1, .int (nI s)), (2, .int (nI len))] 5 [] := by
    intro k
    induction k with
    | zero => intro i x y _ u1 u2; omega
    | succ k ih =>
      intro i x y hx u1 u2
      subst hx
      refine g_iload (z := 7) C dX6_nameOf_5 0 rfl rfl ?_
      refine g_iload_n (z := 8) C dX6_nameOf_7 4 rfl rfl rfl ?_
      refine g_icmp_ge (z2 := 32) (z := 11) C dX6_nameOf_8 (by decide) rfl (fun hc => ?_) (fun hc => ?_)
      · refine g_iload_n (z := 33) C dX6_nameOf_32 1 rfl rfl rfl ?_
        refine g_sipush (v := 255) (z := 36) C dX6_nameOf_33 (by decide) rfl ?_
        obtain ⟨hh, hhh, eh⟩ := pk_andE y (m := 255) 8 (by decide)
        refine g_iand (v := nI hh) (z := 37) C dX6_nameOf_36 eh rfl ?_
        refine g_istore (l2 := [(4, .int (nI hh)), (3, .int y), (0, .ref h0), (1, .int (nI s)), (2, .int (nI len))]) (z := 39) C dX6_nameOf_37 (by decide) rfl rfl ?_
        refine g_aload_n (z := 40) C dX6_nameOf_39 2 rfl rfl rfl ?_
        refine g_get (z := 43) C kX6 dX6_nameOf_40 0 rfl 5 (by decide) w_136 rfl rfl rfl ?_
        refine g_iload (z := 45) C dX6_nameOf_43 0 rfl rfl ?_
        refine g_iald (v := (fH hh)) (z := 46) C dX6_nameOf_45 5 rfl (vp_in_nI (by omega) (by omega)) (by rw [nI_clamp (by omega)]) rfl ?_
        refine g_istore (l2 := [(5, .int (fH hh)), (4, .int (nI hh)), (3, .int y), (0, .ref h0), (1, .int (nI s)), (2, .int (nI len))]) (z := 48) C dX6_nameOf_46 (by decide) rfl rfl ?_
        refine g_lv (l2 := [(5, .int (fH hh)), (4, .int (nI hh)), (3, .int y), (0, .ref h0), (1, .int (nI s)), (2, .int (nI len))]) [0, 1, 2, 3, 4, 5] rfl ?_
        refine chain n _ y hh hhh ?_
        rcases hI4 hh hhh with q | ⟨j, hj, q⟩
        · exact Or.inl q
        · exact Or.inr ⟨j, hj, hj, q⟩
      · have hi : i < len := by
          rcases Nat.lt_or_ge i len with q | q
          · exact q
          · exact absurd (nI_le q (by omega)) hc
        refine g_iload_n (z := 12) C dX6_nameOf_11 1 rfl rfl rfl ?_
        refine g_bipush (v := 31) (z := 14) C dX6_nameOf_12 (by decide) rfl ?_
        refine g_imul (v := (y * 31)) (z := 15) C dX6_nameOf_14 (rfl) rfl ?_
        refine g_aload_n (z := 16) C dX6_nameOf_15 2 rfl rfl rfl ?_
        refine g_get (z := 19) C kX6 dX6_nameOf_16 0 rfl 1 (by decide) w_132 rfl rfl rfl ?_
        refine g_iload_n (z := 20) C dX6_nameOf_19 3 rfl rfl rfl ?_
        refine g_iload (z := 22) C dX6_nameOf_20 0 rfl rfl ?_
        refine g_iadd (v := nI (s + i)) (z := 23) C dX6_nameOf_22 (nI_add s i) rfl ?_
        refine g_bald (v := (f (s + i))) (z := 24) C dX6_nameOf_23 1 rfl (vp_in_nI (by omega) (by omega)) (by rw [nI_clamp (by omega)]) rfl ?_
        refine g_iadd (v := ((y * 31) + (f (s + i)))) (z := 25) C dX6_nameOf_24 (rfl) rfl ?_
        refine g_istore_n (l2 := [(3, .int ((y * 31) + (f (s + i)))), (4, .int (nI i)), (0, .ref h0), (1, .int (nI s)), (2, .int (nI len))]) (z := 26) C dX6_nameOf_25 rfl (by decide) rfl rfl ?_
        refine g_iinc (v := ((nI i) + 1)) (l2 := [(4, .int ((nI i) + 1)), (3, .int ((y * 31) + (f (s + i)))), (0, .ref h0), (1, .int (nI s)), (2, .int (nI len))]) (z := 29) C dX6_nameOf_26 1 rfl (by rfl) (by decide) rfl rfl ?_
        refine g_goto (z := 5) C dX6_nameOf_29 (by decide) ?_
        refine g_lv (l2 := [(4, .int ((nI i) + 1)), (3, .int ((y * 31) + (f (s + i)))), (0, .ref h0), (1, .int (nI s)), (2, .int (nI len))]) [0, 1, 2, 3, 4] rfl ?_
        exact ih (i + 1) _ _ (nI_1 i) (by omega) (by omega)
  exact loop (len + 1) 0 0 0 nI_0.symm (by omega) (by omega)
end
section
theorem dX6_advance_0 : decode cX6_advance 0 = .ok (.aload_n 0, 1) := by decide +kernel
theorem dX6_advance_1 : decode cX6_advance 1 = .ok (.getfield 70, 3) := by decide +kernel
theorem dX6_advance_4 : decode cX6_advance 4 = .ok (.ifCond .ge 52, 3) := by decide +kernel
theorem dX6_advance_7 : decode cX6_advance 7 = .ok (.aload_n 0, 1) := by decide +kernel
theorem dX6_advance_8 : decode cX6_advance 8 = .ok (.getfield 84, 3) := by decide +kernel
theorem dX6_advance_11 : decode cX6_advance 11 = .ok (.iconst 1, 1) := by decide +kernel
theorem dX6_advance_12 : decode cX6_advance 12 = .ok (.iadd, 1) := by decide +kernel
theorem dX6_advance_13 : decode cX6_advance 13 = .ok (.aload_n 0, 1) := by decide +kernel
theorem dX6_advance_14 : decode cX6_advance 14 = .ok (.getfield 129, 3) := by decide +kernel
theorem dX6_advance_17 : decode cX6_advance 17 = .ok (.if_icmp .ge 39, 3) := by decide +kernel
theorem dX6_advance_20 : decode cX6_advance 20 = .ok (.aload_n 0, 1) := by decide +kernel
theorem dX6_advance_21 : decode cX6_advance 21 = .ok (.dup, 1) := by decide +kernel
theorem dX6_advance_22 : decode cX6_advance 22 = .ok (.getfield 84, 3) := by decide +kernel
theorem dX6_advance_25 : decode cX6_advance 25 = .ok (.iconst 1, 1) := by decide +kernel
theorem dX6_advance_26 : decode cX6_advance 26 = .ok (.iadd, 1) := by decide +kernel
theorem dX6_advance_27 : decode cX6_advance 27 = .ok (.putfield 84, 3) := by decide +kernel
theorem dX6_advance_30 : decode cX6_advance 30 = .ok (.aload_n 0, 1) := by decide +kernel
theorem dX6_advance_31 : decode cX6_advance 31 = .ok (.aload_n 0, 1) := by decide +kernel
theorem dX6_advance_32 : decode cX6_advance 32 = .ok (.getfield 36, 3) := by decide +kernel
theorem dX6_advance_35 : decode cX6_advance 35 = .ok (.aload_n 0, 1) := by decide +kernel
theorem dX6_advance_36 : decode cX6_advance 36 = .ok (.getfield 84, 3) := by decide +kernel
theorem dX6_advance_39 : decode cX6_advance 39 = .ok (.iaload, 1) := by decide +kernel
theorem dX6_advance_40 : decode cX6_advance 40 = .ok (.putfield 94, 3) := by decide +kernel
theorem dX6_advance_43 : decode cX6_advance 43 = .ok (.aload_n 0, 1) := by decide +kernel
theorem dX6_advance_44 : decode cX6_advance 44 = .ok (.aload_n 0, 1) := by decide +kernel
theorem dX6_advance_45 : decode cX6_advance 45 = .ok (.getfield 39, 3) := by decide +kernel
theorem dX6_advance_48 : decode cX6_advance 48 = .ok (.aload_n 0, 1) := by decide +kernel
theorem dX6_advance_49 : decode cX6_advance 49 = .ok (.getfield 84, 3) := by decide +kernel
theorem dX6_advance_52 : decode cX6_advance 52 = .ok (.iaload, 1) := by decide +kernel
theorem dX6_advance_53 : decode cX6_advance 53 = .ok (.putfield 97, 3) := by decide +kernel
theorem dX6_advance_56 : decode cX6_advance 56 = .ok (.return_, 1) := by decide +kernel
theorem dX6_read_0 : decode cX6_read 0 = .ok (.aload_n 1, 1) := by decide +kernel
theorem dX6_read_1 : decode cX6_read 1 = .ok (.iconst 0, 1) := by decide +kernel
theorem dX6_read_2 : decode cX6_read 2 = .ok (.aload_n 0, 1) := by decide +kernel
theorem dX6_read_3 : decode cX6_read 3 = .ok (.getfield 17, 3) := by decide +kernel
theorem dX6_read_6 : decode cX6_read 6 = .ok (.ldc 9, 2) := by decide +kernel
theorem dX6_read_8 : decode cX6_read 8 = .ok (.invokevirtual 11, 3) := by decide +kernel
theorem dX6_read_11 : decode cX6_read 11 = .ok (.iload_n 2, 1) := by decide +kernel
theorem dX6_read_12 : decode cX6_read 12 = .ok (.invokestatic 54, 3) := by decide +kernel
theorem dX6_read_15 : decode cX6_read 15 = .ok (.aload_n 0, 1) := by decide +kernel
theorem dX6_read_16 : decode cX6_read 16 = .ok (.ldc 9, 2) := by decide +kernel
theorem dX6_read_18 : decode cX6_read 18 = .ok (.invokevirtual 11, 3) := by decide +kernel
theorem dX6_read_21 : decode cX6_read 21 = .ok (.putfield 60, 3) := by decide +kernel
theorem dX6_read_24 : decode cX6_read 24 = .ok (.aload_n 0, 1) := by decide +kernel
theorem dX6_read_25 : decode cX6_read 25 = .ok (.aload_n 0, 1) := by decide +kernel
theorem dX6_read_26 : decode cX6_read 26 = .ok (.getfield 60, 3) := by decide +kernel
theorem dX6_read_29 : decode cX6_read 29 = .ok (.iload_n 2, 1) := by decide +kernel
theorem dX6_read_30 : decode cX6_read 30 = .ok (.iadd, 1) := by decide +kernel
theorem dX6_read_31 : decode cX6_read 31 = .ok (.putfield 64, 3) := by decide +kernel
theorem dX6_read_34 : decode cX6_read 34 = .ok (.aload_n 0, 1) := by decide +kernel
theorem dX6_read_35 : decode cX6_read 35 = .ok (.iconst 0, 1) := by decide +kernel
theorem dX6_read_36 : decode cX6_read 36 = .ok (.putfield 67, 3) := by decide +kernel
theorem dX6_read_39 : decode cX6_read 39 = .ok (.aload_n 0, 1) := by decide +kernel
theorem dX6_read_40 : decode cX6_read 40 = .ok (.iconst (-1), 1) := by decide +kernel
theorem dX6_read_41 : decode cX6_read 41 = .ok (.putfield 70, 3) := by decide +kernel
theorem dX6_read_44 : decode cX6_read 44 = .ok (.aload_n 0, 1) := by decide +kernel
theorem dX6_read_45 : decode cX6_read 45 = .ok (.invokevirtual 73, 3) := by decide +kernel
theorem dX6_read_48 : decode cX6_read 48 = .ok (.aload_n 0, 1) := by decide +kernel
theorem dX6_read_49 : decode cX6_read 49 = .ok (.invokevirtual 76, 3) := by decide +kernel
theorem dX6_read_52 : decode cX6_read 52 = .ok (.aload_n 0, 1) := by decide +kernel
theorem dX6_read_53 : decode cX6_read 53 = .ok (.getfield 46, 3) := by decide +kernel
theorem dX6_read_56 : decode cX6_read 56 = .ok (.invokevirtual 79, 3) := by decide +kernel
theorem dX6_read_59 : decode cX6_read 59 = .ok (.aload_n 0, 1) := by decide +kernel
theorem dX6_read_60 : decode cX6_read 60 = .ok (.iconst (-1), 1) := by decide +kernel
theorem dX6_read_61 : decode cX6_read 61 = .ok (.putfield 84, 3) := by decide +kernel
theorem dX6_read_64 : decode cX6_read 64 = .ok (.aload_n 0, 1) := by decide +kernel
theorem dX6_read_65 : decode cX6_read 65 = .ok (.invokevirtual 87, 3) := by decide +kernel
theorem dX6_read_68 : decode cX6_read 68 = .ok (.aload_n 0, 1) := by decide +kernel
theorem dX6_read_69 : decode cX6_read 69 = .ok (.getfield 46, 3) := by decide +kernel
theorem dX6_read_72 : decode cX6_read 72 = .ok (.sipush 300, 3) := by decide +kernel
theorem dX6_read_75 : decode cX6_read 75 = .ok (.iconst 0, 1) := by decide +kernel
theorem dX6_read_76 : decode cX6_read 76 = .ok (.invokevirtual 90, 3) := by decide +kernel
theorem dX6_read_79 : decode cX6_read 79 = .ok (.istore_n 3, 1) := by decide +kernel
theorem dX6_read_80 : decode cX6_read 80 = .ok (.iconst 0, 1) := by decide +kernel
theorem dX6_read_81 : decode cX6_read 81 = .ok (.istore 4, 2) := by decide +kernel
theorem dX6_read_83 : decode cX6_read 83 = .ok (.iconst 0, 1) := by decide +kernel
theorem dX6_read_84 : decode cX6_read 84 = .ok (.istore 5, 2) := by decide +kernel
theorem dX6_read_86 : decode cX6_read 86 = .ok (.iload 5, 2) := by decide +kernel
theorem dX6_read_88 : decode cX6_read 88 = .ok (.sipush 3000, 3) := by decide +kernel
theorem dX6_read_91 : decode cX6_read 91 = .ok (.if_icmp .gt 119, 3) := by decide +kernel
theorem dX6_read_94 : decode cX6_read 94 = .ok (.aload_n 0, 1) := by decide +kernel
theorem dX6_read_95 : decode cX6_read 95 = .ok (.getfield 94, 3) := by decide +kernel
theorem dX6_read_98 : decode cX6_read 98 = .ok (.ifCond .eq 112, 3) := by decide +kernel
theorem dX6_read_210 : decode cX6_read 210 = .ok (.aload_n 0, 1) := by decide +kernel
theorem dX6_read_211 : decode cX6_read 211 = .ok (.getfield 70, 3) := by decide +kernel
theorem dX6_read_214 : decode cX6_read 214 = .ok (.ireturn, 1) := by decide +kernel
theorem dX6_skipBlanks_0 : decode cX6_skipBlanks 0 = .ok (.iconst 0, 1) := by decide +kernel
theorem dX6_skipBlanks_1 : decode cX6_skipBlanks 1 = .ok (.istore_n 1, 1) := by decide +kernel
theorem dX6_skipBlanks_2 : decode cX6_skipBlanks 2 = .ok (.aload_n 0, 1) := by decide +kernel
theorem dX6_skipBlanks_3 : decode cX6_skipBlanks 3 = .ok (.getfield 60, 3) := by decide +kernel
theorem dX6_skipBlanks_6 : decode cX6_skipBlanks 6 = .ok (.aload_n 0, 1) := by decide +kernel
theorem dX6_skipBlanks_7 : decode cX6_skipBlanks 7 = .ok (.getfield 64, 3) := by decide +kernel
theorem dX6_skipBlanks_10 : decode cX6_skipBlanks 10 = .ok (.if_icmp .ge 117, 3) := by decide +kernel
theorem dX6_skipBlanks_127 : decode cX6_skipBlanks 127 = .ok (.return_, 1) := by decide +kernel
theorem dX6_takeTokens_0 : decode cX6_takeTokens 0 = .ok (.aload_n 0, 1) := by decide +kernel
theorem dX6_takeTokens_1 : decode cX6_takeTokens 1 = .ok (.iconst 0, 1) := by decide +kernel
theorem dX6_takeTokens_2 : decode cX6_takeTokens 2 = .ok (.putfield 129, 3) := by decide +kernel
theorem dX6_takeTokens_5 : decode cX6_takeTokens 5 = .ok (.iconst 1, 1) := by decide +kernel
theorem dX6_takeTokens_6 : decode cX6_takeTokens 6 = .ok (.istore_n 1, 1) := by decide +kernel
theorem dX6_takeTokens_7 : decode cX6_takeTokens 7 = .ok (.iconst 0, 1) := by decide +kernel
theorem dX6_takeTokens_8 : decode cX6_takeTokens 8 = .ok (.istore_n 2, 1) := by decide +kernel
theorem dX6_takeTokens_9 : decode cX6_takeTokens 9 = .ok (.iload_n 2, 1) := by decide +kernel
theorem dX6_takeTokens_10 : decode cX6_takeTokens 10 = .ok (.sipush 3000, 3) := by decide +kernel
theorem dX6_takeTokens_13 : decode cX6_takeTokens 13 = .ok (.if_icmp .gt 127, 3) := by decide +kernel
theorem dX6_takeTokens_16 : decode cX6_takeTokens 16 = .ok (.iload_n 1, 1) := by decide +kernel
theorem dX6_takeTokens_17 : decode cX6_takeTokens 17 = .ok (.ifCond .eq 123, 3) := by decide +kernel
theorem dX6_takeTokens_20 : decode cX6_takeTokens 20 = .ok (.iload_n 1, 1) := by decide +kernel
theorem dX6_takeTokens_21 : decode cX6_takeTokens 21 = .ok (.iconst 3, 1) := by decide +kernel
theorem dX6_takeTokens_22 : decode cX6_takeTokens 22 = .ok (.if_icmp .eq 118, 3) := by decide +kernel
theorem dX6_takeTokens_25 : decode cX6_takeTokens 25 = .ok (.aload_n 0, 1) := by decide +kernel
theorem dX6_takeTokens_26 : decode cX6_takeTokens 26 = .ok (.invokevirtual 132, 3) := by decide +kernel
theorem dX6_takeTokens_29 : decode cX6_takeTokens 29 = .ok (.aload_n 0, 1) := by decide +kernel
theorem dX6_takeTokens_30 : decode cX6_takeTokens 30 = .ok (.getfield 39, 3) := by decide +kernel
theorem dX6_takeTokens_33 : decode cX6_takeTokens 33 = .ok (.aload_n 0, 1) := by decide +kernel
theorem dX6_takeTokens_34 : decode cX6_takeTokens 34 = .ok (.getfield 129, 3) := by decide +kernel
theorem dX6_takeTokens_37 : decode cX6_takeTokens 37 = .ok (.aload_n 0, 1) := by decide +kernel
theorem dX6_takeTokens_38 : decode cX6_takeTokens 38 = .ok (.getfield 60, 3) := by decide +kernel
theorem dX6_takeTokens_41 : decode cX6_takeTokens 41 = .ok (.ldc 9, 2) := by decide +kernel
theorem dX6_takeTokens_43 : decode cX6_takeTokens 43 = .ok (.invokevirtual 11, 3) := by decide +kernel
theorem dX6_takeTokens_46 : decode cX6_takeTokens 46 = .ok (.isub, 1) := by decide +kernel
theorem dX6_takeTokens_47 : decode cX6_takeTokens 47 = .ok (.iastore, 1) := by decide +kernel
theorem dX6_takeTokens_48 : decode cX6_takeTokens 48 = .ok (.aload_n 0, 1) := by decide +kernel
theorem dX6_takeTokens_49 : decode cX6_takeTokens 49 = .ok (.getfield 60, 3) := by decide +kernel
theorem dX6_takeTokens_52 : decode cX6_takeTokens 52 = .ok (.aload_n 0, 1) := by decide +kernel
theorem dX6_takeTokens_53 : decode cX6_takeTokens 53 = .ok (.getfield 64, 3) := by decide +kernel
theorem dX6_takeTokens_56 : decode cX6_takeTokens 56 = .ok (.if_icmp .lt 8, 3) := by decide +kernel
theorem dX6_takeTokens_59 : decode cX6_takeTokens 59 = .ok (.iconst 0, 1) := by decide +kernel
theorem dX6_takeTokens_60 : decode cX6_takeTokens 60 = .ok (.istore_n 1, 1) := by decide +kernel
theorem dX6_takeTokens_61 : decode cX6_takeTokens 61 = .ok (.goto 53, 3) := by decide +kernel
theorem dX6_takeTokens_114 : decode cX6_takeTokens 114 = .ok (.aload_n 0, 1) := by decide +kernel
theorem dX6_takeTokens_115 : decode cX6_takeTokens 115 = .ok (.getfield 36, 3) := by decide +kernel
theorem dX6_takeTokens_118 : decode cX6_takeTokens 118 = .ok (.aload_n 0, 1) := by decide +kernel
theorem dX6_takeTokens_119 : decode cX6_takeTokens 119 = .ok (.getfield 129, 3) := by decide +kernel
theorem dX6_takeTokens_122 : decode cX6_takeTokens 122 = .ok (.iload_n 1, 1) := by decide +kernel
theorem dX6_takeTokens_123 : decode cX6_takeTokens 123 = .ok (.iastore, 1) := by decide +kernel
theorem dX6_takeTokens_124 : decode cX6_takeTokens 124 = .ok (.aload_n 0, 1) := by decide +kernel
theorem dX6_takeTokens_125 : decode cX6_takeTokens 125 = .ok (.dup, 1) := by decide +kernel
theorem dX6_takeTokens_126 : decode cX6_takeTokens 126 = .ok (.getfield 129, 3) := by decide +kernel
theorem dX6_takeTokens_129 : decode cX6_takeTokens 129 = .ok (.iconst 1, 1) := by decide +kernel
theorem dX6_takeTokens_130 : decode cX6_takeTokens 130 = .ok (.iadd, 1) := by decide +kernel
theorem dX6_takeTokens_131 : decode cX6_takeTokens 131 = .ok (.putfield 129, 3) := by decide +kernel
theorem dX6_takeTokens_134 : decode cX6_takeTokens 134 = .ok (.iinc 2 1, 3) := by decide +kernel
theorem dX6_takeTokens_137 : decode cX6_takeTokens 137 = .ok (.goto (-128), 3) := by decide +kernel
theorem dX6_takeTokens_140 : decode cX6_takeTokens 140 = .ok (.return_, 1) := by decide +kernel
theorem dX6_takeWords_0 : decode cX6_takeWords 0 = .ok (.aload_n 0, 1) := by decide +kernel
theorem dX6_takeWords_1 : decode cX6_takeWords 1 = .ok (.iconst 0, 1) := by decide +kernel
theorem dX6_takeWords_2 : decode cX6_takeWords 2 = .ok (.putfield 119, 3) := by decide +kernel
theorem dX6_takeWords_5 : decode cX6_takeWords 5 = .ok (.iconst 0, 1) := by decide +kernel
theorem dX6_takeWords_6 : decode cX6_takeWords 6 = .ok (.istore_n 1, 1) := by decide +kernel
theorem dX6_takeWords_7 : decode cX6_takeWords 7 = .ok (.iload_n 1, 1) := by decide +kernel
theorem dX6_takeWords_8 : decode cX6_takeWords 8 = .ok (.aload_n 0, 1) := by decide +kernel
theorem dX6_takeWords_9 : decode cX6_takeWords 9 = .ok (.getfield 33, 3) := by decide +kernel
theorem dX6_takeWords_12 : decode cX6_takeWords 12 = .ok (.arraylength, 1) := by decide +kernel
theorem dX6_takeWords_13 : decode cX6_takeWords 13 = .ok (.if_icmp .ge 16, 3) := by decide +kernel
theorem dX6_takeWords_16 : decode cX6_takeWords 16 = .ok (.aload_n 0, 1) := by decide +kernel
theorem dX6_takeWords_17 : decode cX6_takeWords 17 = .ok (.getfield 33, 3) := by decide +kernel
theorem dX6_takeWords_20 : decode cX6_takeWords 20 = .ok (.iload_n 1, 1) := by decide +kernel
theorem dX6_takeWords_21 : decode cX6_takeWords 21 = .ok (.iconst (-1), 1) := by decide +kernel
theorem dX6_takeWords_22 : decode cX6_takeWords 22 = .ok (.iastore, 1) := by decide +kernel
theorem dX6_takeWords_23 : decode cX6_takeWords 23 = .ok (.iinc 1 1, 3) := by decide +kernel
theorem dX6_takeWords_26 : decode cX6_takeWords 26 = .ok (.goto (-19), 3) := by decide +kernel
theorem dX6_takeWords_29 : decode cX6_takeWords 29 = .ok (.iconst 0, 1) := by decide +kernel
theorem dX6_takeWords_30 : decode cX6_takeWords 30 = .ok (.istore_n 1, 1) := by decide +kernel
theorem dX6_takeWords_31 : decode cX6_takeWords 31 = .ok (.iconst 0, 1) := by decide +kernel
theorem dX6_takeWords_32 : decode cX6_takeWords 32 = .ok (.istore_n 2, 1) := by decide +kernel
theorem dX6_takeWords_33 : decode cX6_takeWords 33 = .ok (.iload_n 2, 1) := by decide +kernel
theorem dX6_takeWords_34 : decode cX6_takeWords 34 = .ok (.ldc 9, 2) := by decide +kernel
theorem dX6_takeWords_36 : decode cX6_takeWords 36 = .ok (.invokevirtual 11, 3) := by decide +kernel
theorem dX6_takeWords_39 : decode cX6_takeWords 39 = .ok (.if_icmp .gt 42, 3) := by decide +kernel
theorem dX6_takeWords_42 : decode cX6_takeWords 42 = .ok (.iload_n 2, 1) := by decide +kernel
theorem dX6_takeWords_43 : decode cX6_takeWords 43 = .ok (.ldc 9, 2) := by decide +kernel
theorem dX6_takeWords_45 : decode cX6_takeWords 45 = .ok (.invokevirtual 11, 3) := by decide +kernel
theorem dX6_takeWords_48 : decode cX6_takeWords 48 = .ok (.if_icmp .eq 14, 3) := by decide +kernel
theorem dX6_takeWords_51 : decode cX6_takeWords 51 = .ok (.ldc 9, 2) := by decide +kernel
theorem dX6_takeWords_53 : decode cX6_takeWords 53 = .ok (.iload_n 2, 1) := by decide +kernel
theorem dX6_takeWords_54 : decode cX6_takeWords 54 = .ok (.invokevirtual 50, 3) := by decide +kernel
theorem dX6_takeWords_57 : decode cX6_takeWords 57 = .ok (.bipush 32, 2) := by decide +kernel
theorem dX6_takeWords_59 : decode cX6_takeWords 59 = .ok (.if_icmp .ne 16, 3) := by decide +kernel
theorem dX6_takeWords_62 : decode cX6_takeWords 62 = .ok (.aload_n 0, 1) := by decide +kernel
theorem dX6_takeWords_63 : decode cX6_takeWords 63 = .ok (.iload_n 1, 1) := by decide +kernel
theorem dX6_takeWords_64 : decode cX6_takeWords 64 = .ok (.iload_n 2, 1) := by decide +kernel
theorem dX6_takeWords_65 : decode cX6_takeWords 65 = .ok (.iload_n 1, 1) := by decide +kernel
theorem dX6_takeWords_66 : decode cX6_takeWords 66 = .ok (.isub, 1) := by decide +kernel
theorem dX6_takeWords_67 : decode cX6_takeWords 67 = .ok (.invokevirtual 122, 3) := by decide +kernel
theorem dX6_takeWords_70 : decode cX6_takeWords 70 = .ok (.pop, 1) := by decide +kernel
theorem dX6_takeWords_71 : decode cX6_takeWords 71 = .ok (.iload_n 2, 1) := by decide +kernel
theorem dX6_takeWords_72 : decode cX6_takeWords 72 = .ok (.iconst 1, 1) := by decide +kernel
theorem dX6_takeWords_73 : decode cX6_takeWords 73 = .ok (.iadd, 1) := by decide +kernel
theorem dX6_takeWords_74 : decode cX6_takeWords 74 = .ok (.istore_n 1, 1) := by decide +kernel
theorem dX6_takeWords_75 : decode cX6_takeWords 75 = .ok (.iinc 2 1, 3) := by decide +kernel
theorem dX6_takeWords_78 : decode cX6_takeWords 78 = .ok (.goto (-45), 3) := by decide +kernel
theorem dX6_takeWords_81 : decode cX6_takeWords 81 = .ok (.return_, 1) := by decide +kernel
theorem dX8_add_0 : decode cX8_add 0 = .ok (.aload_n 0, 1) := by decide +kernel
theorem dX8_add_1 : decode cX8_add 1 = .ok (.getfield 46, 3) := by decide +kernel
theorem dX8_add_4 : decode cX8_add 4 = .ok (.sipush 3016, 3) := by decide +kernel
theorem dX8_add_7 : decode cX8_add 7 = .ok (.if_icmp .lt 5, 3) := by decide +kernel
theorem dX8_add_12 : decode cX8_add 12 = .ok (.aload_n 0, 1) := by decide +kernel
theorem dX8_add_13 : decode cX8_add 13 = .ok (.getfield 46, 3) := by decide +kernel
theorem dX8_add_16 : decode cX8_add 16 = .ok (.istore_n 3, 1) := by decide +kernel
theorem dX8_add_17 : decode cX8_add 17 = .ok (.aload_n 0, 1) := by decide +kernel
theorem dX8_add_18 : decode cX8_add 18 = .ok (.dup, 1) := by decide +kernel
theorem dX8_add_19 : decode cX8_add 19 = .ok (.getfield 46, 3) := by decide +kernel
theorem dX8_add_22 : decode cX8_add 22 = .ok (.iconst 1, 1) := by decide +kernel
theorem dX8_add_23 : decode cX8_add 23 = .ok (.iadd, 1) := by decide +kernel
theorem dX8_add_24 : decode cX8_add 24 = .ok (.putfield 46, 3) := by decide +kernel
theorem dX8_add_27 : decode cX8_add 27 = .ok (.aload_n 0, 1) := by decide +kernel
theorem dX8_add_28 : decode cX8_add 28 = .ok (.getfield 9, 3) := by decide +kernel
theorem dX8_add_31 : decode cX8_add 31 = .ok (.iload_n 3, 1) := by decide +kernel
theorem dX8_add_32 : decode cX8_add 32 = .ok (.iload_n 1, 1) := by decide +kernel
theorem dX8_add_33 : decode cX8_add 33 = .ok (.iastore, 1) := by decide +kernel
theorem dX8_add_34 : decode cX8_add 34 = .ok (.aload_n 0, 1) := by decide +kernel
theorem dX8_add_35 : decode cX8_add 35 = .ok (.getfield 15, 3) := by decide +kernel
theorem dX8_add_38 : decode cX8_add 38 = .ok (.iload_n 3, 1) := by decide +kernel
theorem dX8_add_39 : decode cX8_add 39 = .ok (.iload_n 2, 1) := by decide +kernel
theorem dX8_add_40 : decode cX8_add 40 = .ok (.iastore, 1) := by decide +kernel
theorem dX8_add_41 : decode cX8_add 41 = .ok (.aload_n 0, 1) := by decide +kernel
theorem dX8_add_42 : decode cX8_add 42 = .ok (.getfield 18, 3) := by decide +kernel
theorem dX8_add_45 : decode cX8_add 45 = .ok (.iload_n 3, 1) := by decide +kernel
theorem dX8_add_46 : decode cX8_add 46 = .ok (.iload_n 2, 1) := by decide +kernel
theorem dX8_add_47 : decode cX8_add 47 = .ok (.iastore, 1) := by decide +kernel
theorem dX8_add_48 : decode cX8_add 48 = .ok (.aload_n 0, 1) := by decide +kernel
theorem dX8_add_49 : decode cX8_add 49 = .ok (.getfield 21, 3) := by decide +kernel
theorem dX8_add_52 : decode cX8_add 52 = .ok (.iload_n 3, 1) := by decide +kernel
theorem dX8_add_53 : decode cX8_add 53 = .ok (.iconst 0, 1) := by decide +kernel
theorem dX8_add_54 : decode cX8_add 54 = .ok (.iastore, 1) := by decide +kernel
theorem dX8_add_55 : decode cX8_add 55 = .ok (.aload_n 0, 1) := by decide +kernel
theorem dX8_add_56 : decode cX8_add 56 = .ok (.getfield 24, 3) := by decide +kernel
theorem dX8_add_59 : decode cX8_add 59 = .ok (.iload_n 3, 1) := by decide +kernel
theorem dX8_add_60 : decode cX8_add 60 = .ok (.iconst 0, 1) := by decide +kernel
theorem dX8_add_61 : decode cX8_add 61 = .ok (.iastore, 1) := by decide +kernel
theorem dX8_add_62 : decode cX8_add 62 = .ok (.aload_n 0, 1) := by decide +kernel
theorem dX8_add_63 : decode cX8_add 63 = .ok (.getfield 27, 3) := by decide +kernel
theorem dX8_add_66 : decode cX8_add 66 = .ok (.iload_n 3, 1) := by decide +kernel
theorem dX8_add_67 : decode cX8_add 67 = .ok (.iconst 0, 1) := by decide +kernel
theorem dX8_add_68 : decode cX8_add 68 = .ok (.iastore, 1) := by decide +kernel
theorem dX8_add_69 : decode cX8_add 69 = .ok (.aload_n 0, 1) := by decide +kernel
theorem dX8_add_70 : decode cX8_add 70 = .ok (.getfield 30, 3) := by decide +kernel
theorem dX8_add_73 : decode cX8_add 73 = .ok (.iload_n 3, 1) := by decide +kernel
theorem dX8_add_74 : decode cX8_add 74 = .ok (.iconst 0, 1) := by decide +kernel
theorem dX8_add_75 : decode cX8_add 75 = .ok (.iastore, 1) := by decide +kernel
theorem dX8_add_76 : decode cX8_add 76 = .ok (.aload_n 0, 1) := by decide +kernel
theorem dX8_add_77 : decode cX8_add 77 = .ok (.getfield 33, 3) := by decide +kernel
theorem dX8_add_80 : decode cX8_add 80 = .ok (.iload_n 3, 1) := by decide +kernel
theorem dX8_add_81 : decode cX8_add 81 = .ok (.iconst 0, 1) := by decide +kernel
theorem dX8_add_82 : decode cX8_add 82 = .ok (.iastore, 1) := by decide +kernel
theorem dX8_add_83 : decode cX8_add 83 = .ok (.aload_n 0, 1) := by decide +kernel
theorem dX8_add_84 : decode cX8_add 84 = .ok (.getfield 36, 3) := by decide +kernel
theorem dX8_add_87 : decode cX8_add 87 = .ok (.iload_n 3, 1) := by decide +kernel
theorem dX8_add_88 : decode cX8_add 88 = .ok (.lconst 0, 1) := by decide +kernel
theorem dX8_add_89 : decode cX8_add 89 = .ok (.lastore, 1) := by decide +kernel
theorem dX8_add_90 : decode cX8_add 90 = .ok (.aload_n 0, 1) := by decide +kernel
theorem dX8_add_91 : decode cX8_add 91 = .ok (.getfield 40, 3) := by decide +kernel
theorem dX8_add_94 : decode cX8_add 94 = .ok (.iload_n 3, 1) := by decide +kernel
theorem dX8_add_95 : decode cX8_add 95 = .ok (.iconst 0, 1) := by decide +kernel
theorem dX8_add_96 : decode cX8_add 96 = .ok (.iastore, 1) := by decide +kernel
theorem dX8_add_97 : decode cX8_add 97 = .ok (.aload_n 0, 1) := by decide +kernel
theorem dX8_add_98 : decode cX8_add 98 = .ok (.getfield 43, 3) := by decide +kernel
theorem dX8_add_101 : decode cX8_add 101 = .ok (.iload_n 3, 1) := by decide +kernel
theorem dX8_add_102 : decode cX8_add 102 = .ok (.iconst 0, 1) := by decide +kernel
theorem dX8_add_103 : decode cX8_add 103 = .ok (.iastore, 1) := by decide +kernel
theorem dX8_add_104 : decode cX8_add 104 = .ok (.iload_n 3, 1) := by decide +kernel
theorem dX8_add_105 : decode cX8_add 105 = .ok (.ireturn, 1) := by decide +kernel
theorem dX8_clear_0 : decode cX8_clear 0 = .ok (.aload_n 0, 1) := by decide +kernel
theorem dX8_clear_1 : decode cX8_clear 1 = .ok (.iconst 1, 1) := by decide +kernel
theorem dX8_clear_2 : decode cX8_clear 2 = .ok (.putfield 46, 3) := by decide +kernel
theorem dX8_clear_5 : decode cX8_clear 5 = .ok (.return_, 1) := by decide +kernel
section G7
variable {X : GX} {cc : ByteArray} {nL : Nat} {own : String} {ret : Option FieldType} {a b : Nat} {ws : va_W} {lv : List (Nat × Value)} {pc z : Nat} {st : List Value}
theorem g_copyB {index o0 o1 n0 n1 fr lo mc ms : Nat} {f g : Nat → Int32} {sp dp n : Int32} {w2 : va_W} (C : GC X cc nL own ret) (hR : GR X fr lo mc ms) (hdg : decode cc pc = .ok (.invokestatic index, 3)) (hlk : Cond.methodLink own index arraycopyName ∈ TBL) (hnat : Cond.native arraycopyName ∈ TBL) (hstt : Cond.static arraycopyName ∈ TBL) (hini : Cond.initialized "java/lang/System" ∈ TBL) (j0 j1 : Nat) (he0 : ws[j0]? = some (o0, .inl (gK X 2, n0, .inl f))) (he1 : ws[j1]? = some (o1, .inl (gK X 2, n1, .inl g))) (h1 : ¬ sp < 0) (h2 : ¬ dp < 0) (h3 : ¬ n < 0) (h4 : sp.toNatClampNeg + n.toNatClampNeg ≤ n0) (h5 : dp.toNatClampNeg + n.toNatClampNeg ≤ n1) (hfit : ∀ i, i < n.toNatClampNeg → fits .byte (.int (f (sp.toNatClampNeg + i))) = true) (hfr : 1 ≤ fr) (hlo : (st.map fun v => v.category).sum + (nativeFrameWords "java/lang/System" "arraycopy" 5 + 11) ≤ lo) (hw2 : ws.set j1 (o1, .inl (gK X 2, n1, .inl (va_cpy f g sp.toNatClampNeg dp.toNatClampNeg n.toNatClampNeg))) = w2) (hz : pc + 3 = z) (k : G X a b w2 lv z st) : G X a b ws lv pc (.int n :: .int dp :: .ref o1 :: .int sp :: .ref o0 :: st) := fun H locs ls hP hD hS hl => by
  subst hz; subst hw2
  exact va_copyi C.1 C.2.1 (C.2.2.2.1.trans (C.2.2.2.2.1.symm.trans hl.1.symm)) C.2.2.2.2.2.1 (C.2.2.2.2.2.2.1 _ hlk) (C.2.2.2.2.2.2.1 _ hnat) (C.2.2.2.2.2.2.1 _ hstt) (C.2.2.2.2.2.2.1 _ hini) C.2.2.2.2.2.2.2.1 hP hD hS j0 j1 2 2 he0 he1 rfl rfl rfl h1 h2 h3 h4 h5 hfit (by rw [hR]; exact hfr) (by rw [hR]; exact hlo) hdg (fun H locs hP hD hS => k H locs ls hP hD hS hl)
theorem g_min {index fr lo mc ms : Nat} {x y v : Int32} (C : GC X cc nL own ret) (hR : GR X fr lo mc ms) (hdg : decode cc pc = .ok (.invokestatic index, 3)) (hlk : Cond.methodLink own index Lib.Math.min.name ∈ TBL) (hstt : Cond.static Lib.Math.min.name ∈ TBL) (hini : Cond.initialized "java/lang/Math" ∈ TBL) (hcd : Cond.code Lib.Math.min.name Lib.Math.min.code 2 (some .int) ∈ TBL) (hfr : 1 ≤ fr) (hlo : (st.map fun v => v.category).sum + 13 ≤ lo) (ha : a ≤ mc) (hb : b ≤ ms) (hv : (if y < x then y else x) = v) (hz : pc + 3 = z) (k : G X a b ws lv z (.int v :: st)) : G X a b ws lv pc (.int y :: .int x :: st) := fun H locs ls hP hD hS hl => by
  subst hz; subst hv
  exact va_mmin C.1 C.2.1 (C.2.2.2.1.trans (C.2.2.2.2.1.symm.trans hl.1.symm)) C.2.2.2.2.2.1 (C.2.2.2.2.2.2.1 _ hlk) (C.2.2.2.2.2.2.1 _ hstt) (C.2.2.2.2.2.2.1 _ hini) (C.2.2.2.2.2.2.1 _ hcd) (by rw [hR]; exact hfr) (by rw [hR]; exact hlo) (by rw [hR]; exact ha) (by rw [hR]; exact hb) hdg (k H locs ls hP hD hS hl)
end G7
set_option maxHeartbeats 4000000 in
set_option maxRecDepth 100000 in
/-- takeWords: it ends, within its rows -/
theorem k_takeWords (l : Launch) (D : va_G) (K : KS) (h0 h1 pP pS pL pN pH pK pO pV : Nat) (xat xend xtok xcur xkind xpos xopen xwrong : Int32) (xn : Int32) (f fS fL fN fH : Nat → Int32) : Con l D K yX6_takeWords cX6_takeWords 3 none 4 85 0 0 [.ref h0] [(h0, .inr (2, [.ref h1, .ref pP, .ref pS, .ref pL, .ref pN, .ref pH, .int xn, .int xat, .int xend, .ref pK, .ref pO, .ref pV, .int xtok, .int xcur, .int xkind, .int xpos, .int xopen, .int xwrong])), (pP, .inl (K 2, 3157, .inl (f))), (pS, .inl (K 0, 1544, .inl (fS))), (pL, .inl (K 0, 1544, .inl (fL))), (pN, .inl (K 0, 1544, .inl (fN))), (pH, .inl (K 0, 256, .inl (fH)))] (fun v w => v = none ∧ ∃ (n : Nat) (gS gL gN gH : Nat → Int32), w = [(h0, .inr (2, [.ref h1, .ref pP, .ref pS, .ref pL, .ref pN, .ref pH, .int (nI n), .int xat, .int xend, .ref pK, .ref pO, .ref pV, .int xtok, .int xcur, .int xkind, .int xpos, .int xopen, .int xwrong])), (pP, .inl (K 2, 3157, .inl (f))), (pS, .inl (K 0, 1544, .inl (gS))), (pL, .inl (K 0, 1544, .inl (gL))), (pN, .inl (K 0, 1544, .inl (gN))), (pH, .inl (K 0, 256, .inl (gH)))]) := by
  refine Con.of (by decide +kernel) (Nat.le_of_ble_eq_true rfl) ?_
  intro X hXl hXD hXK C hR hQ hnm
  subst hXl; subst hXD; subst hXK
  refine g_lv (l2 := [(0, .ref h0)]) [0] rfl ?_
  refine g_aload_n (z := 1) C dX6_takeWords_0 0 rfl rfl rfl ?_
  refine g_iconst (v := 0) (z := 2) C dX6_takeWords_1 (by decide) rfl ?_
  refine g_put (w2 := [(h0, .inr (2, [.ref h1, .ref pP, .ref pS, .ref pL, .ref pN, .ref pH, .int 0, .int xat, .int xend, .ref pK, .ref pO, .ref pV, .int xtok, .int xcur, .int xkind, .int xpos, .int xopen, .int xwrong])), (pP, .inl (gK X 2, 3157, .inl (f))), (pS, .inl (gK X 0, 1544, .inl (fS))), (pL, .inl (gK X 0, 1544, .inl (fL))), (pN, .inl (gK X 0, 1544, .inl (fN))), (pH, .inl (gK X 0, 256, .inl (fH)))]) (z := 5) C kX6 dX6_takeWords_2 0 rfl 6 (by decide) w_162 rfl rfl rfl rfl (Nat.le_of_ble_eq_true rfl) rfl rfl ?_
  refine g_iconst (v := 0) (z := 6) C dX6_takeWords_5 (by decide) rfl ?_
  refine g_istore_n (l2 := [(1, .int 0), (0, .ref h0)]) (z := 7) C dX6_takeWords_6 rfl (by decide) rfl rfl ?_
  have first : ∀ (k i : Nat) (x : Int32) (gH : Nat → Int32), x = nI i → i ≤ 256 → 257 ≤ i + k → (∀ j, j < i → gH j = -1) → G X 0 0 [(h0, .inr (2, [.ref h1, .ref pP, .ref pS, .ref pL, .ref pN, .ref pH, .int 0, .int xat, .int xend, .ref pK, .ref pO, .ref pV, .int xtok, .int xcur, .int xkind, .int xpos, .int xopen, .int xwrong])), (pP, .inl (gK X 2, 3157, .inl (f))), (pS, .inl (gK X 0, 1544, .inl (fS))), (pL, .inl (gK X 0, 1544, .inl (fL))), (pN, .inl (gK X 0, 1544, .inl (fN))), (pH, .inl (gK X 0, 256, .inl (gH)))] [(1, .int x), (0, .ref h0)] 7 [] := by
    intro k
    induction k with
    | zero => intro i x gH _ u1 u2; omega
    | succ k ih =>
      intro i x gH hx u1 u2 u3
      subst hx
      refine g_iload_n (z := 8) C dX6_takeWords_7 0 rfl rfl rfl ?_
      refine g_aload_n (z := 9) C dX6_takeWords_8 1 rfl rfl rfl ?_
      refine g_get (z := 12) C kX6 dX6_takeWords_9 0 rfl 5 (by decide) w_136 rfl rfl rfl ?_
      refine g_alen (v := 256) (z := 13) C dX6_takeWords_12 5 rfl 0 rfl (by decide) rfl ?_
      refine g_icmp_ge (z2 := 29) (z := 16) C dX6_takeWords_13 (by decide) rfl (fun hc => ?_) (fun hc => ?_)
      · have hi : i = 256 := by
          rcases Nat.lt_or_ge i 256 with q | q
          · exact absurd hc (nI_ge (a := i) (b := 256) q (by omega))
          · omega
        have hI0 : RI 0 fS fL fN gH := ⟨by omega, fun k hk => by omega, fun k hk => by omega, fun k hk => Or.inl (u3 k (by omega))⟩
        refine g_iconst (v := 0) (z := 30) C dX6_takeWords_29 (by decide) rfl ?_
        refine g_istore_n (l2 := [(1, .int 0), (0, .ref h0)]) (z := 31) C dX6_takeWords_30 rfl (by decide) rfl rfl ?_
        refine g_iconst (v := 0) (z := 32) C dX6_takeWords_31 (by decide) rfl ?_
        refine g_istore_n (l2 := [(2, .int 0), (1, .int 0), (0, .ref h0)]) (z := 33) C dX6_takeWords_32 rfl (by decide) rfl rfl ?_
        refine g_lv (l2 := [(2, .int 0), (1, .int 0), (0, .ref h0)]) [0, 1, 2] rfl ?_
        have second : ∀ (k i : Nat) (x y : Int32) (s n : Nat) (gS gL gN gG : Nat → Int32), x = nI i → y = nI s → i ≤ 158 → 159 ≤ i + k → s ≤ i → n ≤ i → RI n gS gL gN gG → G X 0 0 [(h0, .inr (2, [.ref h1, .ref pP, .ref pS, .ref pL, .ref pN, .ref pH, .int (nI n), .int xat, .int xend, .ref pK, .ref pO, .ref pV, .int xtok, .int xcur, .int xkind, .int xpos, .int xopen, .int xwrong])), (pP, .inl (gK X 2, 3157, .inl (f))), (pS, .inl (gK X 0, 1544, .inl (gS))), (pL, .inl (gK X 0, 1544, .inl (gL))), (pN, .inl (gK X 0, 1544, .inl (gN))), (pH, .inl (gK X 0, 256, .inl (gG)))] [(2, .int x), (1, .int y), (0, .ref h0)] 33 [] := by
          intro k
          induction k with
          | zero => intro i x y s n gS gL gN gG _ _ u1 u2; omega
          | succ k ih =>
            intro i x y s n gS gL gN gG hx hy u1 u2 hs hn hI
            subst hx; subst hy
            refine g_iload_n (z := 34) C dX6_takeWords_33 0 rfl rfl rfl ?_
            refine g_ldcS (z := 36) C dX6_takeWords_34 (evW C) rfl ?_
            refine g_callVE (n := 0) (As := []) (rest := [.int (nI i)]) (wr := [(h0, .inr (2, [.ref h1, .ref pP, .ref pS, .ref pL, .ref pN, .ref pH, .int (nI n), .int xat, .int xend, .ref pK, .ref pO, .ref pV, .int xtok, .int xcur, .int xkind, .int xpos, .int xopen, .int xwrong])), (pP, .inl (gK X 2, 3157, .inl (f))), (pS, .inl (gK X 0, 1544, .inl (gS))), (pL, .inl (gK X 0, 1544, .inl (gL))), (pN, .inl (gK X 0, 1544, .inl (gN))), (pH, .inl (gK X 0, 256, .inl (gG)))]) (a2 := 0) (b2 := 0) (z := 39) C hR (k_lengthW (gl X) (gD X) (gK X)) dX6_takeWords_36 w_131 w_737 w_738 w_736 w_391 ⟨by decide +kernel, by decide +kernel, by decide +kernel⟩ [] [0, 1, 2, 3, 4, 5] rfl rfl rfl rfl rfl (by decide) ⟨(Nat.le_of_ble_eq_true rfl), (Nat.le_of_ble_eq_true rfl)⟩ rfl rfl (Nat.le_of_ble_eq_true rfl) (Nat.le_of_ble_eq_true rfl) (Nat.le_of_ble_eq_true rfl) rfl rfl (evWo C) rfl rfl rfl (fun v ws' hp => ?_)
            obtain ⟨rfl, rfl⟩ := hp
            refine g_ws (w2 := [(h0, .inr (2, [.ref h1, .ref pP, .ref pS, .ref pL, .ref pN, .ref pH, .int (nI n), .int xat, .int xend, .ref pK, .ref pO, .ref pV, .int xtok, .int xcur, .int xkind, .int xpos, .int xopen, .int xwrong])), (pP, .inl (gK X 2, 3157, .inl (f))), (pS, .inl (gK X 0, 1544, .inl (gS))), (pL, .inl (gK X 0, 1544, .inl (gL))), (pN, .inl (gK X 0, 1544, .inl (gN))), (pH, .inl (gK X 0, 256, .inl (gG)))]) rfl ?_
            refine g_st (s2 := [.int 157, .int (nI i)]) rfl ?_
            refine g_icmp_gt (z2 := 81) (z := 42) C dX6_takeWords_39 (by decide) rfl (fun hc => ?_) (fun hc => ?_)
            · exact g_vret C hQ dX6_takeWords_81 (Nat.le_of_ble_eq_true rfl) (Nat.le_of_ble_eq_true rfl) ⟨rfl, n, gS, gL, gN, gG, rfl⟩
            · have hi : i ≤ 157 := by
                rcases Nat.lt_or_ge 157 i with q | q
                · exact absurd (nI_lt (a := 157) (b := i) q (by omega)) hc
                · exact q
              refine g_iload_n (z := 43) C dX6_takeWords_42 0 rfl rfl rfl ?_
              refine g_ldcS (z := 45) C dX6_takeWords_43 (evW C) rfl ?_
              refine g_callVE (n := 0) (As := []) (rest := [.int (nI i)]) (wr := [(h0, .inr (2, [.ref h1, .ref pP, .ref pS, .ref pL, .ref pN, .ref pH, .int (nI n), .int xat, .int xend, .ref pK, .ref pO, .ref pV, .int xtok, .int xcur, .int xkind, .int xpos, .int xopen, .int xwrong])), (pP, .inl (gK X 2, 3157, .inl (f))), (pS, .inl (gK X 0, 1544, .inl (gS))), (pL, .inl (gK X 0, 1544, .inl (gL))), (pN, .inl (gK X 0, 1544, .inl (gN))), (pH, .inl (gK X 0, 256, .inl (gG)))]) (a2 := 0) (b2 := 0) (z := 48) C hR (k_lengthW (gl X) (gD X) (gK X)) dX6_takeWords_45 w_131 w_737 w_738 w_736 w_391 ⟨by decide +kernel, by decide +kernel, by decide +kernel⟩ [] [0, 1, 2, 3, 4, 5] rfl rfl rfl rfl rfl (by decide) ⟨(Nat.le_of_ble_eq_true rfl), (Nat.le_of_ble_eq_true rfl)⟩ rfl rfl (Nat.le_of_ble_eq_true rfl) (Nat.le_of_ble_eq_true rfl) (Nat.le_of_ble_eq_true rfl) rfl rfl (evWo C) rfl rfl rfl (fun v ws' hp => ?_)
              obtain ⟨rfl, rfl⟩ := hp
              refine g_ws (w2 := [(h0, .inr (2, [.ref h1, .ref pP, .ref pS, .ref pL, .ref pN, .ref pH, .int (nI n), .int xat, .int xend, .ref pK, .ref pO, .ref pV, .int xtok, .int xcur, .int xkind, .int xpos, .int xopen, .int xwrong])), (pP, .inl (gK X 2, 3157, .inl (f))), (pS, .inl (gK X 0, 1544, .inl (gS))), (pL, .inl (gK X 0, 1544, .inl (gL))), (pN, .inl (gK X 0, 1544, .inl (gN))), (pH, .inl (gK X 0, 256, .inl (gG)))]) rfl ?_
              refine g_st (s2 := [.int 157, .int (nI i)]) rfl ?_
              refine g_icmp_eq (z2 := 62) (z := 51) C dX6_takeWords_48 (by decide) rfl (fun he => ?_) (fun he => ?_)
              · refine g_aload_n (z := 63) C dX6_takeWords_62 2 rfl rfl rfl ?_
                refine g_iload_n (z := 64) C dX6_takeWords_63 1 rfl rfl rfl ?_
                refine g_iload_n (z := 65) C dX6_takeWords_64 0 rfl rfl rfl ?_
                refine g_iload_n (z := 66) C dX6_takeWords_65 1 rfl rfl rfl ?_
                refine g_isub (v := nI (i - s)) (z := 67) C dX6_takeWords_66 (pk_sub hs) rfl ?_
                refine g_callV (n := 2) (As := [.int (nI s), .int (nI (i - s))]) (rest := []) (wr := []) (a2 := 0) (b2 := 0) (z := 70) C hR (k_nameOf (gl X) (gD X) (gK X) h0 h1 pP pS pL pN pH pK pO pV xat xend xtok xcur xkind xpos xopen xwrong f gS gL gN gG n s (i - s) hI (by omega) (by omega)) dX6_takeWords_67 w_163 w_165 w_166 w_164 w_16 ⟨by decide +kernel, by decide +kernel, by decide +kernel⟩ [0, 1, 2, 3, 4, 5] [] rfl rfl rfl rfl rfl (by decide) ⟨(Nat.le_of_ble_eq_true rfl), (Nat.le_of_ble_eq_true rfl)⟩ rfl rfl (Nat.le_of_ble_eq_true rfl) (Nat.le_of_ble_eq_true rfl) (Nat.le_of_ble_eq_true rfl) rfl rfl 0 kX6 rfl rfl rfl rfl (fun v ws' hp => ?_)
                obtain ⟨r, n2, jS, jL, jN, jG, hn2, hI2, rfl, rfl⟩ := hp
                refine g_ws (w2 := [(h0, .inr (2, [.ref h1, .ref pP, .ref pS, .ref pL, .ref pN, .ref pH, .int (nI n2), .int xat, .int xend, .ref pK, .ref pO, .ref pV, .int xtok, .int xcur, .int xkind, .int xpos, .int xopen, .int xwrong])), (pP, .inl (gK X 2, 3157, .inl (f))), (pS, .inl (gK X 0, 1544, .inl (jS))), (pL, .inl (gK X 0, 1544, .inl (jL))), (pN, .inl (gK X 0, 1544, .inl (jN))), (pH, .inl (gK X 0, 256, .inl (jG)))]) rfl ?_
                refine g_st (s2 := [.int r]) rfl ?_
                refine g_pop (z := 71) C dX6_takeWords_70 rfl rfl ?_
                refine g_iload_n (z := 72) C dX6_takeWords_71 0 rfl rfl rfl ?_
                refine g_iconst (v := 1) (z := 73) C dX6_takeWords_72 (by decide) rfl ?_
                refine g_iadd (v := nI (i + 1)) (z := 74) C dX6_takeWords_73 (nI_1 i) rfl ?_
                refine g_istore_n (l2 := [(1, .int (nI (i + 1))), (2, .int (nI i)), (0, .ref h0)]) (z := 75) C dX6_takeWords_74 rfl (by decide) rfl rfl ?_
                refine g_iinc (v := ((nI i) + 1)) (l2 := [(2, .int ((nI i) + 1)), (1, .int (nI (i + 1))), (0, .ref h0)]) (z := 78) C dX6_takeWords_75 1 rfl (by rfl) (by decide) rfl rfl ?_
                refine g_goto (z := 33) C dX6_takeWords_78 (by decide) ?_
                refine g_lv (l2 := [(2, .int ((nI i) + 1)), (1, .int (nI (i + 1))), (0, .ref h0)]) [0, 1, 2] rfl ?_
                exact ih (i + 1) _ _ (i + 1) n2 _ _ _ _ (nI_1 i) rfl (by omega) (by omega) (by omega) (by omega) hI2
              · have hi2 : i < 157 := by
                  rcases Nat.lt_or_ge i 157 with q | q
                  · exact q
                  · exact absurd (show nI i = 157 from by rw [show i = 157 by omega]; rfl) he
                refine g_ldcS (z := 53) C dX6_takeWords_51 (evW C) rfl ?_
                refine g_iload_n (z := 54) C dX6_takeWords_53 0 rfl rfl rfl ?_
                refine g_callVE (n := 1) (As := [.int (nI i)]) (rest := []) (wr := [(h0, .inr (2, [.ref h1, .ref pP, .ref pS, .ref pL, .ref pN, .ref pH, .int (nI n), .int xat, .int xend, .ref pK, .ref pO, .ref pV, .int xtok, .int xcur, .int xkind, .int xpos, .int xopen, .int xwrong])), (pP, .inl (gK X 2, 3157, .inl (f))), (pS, .inl (gK X 0, 1544, .inl (gS))), (pL, .inl (gK X 0, 1544, .inl (gL))), (pN, .inl (gK X 0, 1544, .inl (gN))), (pH, .inl (gK X 0, 256, .inl (gG)))]) (a2 := 0) (b2 := 0) (z := 57) C hR (k_charW (gl X) (gD X) (gK X) i hi2) dX6_takeWords_54 w_141 w_741 w_742 w_740 w_391 ⟨by decide +kernel, by decide +kernel, by decide +kernel⟩ [] [0, 1, 2, 3, 4, 5] rfl rfl rfl rfl rfl (by decide) ⟨(Nat.le_of_ble_eq_true rfl), (Nat.le_of_ble_eq_true rfl)⟩ rfl rfl (Nat.le_of_ble_eq_true rfl) (Nat.le_of_ble_eq_true rfl) (Nat.le_of_ble_eq_true rfl) rfl rfl (evWo C) rfl rfl rfl (fun v ws' hp => ?_)
                obtain ⟨⟨r, rfl⟩, rfl⟩ := hp
                refine g_ws (w2 := [(h0, .inr (2, [.ref h1, .ref pP, .ref pS, .ref pL, .ref pN, .ref pH, .int (nI n), .int xat, .int xend, .ref pK, .ref pO, .ref pV, .int xtok, .int xcur, .int xkind, .int xpos, .int xopen, .int xwrong])), (pP, .inl (gK X 2, 3157, .inl (f))), (pS, .inl (gK X 0, 1544, .inl (gS))), (pL, .inl (gK X 0, 1544, .inl (gL))), (pN, .inl (gK X 0, 1544, .inl (gN))), (pH, .inl (gK X 0, 256, .inl (gG)))]) rfl ?_
                refine g_st (s2 := [.int r]) rfl ?_
                refine g_bipush (v := 32) (z := 59) C dX6_takeWords_57 (by decide) rfl ?_
                refine g_icmp_ne (z2 := 75) (z := 62) C dX6_takeWords_59 (by decide) rfl (fun hb => ?_) (fun hb => ?_)
                · refine g_iinc (v := ((nI i) + 1)) (l2 := [(2, .int ((nI i) + 1)), (1, .int (nI s)), (0, .ref h0)]) (z := 78) C dX6_takeWords_75 0 rfl (by rfl) (by decide) rfl rfl ?_
                  refine g_goto (z := 33) C dX6_takeWords_78 (by decide) ?_
                  refine g_lv (l2 := [(2, .int ((nI i) + 1)), (1, .int (nI s)), (0, .ref h0)]) [0, 1, 2] rfl ?_
                  exact ih (i + 1) _ _ s n _ _ _ _ (nI_1 i) rfl (by omega) (by omega) (by omega) (by omega) hI
                · refine g_aload_n (z := 63) C dX6_takeWords_62 2 rfl rfl rfl ?_
                  refine g_iload_n (z := 64) C dX6_takeWords_63 1 rfl rfl rfl ?_
                  refine g_iload_n (z := 65) C dX6_takeWords_64 0 rfl rfl rfl ?_
                  refine g_iload_n (z := 66) C dX6_takeWords_65 1 rfl rfl rfl ?_
                  refine g_isub (v := nI (i - s)) (z := 67) C dX6_takeWords_66 (pk_sub hs) rfl ?_
                  refine g_callV (n := 2) (As := [.int (nI s), .int (nI (i - s))]) (rest := []) (wr := []) (a2 := 0) (b2 := 0) (z := 70) C hR (k_nameOf (gl X) (gD X) (gK X) h0 h1 pP pS pL pN pH pK pO pV xat xend xtok xcur xkind xpos xopen xwrong f gS gL gN gG n s (i - s) hI (by omega) (by omega)) dX6_takeWords_67 w_163 w_165 w_166 w_164 w_16 ⟨by decide +kernel, by decide +kernel, by decide +kernel⟩ [0, 1, 2, 3, 4, 5] [] rfl rfl rfl rfl rfl (by decide) ⟨(Nat.le_of_ble_eq_true rfl), (Nat.le_of_ble_eq_true rfl)⟩ rfl rfl (Nat.le_of_ble_eq_true rfl) (Nat.le_of_ble_eq_true rfl) (Nat.le_of_ble_eq_true rfl) rfl rfl 0 kX6 rfl rfl rfl rfl (fun v ws' hp => ?_)
                  obtain ⟨r, n2, jS, jL, jN, jG, hn2, hI2, rfl, rfl⟩ := hp
                  refine g_ws (w2 := [(h0, .inr (2, [.ref h1, .ref pP, .ref pS, .ref pL, .ref pN, .ref pH, .int (nI n2), .int xat, .int xend, .ref pK, .ref pO, .ref pV, .int xtok, .int xcur, .int xkind, .int xpos, .int xopen, .int xwrong])), (pP, .inl (gK X 2, 3157, .inl (f))), (pS, .inl (gK X 0, 1544, .inl (jS))), (pL, .inl (gK X 0, 1544, .inl (jL))), (pN, .inl (gK X 0, 1544, .inl (jN))), (pH, .inl (gK X 0, 256, .inl (jG)))]) rfl ?_
                  refine g_st (s2 := [.int r]) rfl ?_
                  refine g_pop (z := 71) C dX6_takeWords_70 rfl rfl ?_
                  refine g_iload_n (z := 72) C dX6_takeWords_71 0 rfl rfl rfl ?_
                  refine g_iconst (v := 1) (z := 73) C dX6_takeWords_72 (by decide) rfl ?_
                  refine g_iadd (v := nI (i + 1)) (z := 74) C dX6_takeWords_73 (nI_1 i) rfl ?_
                  refine g_istore_n (l2 := [(1, .int (nI (i + 1))), (2, .int (nI i)), (0, .ref h0)]) (z := 75) C dX6_takeWords_74 rfl (by decide) rfl rfl ?_
                  refine g_iinc (v := ((nI i) + 1)) (l2 := [(2, .int ((nI i) + 1)), (1, .int (nI (i + 1))), (0, .ref h0)]) (z := 78) C dX6_takeWords_75 1 rfl (by rfl) (by decide) rfl rfl ?_
                  refine g_goto (z := 33) C dX6_takeWords_78 (by decide) ?_
                  refine g_lv (l2 := [(2, .int ((nI i) + 1)), (1, .int (nI (i + 1))), (0, .ref h0)]) [0, 1, 2] rfl ?_
                  exact ih (i + 1) _ _ (i + 1) n2 _ _ _ _ (nI_1 i) rfl (by omega) (by omega) (by omega) (by omega) hI2
        exact second 159 0 0 0 0 0 _ _ _ _ nI_0.symm nI_0.symm (by omega) (by omega) (by omega) (by omega) hI0
      · have hi : i < 256 := by
          rcases Nat.lt_or_ge i 256 with q | q
          · exact q
          · exact absurd (nI_le (a := 256) (b := i) q (by omega)) hc
        refine g_aload_n (z := 17) C dX6_takeWords_16 1 rfl rfl rfl ?_
        refine g_get (z := 20) C kX6 dX6_takeWords_17 0 rfl 5 (by decide) w_136 rfl rfl rfl ?_
        refine g_iload_n (z := 21) C dX6_takeWords_20 0 rfl rfl rfl ?_
        refine g_iconst (v := (-1)) (z := 22) C dX6_takeWords_21 (by decide) rfl ?_
        refine g_iast (w2 := [(h0, .inr (2, [.ref h1, .ref pP, .ref pS, .ref pL, .ref pN, .ref pH, .int 0, .int xat, .int xend, .ref pK, .ref pO, .ref pV, .int xtok, .int xcur, .int xkind, .int xpos, .int xopen, .int xwrong])), (pP, .inl (gK X 2, 3157, .inl (f))), (pS, .inl (gK X 0, 1544, .inl (fS))), (pL, .inl (gK X 0, 1544, .inl (fL))), (pN, .inl (gK X 0, 1544, .inl (fN))), (pH, .inl (gK X 0, 256, .inl (upd (gH) ((nI i) : Int32).toNatClampNeg (-1))))]) (z := 23) C dX6_takeWords_22 5 rfl (vp_in_nI (by omega) (by omega)) rfl rfl ?_
        rw [nI_clamp (by omega : i < 2 ^ 31)]
        refine g_iinc (v := ((nI i) + 1)) (l2 := [(1, .int ((nI i) + 1)), (0, .ref h0)]) (z := 26) C dX6_takeWords_23 0 rfl (by rfl) (by decide) rfl rfl ?_
        refine g_goto (z := 7) C dX6_takeWords_26 (by decide) ?_
        refine ih (i + 1) _ _ (nI_1 i) (by omega) (by omega) ?_
        intro j hj
        by_cases e : j = i
        · rw [e, pk_us]
        · rw [pk_un e]; exact u3 j (by omega)
  exact first 257 0 0 _ nI_0.symm (by omega) (by omega) (fun j hj => by omega)
set_option maxHeartbeats 4000000 in
set_option maxRecDepth 100000 in
/-- skipBlanks at the end -/
theorem k_skip (l : Launch) (D : va_G) (K : KS) (h0 h1 pP pS pL pN pH pK pO pV : Nat) (xat xend xtok xcur xkind xpos xopen xwrong : Int32) (xn : Int32) : Con l D K yX6_skipBlanks cX6_skipBlanks 5 none 0 0 0 0 [.ref h0] [(h0, .inr (2, [.ref h1, .ref pP, .ref pS, .ref pL, .ref pN, .ref pH, .int xn, .int 157, .int 157, .ref pK, .ref pO, .ref pV, .int xtok, .int xcur, .int xkind, .int xpos, .int xopen, .int xwrong]))] (fun v w => v = none ∧ w = [(h0, .inr (2, [.ref h1, .ref pP, .ref pS, .ref pL, .ref pN, .ref pH, .int xn, .int 157, .int 157, .ref pK, .ref pO, .ref pV, .int xtok, .int xcur, .int xkind, .int xpos, .int xopen, .int xwrong]))]) := by
  refine Con.of (by decide +kernel) (Nat.le_of_ble_eq_true rfl) ?_
  intro X hXl hXD hXK C hR hQ hnm
  subst hXl; subst hXD; subst hXK
  refine g_lv (l2 := [(0, .ref h0)]) [0] rfl ?_
  refine g_iconst (v := 0) (z := 1) C dX6_skipBlanks_0 (by decide) rfl ?_
  refine g_istore_n (l2 := [(1, .int 0), (0, .ref h0)]) (z := 2) C dX6_skipBlanks_1 rfl (by decide) rfl rfl ?_
  refine g_aload_n (z := 3) C dX6_skipBlanks_2 1 rfl rfl rfl ?_
  refine g_get (z := 6) C kX6 dX6_skipBlanks_3 0 rfl 7 (by decide) w_149 rfl rfl rfl ?_
  refine g_aload_n (z := 7) C dX6_skipBlanks_6 1 rfl rfl rfl ?_
  refine g_get (z := 10) C kX6 dX6_skipBlanks_7 0 rfl 8 (by decide) w_150 rfl rfl rfl ?_
  refine g_icmp_ge_t (z := 127) C dX6_skipBlanks_10 (by decide) (by decide) ?_
  exact g_vret C hQ dX6_skipBlanks_127 (Nat.le_of_ble_eq_true rfl) (Nat.le_of_ble_eq_true rfl) ⟨rfl, rfl⟩
set_option maxHeartbeats 4000000 in
set_option maxRecDepth 100000 in
/-- takeTokens of no bytes: the end alone -/
theorem k_takeTokens (l : Launch) (D : va_G) (K : KS) (h0 h1 pP pS pL pN pH pK pO pV : Nat) (xat xend xtok xcur xkind xpos xopen xwrong : Int32) (xn : Int32) : Con l D K yX6_takeTokens cX6_takeTokens 3 none 2 40 0 0 [.ref h0] [(h0, .inr (2, [.ref h1, .ref pP, .ref pS, .ref pL, .ref pN, .ref pH, .int xn, .int 157, .int 157, .ref pK, .ref pO, .ref pV, .int xtok, .int xcur, .int xkind, .int xpos, .int xopen, .int xwrong])), (pK, .inl (K 0, 3001, .inl (fun _ => 0))), (pO, .inl (K 0, 3001, .inl (fun _ => 0)))] (fun v w => v = none ∧ w = [(h0, .inr (2, [.ref h1, .ref pP, .ref pS, .ref pL, .ref pN, .ref pH, .int xn, .int 157, .int 157, .ref pK, .ref pO, .ref pV, .int 1, .int xcur, .int xkind, .int xpos, .int xopen, .int xwrong])), (pK, .inl (K 0, 3001, .inl (upd (fun _ => 0) (0 : Int32).toNatClampNeg 0))), (pO, .inl (K 0, 3001, .inl (upd (fun _ => 0) (0 : Int32).toNatClampNeg 0)))]) := by
  refine Con.of (by decide +kernel) (Nat.le_of_ble_eq_true rfl) ?_
  intro X hXl hXD hXK C hR hQ hnm
  subst hXl; subst hXD; subst hXK
  refine g_lv (l2 := [(0, .ref h0)]) [0] rfl ?_
  refine g_aload_n (z := 1) C dX6_takeTokens_0 0 rfl rfl rfl ?_
  refine g_iconst (v := 0) (z := 2) C dX6_takeTokens_1 (by decide) rfl ?_
  refine g_put (w2 := [(h0, .inr (2, [.ref h1, .ref pP, .ref pS, .ref pL, .ref pN, .ref pH, .int xn, .int 157, .int 157, .ref pK, .ref pO, .ref pV, .int 0, .int xcur, .int xkind, .int xpos, .int xopen, .int xwrong])), (pK, .inl (gK X 0, 3001, .inl (fun _ => 0))), (pO, .inl (gK X 0, 3001, .inl (fun _ => 0)))]) (z := 5) C kX6 dX6_takeTokens_2 0 rfl 12 (by decide) w_174 rfl rfl rfl rfl (Nat.le_of_ble_eq_true rfl) rfl rfl ?_
  refine g_iconst (v := 1) (z := 6) C dX6_takeTokens_5 (by decide) rfl ?_
  refine g_istore_n (l2 := [(1, .int 1), (0, .ref h0)]) (z := 7) C dX6_takeTokens_6 rfl (by decide) rfl rfl ?_
  refine g_iconst (v := 0) (z := 8) C dX6_takeTokens_7 (by decide) rfl ?_
  refine g_istore_n (l2 := [(2, .int 0), (1, .int 1), (0, .ref h0)]) (z := 9) C dX6_takeTokens_8 rfl (by decide) rfl rfl ?_
  refine g_iload_n (z := 10) C dX6_takeTokens_9 0 rfl rfl rfl ?_
  refine g_sipush (v := 3000) (z := 13) C dX6_takeTokens_10 (by decide) rfl ?_
  refine g_icmp_gt_f (z := 16) 140 C dX6_takeTokens_13 (by decide) (by decide) rfl ?_
  refine g_iload_n (z := 17) C dX6_takeTokens_16 1 rfl rfl rfl ?_
  refine g_if_eq_f (z := 20) 140 C dX6_takeTokens_17 (by decide) (by decide) rfl ?_
  refine g_iload_n (z := 21) C dX6_takeTokens_20 1 rfl rfl rfl ?_
  refine g_iconst (v := 3) (z := 22) C dX6_takeTokens_21 (by decide) rfl ?_
  refine g_icmp_eq_f (z := 25) 140 C dX6_takeTokens_22 (by decide) (by decide) rfl ?_
  refine g_aload_n (z := 26) C dX6_takeTokens_25 2 rfl rfl rfl ?_
  refine g_callV (n := 0) (As := []) (rest := []) (wr := [(pK, .inl (gK X 0, 3001, .inl (fun _ => 0))), (pO, .inl (gK X 0, 3001, .inl (fun _ => 0)))]) (a2 := 0) (b2 := 0) (z := 29) C hR (k_skip (gl X) (gD X) (gK X) h0 h1 pP pS pL pN pH pK pO pV 157 157 0 xcur xkind xpos xopen xwrong xn) dX6_takeTokens_26 w_175 w_177 w_178 w_176 w_16 ⟨by decide +kernel, by decide +kernel, by decide +kernel⟩ [0] [1, 2] rfl rfl rfl rfl rfl (by decide) ⟨(Nat.le_of_ble_eq_true rfl), (Nat.le_of_ble_eq_true rfl)⟩ rfl rfl (Nat.le_of_ble_eq_true rfl) (Nat.le_of_ble_eq_true rfl) (Nat.le_of_ble_eq_true rfl) rfl rfl 0 kX6 rfl rfl rfl rfl (fun v ws' hp => ?_)
  obtain ⟨rfl, rfl⟩ := hp
  refine g_ws (w2 := [(pK, .inl (gK X 0, 3001, .inl (fun _ => 0))), (pO, .inl (gK X 0, 3001, .inl (fun _ => 0))), (h0, .inr (2, [.ref h1, .ref pP, .ref pS, .ref pL, .ref pN, .ref pH, .int xn, .int 157, .int 157, .ref pK, .ref pO, .ref pV, .int 0, .int xcur, .int xkind, .int xpos, .int xopen, .int xwrong]))]) rfl ?_
  refine g_st (s2 := []) rfl ?_
  refine g_sub (w2 := [(h0, .inr (2, [.ref h1, .ref pP, .ref pS, .ref pL, .ref pN, .ref pH, .int xn, .int 157, .int 157, .ref pK, .ref pO, .ref pV, .int 0, .int xcur, .int xkind, .int xpos, .int xopen, .int xwrong])), (pK, .inl (gK X 0, 3001, .inl (fun _ => 0))), (pO, .inl (gK X 0, 3001, .inl (fun _ => 0)))]) [2, 0, 1] rfl rfl rfl ?_
  refine g_aload_n (z := 30) C dX6_takeTokens_29 2 rfl rfl rfl ?_
  refine g_get (z := 33) C kX6 dX6_takeTokens_30 0 rfl 10 (by decide) w_138 rfl rfl rfl ?_
  refine g_aload_n (z := 34) C dX6_takeTokens_33 2 rfl rfl rfl ?_
  refine g_get (z := 37) C kX6 dX6_takeTokens_34 0 rfl 12 (by decide) w_174 rfl rfl rfl ?_
  refine g_aload_n (z := 38) C dX6_takeTokens_37 2 rfl rfl rfl ?_
  refine g_get (z := 41) C kX6 dX6_takeTokens_38 0 rfl 7 (by decide) w_149 rfl rfl rfl ?_
  refine g_ldcS (z := 43) C dX6_takeTokens_41 (evW C) rfl ?_
  refine g_callVE (n := 0) (As := []) (rest := [.int 157, .int 0, .ref pO]) (wr := [(h0, .inr (2, [.ref h1, .ref pP, .ref pS, .ref pL, .ref pN, .ref pH, .int xn, .int 157, .int 157, .ref pK, .ref pO, .ref pV, .int 0, .int xcur, .int xkind, .int xpos, .int xopen, .int xwrong])), (pK, .inl (gK X 0, 3001, .inl (fun _ => 0))), (pO, .inl (gK X 0, 3001, .inl (fun _ => 0)))]) (a2 := 0) (b2 := 0) (z := 46) C hR (k_lengthW (gl X) (gD X) (gK X)) dX6_takeTokens_43 w_131 w_737 w_738 w_736 w_391 ⟨by decide +kernel, by decide +kernel, by decide +kernel⟩ [] [0, 1, 2] rfl rfl rfl rfl rfl (by decide) ⟨(Nat.le_of_ble_eq_true rfl), (Nat.le_of_ble_eq_true rfl)⟩ rfl rfl (Nat.le_of_ble_eq_true rfl) (Nat.le_of_ble_eq_true rfl) (Nat.le_of_ble_eq_true rfl) rfl rfl (evWo C) rfl rfl rfl (fun v ws' hp => ?_)
  obtain ⟨rfl, rfl⟩ := hp
  refine g_ws (w2 := [(h0, .inr (2, [.ref h1, .ref pP, .ref pS, .ref pL, .ref pN, .ref pH, .int xn, .int 157, .int 157, .ref pK, .ref pO, .ref pV, .int 0, .int xcur, .int xkind, .int xpos, .int xopen, .int xwrong])), (pK, .inl (gK X 0, 3001, .inl (fun _ => 0))), (pO, .inl (gK X 0, 3001, .inl (fun _ => 0)))]) rfl ?_
  refine g_st (s2 := [.int 157, .int 157, .int 0, .ref pO]) rfl ?_
  refine g_isub (v := 0) (z := 47) C dX6_takeTokens_46 (by decide) rfl ?_
  refine g_iast (w2 := [(h0, .inr (2, [.ref h1, .ref pP, .ref pS, .ref pL, .ref pN, .ref pH, .int xn, .int 157, .int 157, .ref pK, .ref pO, .ref pV, .int 0, .int xcur, .int xkind, .int xpos, .int xopen, .int xwrong])), (pK, .inl (gK X 0, 3001, .inl (fun _ => 0))), (pO, .inl (gK X 0, 3001, .inl (upd (fun _ => 0) (0 : Int32).toNatClampNeg 0)))]) (z := 48) C dX6_takeTokens_47 2 rfl (by unfold vp_in; decide) rfl rfl ?_
  refine g_aload_n (z := 49) C dX6_takeTokens_48 2 rfl rfl rfl ?_
  refine g_get (z := 52) C kX6 dX6_takeTokens_49 0 rfl 7 (by decide) w_149 rfl rfl rfl ?_
  refine g_aload_n (z := 53) C dX6_takeTokens_52 2 rfl rfl rfl ?_
  refine g_get (z := 56) C kX6 dX6_takeTokens_53 0 rfl 8 (by decide) w_150 rfl rfl rfl ?_
  refine g_icmp_lt_f (z := 59) 64 C dX6_takeTokens_56 (by decide) (by decide) rfl ?_
  refine g_iconst (v := 0) (z := 60) C dX6_takeTokens_59 (by decide) rfl ?_
  refine g_istore_n (l2 := [(1, .int 0), (2, .int 0), (0, .ref h0)]) (z := 61) C dX6_takeTokens_60 rfl (by decide) rfl rfl ?_
  refine g_goto (z := 114) C dX6_takeTokens_61 (by decide) ?_
  refine g_aload_n (z := 115) C dX6_takeTokens_114 2 rfl rfl rfl ?_
  refine g_get (z := 118) C kX6 dX6_takeTokens_115 0 rfl 9 (by decide) w_137 rfl rfl rfl ?_
  refine g_aload_n (z := 119) C dX6_takeTokens_118 2 rfl rfl rfl ?_
  refine g_get (z := 122) C kX6 dX6_takeTokens_119 0 rfl 12 (by decide) w_174 rfl rfl rfl ?_
  refine g_iload_n (z := 123) C dX6_takeTokens_122 0 rfl rfl rfl ?_
  refine g_iast (w2 := [(h0, .inr (2, [.ref h1, .ref pP, .ref pS, .ref pL, .ref pN, .ref pH, .int xn, .int 157, .int 157, .ref pK, .ref pO, .ref pV, .int 0, .int xcur, .int xkind, .int xpos, .int xopen, .int xwrong])), (pK, .inl (gK X 0, 3001, .inl (upd (fun _ => 0) (0 : Int32).toNatClampNeg 0))), (pO, .inl (gK X 0, 3001, .inl (upd (fun _ => 0) (0 : Int32).toNatClampNeg 0)))]) (z := 124) C dX6_takeTokens_123 1 rfl (by unfold vp_in; decide) rfl rfl ?_
  refine g_aload_n (z := 125) C dX6_takeTokens_124 2 rfl rfl rfl ?_
  refine g_dup (z := 126) C dX6_takeTokens_125 rfl rfl ?_
  refine g_get (z := 129) C kX6 dX6_takeTokens_126 0 rfl 12 (by decide) w_174 rfl rfl rfl ?_
  refine g_iconst (v := 1) (z := 130) C dX6_takeTokens_129 (by decide) rfl ?_
  refine g_iadd (v := 1) (z := 131) C dX6_takeTokens_130 (by decide) rfl ?_
  refine g_put (w2 := [(h0, .inr (2, [.ref h1, .ref pP, .ref pS, .ref pL, .ref pN, .ref pH, .int xn, .int 157, .int 157, .ref pK, .ref pO, .ref pV, .int 1, .int xcur, .int xkind, .int xpos, .int xopen, .int xwrong])), (pK, .inl (gK X 0, 3001, .inl (upd (fun _ => 0) (0 : Int32).toNatClampNeg 0))), (pO, .inl (gK X 0, 3001, .inl (upd (fun _ => 0) (0 : Int32).toNatClampNeg 0)))]) (z := 134) C kX6 dX6_takeTokens_131 0 rfl 12 (by decide) w_174 rfl rfl rfl rfl (Nat.le_of_ble_eq_true rfl) rfl rfl ?_
  refine g_iinc (v := 1) (l2 := [(2, .int 1), (1, .int 0), (0, .ref h0)]) (z := 137) C dX6_takeTokens_134 1 rfl (by decide) (by decide) rfl rfl ?_
  refine g_goto (z := 9) C dX6_takeTokens_137 (by decide) ?_
  refine g_iload_n (z := 10) C dX6_takeTokens_9 0 rfl rfl rfl ?_
  refine g_sipush (v := 3000) (z := 13) C dX6_takeTokens_10 (by decide) rfl ?_
  refine g_icmp_gt_f (z := 16) 140 C dX6_takeTokens_13 (by decide) (by decide) rfl ?_
  refine g_iload_n (z := 17) C dX6_takeTokens_16 1 rfl rfl rfl ?_
  refine g_if_eq_t (z := 140) C dX6_takeTokens_17 (by decide) (by decide) ?_
  exact g_vret C hQ dX6_takeTokens_140 (Nat.le_of_ble_eq_true rfl) (Nat.le_of_ble_eq_true rfl) ⟨rfl, rfl⟩
set_option maxHeartbeats 4000000 in
set_option maxRecDepth 100000 in
/-- advance onto the end -/
theorem k_advance (l : Launch) (D : va_G) (K : KS) (h0 h1 pP pS pL pN pH pK pO pV : Nat) (xat xend xtok xcur xkind xpos xopen xwrong : Int32) (xn : Int32) : Con l D K yX6_advance cX6_advance 1 none 0 0 0 0 [.ref h0] [(h0, .inr (2, [.ref h1, .ref pP, .ref pS, .ref pL, .ref pN, .ref pH, .int xn, .int xat, .int xend, .ref pK, .ref pO, .ref pV, .int 1, .int (-1), .int xkind, .int xpos, .int xopen, .int (-1)])), (pK, .inl (K 0, 3001, .inl (upd (fun _ => 0) (0 : Int32).toNatClampNeg 0))), (pO, .inl (K 0, 3001, .inl (upd (fun _ => 0) (0 : Int32).toNatClampNeg 0)))] (fun v w => v = none ∧ w = [(h0, .inr (2, [.ref h1, .ref pP, .ref pS, .ref pL, .ref pN, .ref pH, .int xn, .int xat, .int xend, .ref pK, .ref pO, .ref pV, .int 1, .int 0, .int 0, .int 0, .int xopen, .int (-1)])), (pK, .inl (K 0, 3001, .inl (upd (fun _ => 0) (0 : Int32).toNatClampNeg 0))), (pO, .inl (K 0, 3001, .inl (upd (fun _ => 0) (0 : Int32).toNatClampNeg 0)))]) := by
  refine Con.of (by decide +kernel) (Nat.le_of_ble_eq_true rfl) ?_
  intro X hXl hXD hXK C hR hQ hnm
  subst hXl; subst hXD; subst hXK
  refine g_lv (l2 := [(0, .ref h0)]) [0] rfl ?_
  refine g_aload_n (z := 1) C dX6_advance_0 0 rfl rfl rfl ?_
  refine g_get (z := 4) C kX6 dX6_advance_1 0 rfl 17 (by decide) w_152 rfl rfl rfl ?_
  refine g_if_ge_f (z := 7) 56 C dX6_advance_4 (by decide) (by decide) rfl ?_
  refine g_aload_n (z := 8) C dX6_advance_7 0 rfl rfl rfl ?_
  refine g_get (z := 11) C kX6 dX6_advance_8 0 rfl 13 (by decide) w_155 rfl rfl rfl ?_
  refine g_iconst (v := 1) (z := 12) C dX6_advance_11 (by decide) rfl ?_
  refine g_iadd (v := 0) (z := 13) C dX6_advance_12 (by decide) rfl ?_
  refine g_aload_n (z := 14) C dX6_advance_13 0 rfl rfl rfl ?_
  refine g_get (z := 17) C kX6 dX6_advance_14 0 rfl 12 (by decide) w_174 rfl rfl rfl ?_
  refine g_icmp_ge_f (z := 20) 56 C dX6_advance_17 (by decide) (by decide) rfl ?_
  refine g_aload_n (z := 21) C dX6_advance_20 0 rfl rfl rfl ?_
  refine g_dup (z := 22) C dX6_advance_21 rfl rfl ?_
  refine g_get (z := 25) C kX6 dX6_advance_22 0 rfl 13 (by decide) w_155 rfl rfl rfl ?_
  refine g_iconst (v := 1) (z := 26) C dX6_advance_25 (by decide) rfl ?_
  refine g_iadd (v := 0) (z := 27) C dX6_advance_26 (by decide) rfl ?_
  refine g_put (w2 := [(h0, .inr (2, [.ref h1, .ref pP, .ref pS, .ref pL, .ref pN, .ref pH, .int xn, .int xat, .int xend, .ref pK, .ref pO, .ref pV, .int 1, .int 0, .int xkind, .int xpos, .int xopen, .int (-1)])), (pK, .inl (gK X 0, 3001, .inl (upd (fun _ => 0) (0 : Int32).toNatClampNeg 0))), (pO, .inl (gK X 0, 3001, .inl (upd (fun _ => 0) (0 : Int32).toNatClampNeg 0)))]) (z := 30) C kX6 dX6_advance_27 0 rfl 13 (by decide) w_155 rfl rfl rfl rfl (Nat.le_of_ble_eq_true rfl) rfl rfl ?_
  refine g_aload_n (z := 31) C dX6_advance_30 0 rfl rfl rfl ?_
  refine g_aload_n (z := 32) C dX6_advance_31 0 rfl rfl rfl ?_
  refine g_get (z := 35) C kX6 dX6_advance_32 0 rfl 9 (by decide) w_137 rfl rfl rfl ?_
  refine g_aload_n (z := 36) C dX6_advance_35 0 rfl rfl rfl ?_
  refine g_get (z := 39) C kX6 dX6_advance_36 0 rfl 13 (by decide) w_155 rfl rfl rfl ?_
  refine g_iald (v := 0) (z := 40) C dX6_advance_39 1 rfl (by unfold vp_in; decide) pk_us rfl ?_
  refine g_put (w2 := [(h0, .inr (2, [.ref h1, .ref pP, .ref pS, .ref pL, .ref pN, .ref pH, .int xn, .int xat, .int xend, .ref pK, .ref pO, .ref pV, .int 1, .int 0, .int 0, .int xpos, .int xopen, .int (-1)])), (pK, .inl (gK X 0, 3001, .inl (upd (fun _ => 0) (0 : Int32).toNatClampNeg 0))), (pO, .inl (gK X 0, 3001, .inl (upd (fun _ => 0) (0 : Int32).toNatClampNeg 0)))]) (z := 43) C kX6 dX6_advance_40 0 rfl 14 (by decide) w_157 rfl rfl rfl rfl (Nat.le_of_ble_eq_true rfl) rfl rfl ?_
  refine g_aload_n (z := 44) C dX6_advance_43 0 rfl rfl rfl ?_
  refine g_aload_n (z := 45) C dX6_advance_44 0 rfl rfl rfl ?_
  refine g_get (z := 48) C kX6 dX6_advance_45 0 rfl 10 (by decide) w_138 rfl rfl rfl ?_
  refine g_aload_n (z := 49) C dX6_advance_48 0 rfl rfl rfl ?_
  refine g_get (z := 52) C kX6 dX6_advance_49 0 rfl 13 (by decide) w_155 rfl rfl rfl ?_
  refine g_iald (v := 0) (z := 53) C dX6_advance_52 2 rfl (by unfold vp_in; decide) pk_us rfl ?_
  refine g_put (w2 := [(h0, .inr (2, [.ref h1, .ref pP, .ref pS, .ref pL, .ref pN, .ref pH, .int xn, .int xat, .int xend, .ref pK, .ref pO, .ref pV, .int 1, .int 0, .int 0, .int 0, .int xopen, .int (-1)])), (pK, .inl (gK X 0, 3001, .inl (upd (fun _ => 0) (0 : Int32).toNatClampNeg 0))), (pO, .inl (gK X 0, 3001, .inl (upd (fun _ => 0) (0 : Int32).toNatClampNeg 0)))]) (z := 56) C kX6 dX6_advance_53 0 rfl 15 (by decide) w_158 rfl rfl rfl rfl (Nat.le_of_ble_eq_true rfl) rfl rfl ?_
  exact g_vret C hQ dX6_advance_56 (Nat.le_of_ble_eq_true rfl) (Nat.le_of_ble_eq_true rfl) ⟨rfl, rfl⟩
set_option maxHeartbeats 4000000 in
set_option maxRecDepth 100000 in
/-- Tree.clear -/
theorem k_X8_clear (l : Launch) (D : va_G) (K : KS) (h1 t0 t1 t2 t3 t4 t5 t6 t7 t8 t9 t10 : Nat) : Con l D K yX8_clear cX8_clear 1 none 0 0 0 0 [.ref h1] [(h1, .inr (1, [.ref t0, .ref t1, .ref t2, .ref t3, .ref t4, .ref t5, .ref t6, .ref t7, .ref t8, .ref t9, .ref t10, .int 1]))] (fun v w => v = none ∧ w = [(h1, .inr (1, [.ref t0, .ref t1, .ref t2, .ref t3, .ref t4, .ref t5, .ref t6, .ref t7, .ref t8, .ref t9, .ref t10, .int 1]))]) := by
  refine Con.of (by decide +kernel) (Nat.le_of_ble_eq_true rfl) ?_
  intro X hXl hXD hXK C hR hQ hnm
  subst hXl; subst hXD; subst hXK
  refine g_lv (l2 := [(0, .ref h1)]) [0] rfl ?_
  refine g_aload_n (z := 1) C dX8_clear_0 0 rfl rfl rfl ?_
  refine g_iconst (v := 1) (z := 2) C dX8_clear_1 (by decide) rfl ?_
  refine g_put (w2 := [(h1, .inr (1, [.ref t0, .ref t1, .ref t2, .ref t3, .ref t4, .ref t5, .ref t6, .ref t7, .ref t8, .ref t9, .ref t10, .int 1]))]) (z := 5) C kX8 dX8_clear_2 0 rfl 11 (by decide) w_121 rfl rfl rfl rfl (Nat.le_of_ble_eq_true rfl) rfl rfl ?_
  exact g_vret C hQ dX8_clear_5 (Nat.le_of_ble_eq_true rfl) (Nat.le_of_ble_eq_true rfl) ⟨rfl, rfl⟩
set_option maxHeartbeats 4000000 in
set_option maxRecDepth 100000 in
/-- Tree.add of the root -/
theorem k_X8_add (l : Launch) (D : va_G) (K : KS) (h1 t0 t1 t2 t3 t4 t5 t6 t7 t8 t9 t10 : Nat) : Con l D K yX8_add cX8_add 4 (some .int) 0 0 0 0 [.ref h1, .int 300, .int 0] [(h1, .inr (1, [.ref t0, .ref t1, .ref t2, .ref t3, .ref t4, .ref t5, .ref t6, .ref t7, .ref t8, .ref t9, .ref t10, .int 1])), (t0, .inl (K 0, 3016, .inl (fun _ => 0))), (t1, .inl (K 0, 3016, .inl (fun _ => 0))), (t2, .inl (K 0, 3016, .inl (fun _ => 0))), (t3, .inl (K 0, 3016, .inl (fun _ => 0))), (t4, .inl (K 0, 3016, .inl (fun _ => 0))), (t5, .inl (K 0, 3016, .inl (fun _ => 0))), (t6, .inl (K 0, 3016, .inl (fun _ => 0))), (t7, .inl (K 0, 3016, .inl (fun _ => 0))), (t8, .inl (K 1, 3016, .inr (.inl (fun _ => 0)))), (t9, .inl (K 0, 3016, .inl (fun _ => 0))), (t10, .inl (K 0, 3016, .inl (fun _ => 0)))] (fun v w => v = some (.int 1) ∧ w = [(h1, .inr (1, [.ref t0, .ref t1, .ref t2, .ref t3, .ref t4, .ref t5, .ref t6, .ref t7, .ref t8, .ref t9, .ref t10, .int 2])), (t0, .inl (K 0, 3016, .inl (upd (fun _ => 0) (1 : Int32).toNatClampNeg 300))), (t1, .inl (K 0, 3016, .inl (upd (fun _ => 0) (1 : Int32).toNatClampNeg 0))), (t2, .inl (K 0, 3016, .inl (upd (fun _ => 0) (1 : Int32).toNatClampNeg 0))), (t3, .inl (K 0, 3016, .inl (upd (fun _ => 0) (1 : Int32).toNatClampNeg 0))), (t4, .inl (K 0, 3016, .inl (upd (fun _ => 0) (1 : Int32).toNatClampNeg 0))), (t5, .inl (K 0, 3016, .inl (upd (fun _ => 0) (1 : Int32).toNatClampNeg 0))), (t6, .inl (K 0, 3016, .inl (upd (fun _ => 0) (1 : Int32).toNatClampNeg 0))), (t7, .inl (K 0, 3016, .inl (upd (fun _ => 0) (1 : Int32).toNatClampNeg 0))), (t8, .inl (K 1, 3016, .inr (.inl (vp_updL (fun _ => 0) (1 : Int32).toNatClampNeg 0)))), (t9, .inl (K 0, 3016, .inl (upd (fun _ => 0) (1 : Int32).toNatClampNeg 0))), (t10, .inl (K 0, 3016, .inl (upd (fun _ => 0) (1 : Int32).toNatClampNeg 0)))]) := by
  refine Con.of (by decide +kernel) (Nat.le_of_ble_eq_true rfl) ?_
  intro X hXl hXD hXK C hR hQ hnm
  subst hXl; subst hXD; subst hXK
  refine g_lv (l2 := [(0, .ref h1), (1, .int 300), (2, .int 0)]) [0, 1, 2] rfl ?_
  refine g_aload_n (z := 1) C dX8_add_0 0 rfl rfl rfl ?_
  refine g_get (z := 4) C kX8 dX8_add_1 0 rfl 11 (by decide) w_121 rfl rfl rfl ?_
  refine g_sipush (v := 3016) (z := 7) C dX8_add_4 (by decide) rfl ?_
  refine g_icmp_lt_t (z := 12) C dX8_add_7 (by decide) (by decide) ?_
  refine g_aload_n (z := 13) C dX8_add_12 0 rfl rfl rfl ?_
  refine g_get (z := 16) C kX8 dX8_add_13 0 rfl 11 (by decide) w_121 rfl rfl rfl ?_
  refine g_istore_n (l2 := [(3, .int 1), (0, .ref h1), (1, .int 300), (2, .int 0)]) (z := 17) C dX8_add_16 rfl (by decide) rfl rfl ?_
  refine g_aload_n (z := 18) C dX8_add_17 1 rfl rfl rfl ?_
  refine g_dup (z := 19) C dX8_add_18 rfl rfl ?_
  refine g_get (z := 22) C kX8 dX8_add_19 0 rfl 11 (by decide) w_121 rfl rfl rfl ?_
  refine g_iconst (v := 1) (z := 23) C dX8_add_22 (by decide) rfl ?_
  refine g_iadd (v := 2) (z := 24) C dX8_add_23 (by decide) rfl ?_
  refine g_put (w2 := [(h1, .inr (1, [.ref t0, .ref t1, .ref t2, .ref t3, .ref t4, .ref t5, .ref t6, .ref t7, .ref t8, .ref t9, .ref t10, .int 2])), (t0, .inl (gK X 0, 3016, .inl (fun _ => 0))), (t1, .inl (gK X 0, 3016, .inl (fun _ => 0))), (t2, .inl (gK X 0, 3016, .inl (fun _ => 0))), (t3, .inl (gK X 0, 3016, .inl (fun _ => 0))), (t4, .inl (gK X 0, 3016, .inl (fun _ => 0))), (t5, .inl (gK X 0, 3016, .inl (fun _ => 0))), (t6, .inl (gK X 0, 3016, .inl (fun _ => 0))), (t7, .inl (gK X 0, 3016, .inl (fun _ => 0))), (t8, .inl (gK X 1, 3016, .inr (.inl (fun _ => 0)))), (t9, .inl (gK X 0, 3016, .inl (fun _ => 0))), (t10, .inl (gK X 0, 3016, .inl (fun _ => 0)))]) (z := 27) C kX8 dX8_add_24 0 rfl 11 (by decide) w_121 rfl rfl rfl rfl (Nat.le_of_ble_eq_true rfl) rfl rfl ?_
  refine g_aload_n (z := 28) C dX8_add_27 1 rfl rfl rfl ?_
  refine g_get (z := 31) C kX8 dX8_add_28 0 rfl 0 (by decide) w_110 rfl rfl rfl ?_
  refine g_iload_n (z := 32) C dX8_add_31 0 rfl rfl rfl ?_
  refine g_iload_n (z := 33) C dX8_add_32 2 rfl rfl rfl ?_
  refine g_iast (w2 := [(h1, .inr (1, [.ref t0, .ref t1, .ref t2, .ref t3, .ref t4, .ref t5, .ref t6, .ref t7, .ref t8, .ref t9, .ref t10, .int 2])), (t0, .inl (gK X 0, 3016, .inl (upd (fun _ => 0) (1 : Int32).toNatClampNeg 300))), (t1, .inl (gK X 0, 3016, .inl (fun _ => 0))), (t2, .inl (gK X 0, 3016, .inl (fun _ => 0))), (t3, .inl (gK X 0, 3016, .inl (fun _ => 0))), (t4, .inl (gK X 0, 3016, .inl (fun _ => 0))), (t5, .inl (gK X 0, 3016, .inl (fun _ => 0))), (t6, .inl (gK X 0, 3016, .inl (fun _ => 0))), (t7, .inl (gK X 0, 3016, .inl (fun _ => 0))), (t8, .inl (gK X 1, 3016, .inr (.inl (fun _ => 0)))), (t9, .inl (gK X 0, 3016, .inl (fun _ => 0))), (t10, .inl (gK X 0, 3016, .inl (fun _ => 0)))]) (z := 34) C dX8_add_33 1 rfl (by unfold vp_in; decide) rfl rfl ?_
  refine g_aload_n (z := 35) C dX8_add_34 1 rfl rfl rfl ?_
  refine g_get (z := 38) C kX8 dX8_add_35 0 rfl 1 (by decide) w_111 rfl rfl rfl ?_
  refine g_iload_n (z := 39) C dX8_add_38 0 rfl rfl rfl ?_
  refine g_iload_n (z := 40) C dX8_add_39 3 rfl rfl rfl ?_
  refine g_iast (w2 := [(h1, .inr (1, [.ref t0, .ref t1, .ref t2, .ref t3, .ref t4, .ref t5, .ref t6, .ref t7, .ref t8, .ref t9, .ref t10, .int 2])), (t0, .inl (gK X 0, 3016, .inl (upd (fun _ => 0) (1 : Int32).toNatClampNeg 300))), (t1, .inl (gK X 0, 3016, .inl (upd (fun _ => 0) (1 : Int32).toNatClampNeg 0))), (t2, .inl (gK X 0, 3016, .inl (fun _ => 0))), (t3, .inl (gK X 0, 3016, .inl (fun _ => 0))), (t4, .inl (gK X 0, 3016, .inl (fun _ => 0))), (t5, .inl (gK X 0, 3016, .inl (fun _ => 0))), (t6, .inl (gK X 0, 3016, .inl (fun _ => 0))), (t7, .inl (gK X 0, 3016, .inl (fun _ => 0))), (t8, .inl (gK X 1, 3016, .inr (.inl (fun _ => 0)))), (t9, .inl (gK X 0, 3016, .inl (fun _ => 0))), (t10, .inl (gK X 0, 3016, .inl (fun _ => 0)))]) (z := 41) C dX8_add_40 2 rfl (by unfold vp_in; decide) rfl rfl ?_
  refine g_aload_n (z := 42) C dX8_add_41 1 rfl rfl rfl ?_
  refine g_get (z := 45) C kX8 dX8_add_42 0 rfl 2 (by decide) w_112 rfl rfl rfl ?_
  refine g_iload_n (z := 46) C dX8_add_45 0 rfl rfl rfl ?_
  refine g_iload_n (z := 47) C dX8_add_46 3 rfl rfl rfl ?_
  refine g_iast (w2 := [(h1, .inr (1, [.ref t0, .ref t1, .ref t2, .ref t3, .ref t4, .ref t5, .ref t6, .ref t7, .ref t8, .ref t9, .ref t10, .int 2])), (t0, .inl (gK X 0, 3016, .inl (upd (fun _ => 0) (1 : Int32).toNatClampNeg 300))), (t1, .inl (gK X 0, 3016, .inl (upd (fun _ => 0) (1 : Int32).toNatClampNeg 0))), (t2, .inl (gK X 0, 3016, .inl (upd (fun _ => 0) (1 : Int32).toNatClampNeg 0))), (t3, .inl (gK X 0, 3016, .inl (fun _ => 0))), (t4, .inl (gK X 0, 3016, .inl (fun _ => 0))), (t5, .inl (gK X 0, 3016, .inl (fun _ => 0))), (t6, .inl (gK X 0, 3016, .inl (fun _ => 0))), (t7, .inl (gK X 0, 3016, .inl (fun _ => 0))), (t8, .inl (gK X 1, 3016, .inr (.inl (fun _ => 0)))), (t9, .inl (gK X 0, 3016, .inl (fun _ => 0))), (t10, .inl (gK X 0, 3016, .inl (fun _ => 0)))]) (z := 48) C dX8_add_47 3 rfl (by unfold vp_in; decide) rfl rfl ?_
  refine g_aload_n (z := 49) C dX8_add_48 1 rfl rfl rfl ?_
  refine g_get (z := 52) C kX8 dX8_add_49 0 rfl 3 (by decide) w_113 rfl rfl rfl ?_
  refine g_iload_n (z := 53) C dX8_add_52 0 rfl rfl rfl ?_
  refine g_iconst (v := 0) (z := 54) C dX8_add_53 (by decide) rfl ?_
  refine g_iast (w2 := [(h1, .inr (1, [.ref t0, .ref t1, .ref t2, .ref t3, .ref t4, .ref t5, .ref t6, .ref t7, .ref t8, .ref t9, .ref t10, .int 2])), (t0, .inl (gK X 0, 3016, .inl (upd (fun _ => 0) (1 : Int32).toNatClampNeg 300))), (t1, .inl (gK X 0, 3016, .inl (upd (fun _ => 0) (1 : Int32).toNatClampNeg 0))), (t2, .inl (gK X 0, 3016, .inl (upd (fun _ => 0) (1 : Int32).toNatClampNeg 0))), (t3, .inl (gK X 0, 3016, .inl (upd (fun _ => 0) (1 : Int32).toNatClampNeg 0))), (t4, .inl (gK X 0, 3016, .inl (fun _ => 0))), (t5, .inl (gK X 0, 3016, .inl (fun _ => 0))), (t6, .inl (gK X 0, 3016, .inl (fun _ => 0))), (t7, .inl (gK X 0, 3016, .inl (fun _ => 0))), (t8, .inl (gK X 1, 3016, .inr (.inl (fun _ => 0)))), (t9, .inl (gK X 0, 3016, .inl (fun _ => 0))), (t10, .inl (gK X 0, 3016, .inl (fun _ => 0)))]) (z := 55) C dX8_add_54 4 rfl (by unfold vp_in; decide) rfl rfl ?_
  refine g_aload_n (z := 56) C dX8_add_55 1 rfl rfl rfl ?_
  refine g_get (z := 59) C kX8 dX8_add_56 0 rfl 4 (by decide) w_114 rfl rfl rfl ?_
  refine g_iload_n (z := 60) C dX8_add_59 0 rfl rfl rfl ?_
  refine g_iconst (v := 0) (z := 61) C dX8_add_60 (by decide) rfl ?_
  refine g_iast (w2 := [(h1, .inr (1, [.ref t0, .ref t1, .ref t2, .ref t3, .ref t4, .ref t5, .ref t6, .ref t7, .ref t8, .ref t9, .ref t10, .int 2])), (t0, .inl (gK X 0, 3016, .inl (upd (fun _ => 0) (1 : Int32).toNatClampNeg 300))), (t1, .inl (gK X 0, 3016, .inl (upd (fun _ => 0) (1 : Int32).toNatClampNeg 0))), (t2, .inl (gK X 0, 3016, .inl (upd (fun _ => 0) (1 : Int32).toNatClampNeg 0))), (t3, .inl (gK X 0, 3016, .inl (upd (fun _ => 0) (1 : Int32).toNatClampNeg 0))), (t4, .inl (gK X 0, 3016, .inl (upd (fun _ => 0) (1 : Int32).toNatClampNeg 0))), (t5, .inl (gK X 0, 3016, .inl (fun _ => 0))), (t6, .inl (gK X 0, 3016, .inl (fun _ => 0))), (t7, .inl (gK X 0, 3016, .inl (fun _ => 0))), (t8, .inl (gK X 1, 3016, .inr (.inl (fun _ => 0)))), (t9, .inl (gK X 0, 3016, .inl (fun _ => 0))), (t10, .inl (gK X 0, 3016, .inl (fun _ => 0)))]) (z := 62) C dX8_add_61 5 rfl (by unfold vp_in; decide) rfl rfl ?_
  refine g_aload_n (z := 63) C dX8_add_62 1 rfl rfl rfl ?_
  refine g_get (z := 66) C kX8 dX8_add_63 0 rfl 5 (by decide) w_115 rfl rfl rfl ?_
  refine g_iload_n (z := 67) C dX8_add_66 0 rfl rfl rfl ?_
  refine g_iconst (v := 0) (z := 68) C dX8_add_67 (by decide) rfl ?_
  refine g_iast (w2 := [(h1, .inr (1, [.ref t0, .ref t1, .ref t2, .ref t3, .ref t4, .ref t5, .ref t6, .ref t7, .ref t8, .ref t9, .ref t10, .int 2])), (t0, .inl (gK X 0, 3016, .inl (upd (fun _ => 0) (1 : Int32).toNatClampNeg 300))), (t1, .inl (gK X 0, 3016, .inl (upd (fun _ => 0) (1 : Int32).toNatClampNeg 0))), (t2, .inl (gK X 0, 3016, .inl (upd (fun _ => 0) (1 : Int32).toNatClampNeg 0))), (t3, .inl (gK X 0, 3016, .inl (upd (fun _ => 0) (1 : Int32).toNatClampNeg 0))), (t4, .inl (gK X 0, 3016, .inl (upd (fun _ => 0) (1 : Int32).toNatClampNeg 0))), (t5, .inl (gK X 0, 3016, .inl (upd (fun _ => 0) (1 : Int32).toNatClampNeg 0))), (t6, .inl (gK X 0, 3016, .inl (fun _ => 0))), (t7, .inl (gK X 0, 3016, .inl (fun _ => 0))), (t8, .inl (gK X 1, 3016, .inr (.inl (fun _ => 0)))), (t9, .inl (gK X 0, 3016, .inl (fun _ => 0))), (t10, .inl (gK X 0, 3016, .inl (fun _ => 0)))]) (z := 69) C dX8_add_68 6 rfl (by unfold vp_in; decide) rfl rfl ?_
  refine g_aload_n (z := 70) C dX8_add_69 1 rfl rfl rfl ?_
  refine g_get (z := 73) C kX8 dX8_add_70 0 rfl 6 (by decide) w_116 rfl rfl rfl ?_
  refine g_iload_n (z := 74) C dX8_add_73 0 rfl rfl rfl ?_
  refine g_iconst (v := 0) (z := 75) C dX8_add_74 (by decide) rfl ?_
  refine g_iast (w2 := [(h1, .inr (1, [.ref t0, .ref t1, .ref t2, .ref t3, .ref t4, .ref t5, .ref t6, .ref t7, .ref t8, .ref t9, .ref t10, .int 2])), (t0, .inl (gK X 0, 3016, .inl (upd (fun _ => 0) (1 : Int32).toNatClampNeg 300))), (t1, .inl (gK X 0, 3016, .inl (upd (fun _ => 0) (1 : Int32).toNatClampNeg 0))), (t2, .inl (gK X 0, 3016, .inl (upd (fun _ => 0) (1 : Int32).toNatClampNeg 0))), (t3, .inl (gK X 0, 3016, .inl (upd (fun _ => 0) (1 : Int32).toNatClampNeg 0))), (t4, .inl (gK X 0, 3016, .inl (upd (fun _ => 0) (1 : Int32).toNatClampNeg 0))), (t5, .inl (gK X 0, 3016, .inl (upd (fun _ => 0) (1 : Int32).toNatClampNeg 0))), (t6, .inl (gK X 0, 3016, .inl (upd (fun _ => 0) (1 : Int32).toNatClampNeg 0))), (t7, .inl (gK X 0, 3016, .inl (fun _ => 0))), (t8, .inl (gK X 1, 3016, .inr (.inl (fun _ => 0)))), (t9, .inl (gK X 0, 3016, .inl (fun _ => 0))), (t10, .inl (gK X 0, 3016, .inl (fun _ => 0)))]) (z := 76) C dX8_add_75 7 rfl (by unfold vp_in; decide) rfl rfl ?_
  refine g_aload_n (z := 77) C dX8_add_76 1 rfl rfl rfl ?_
  refine g_get (z := 80) C kX8 dX8_add_77 0 rfl 7 (by decide) w_117 rfl rfl rfl ?_
  refine g_iload_n (z := 81) C dX8_add_80 0 rfl rfl rfl ?_
  refine g_iconst (v := 0) (z := 82) C dX8_add_81 (by decide) rfl ?_
  refine g_iast (w2 := [(h1, .inr (1, [.ref t0, .ref t1, .ref t2, .ref t3, .ref t4, .ref t5, .ref t6, .ref t7, .ref t8, .ref t9, .ref t10, .int 2])), (t0, .inl (gK X 0, 3016, .inl (upd (fun _ => 0) (1 : Int32).toNatClampNeg 300))), (t1, .inl (gK X 0, 3016, .inl (upd (fun _ => 0) (1 : Int32).toNatClampNeg 0))), (t2, .inl (gK X 0, 3016, .inl (upd (fun _ => 0) (1 : Int32).toNatClampNeg 0))), (t3, .inl (gK X 0, 3016, .inl (upd (fun _ => 0) (1 : Int32).toNatClampNeg 0))), (t4, .inl (gK X 0, 3016, .inl (upd (fun _ => 0) (1 : Int32).toNatClampNeg 0))), (t5, .inl (gK X 0, 3016, .inl (upd (fun _ => 0) (1 : Int32).toNatClampNeg 0))), (t6, .inl (gK X 0, 3016, .inl (upd (fun _ => 0) (1 : Int32).toNatClampNeg 0))), (t7, .inl (gK X 0, 3016, .inl (upd (fun _ => 0) (1 : Int32).toNatClampNeg 0))), (t8, .inl (gK X 1, 3016, .inr (.inl (fun _ => 0)))), (t9, .inl (gK X 0, 3016, .inl (fun _ => 0))), (t10, .inl (gK X 0, 3016, .inl (fun _ => 0)))]) (z := 83) C dX8_add_82 8 rfl (by unfold vp_in; decide) rfl rfl ?_
  refine g_aload_n (z := 84) C dX8_add_83 1 rfl rfl rfl ?_
  refine g_get (z := 87) C kX8 dX8_add_84 0 rfl 8 (by decide) w_118 rfl rfl rfl ?_
  refine g_iload_n (z := 88) C dX8_add_87 0 rfl rfl rfl ?_
  refine g_lconst (v := 0) (z := 89) C dX8_add_88 (by decide) rfl ?_
  refine g_last (w2 := [(h1, .inr (1, [.ref t0, .ref t1, .ref t2, .ref t3, .ref t4, .ref t5, .ref t6, .ref t7, .ref t8, .ref t9, .ref t10, .int 2])), (t0, .inl (gK X 0, 3016, .inl (upd (fun _ => 0) (1 : Int32).toNatClampNeg 300))), (t1, .inl (gK X 0, 3016, .inl (upd (fun _ => 0) (1 : Int32).toNatClampNeg 0))), (t2, .inl (gK X 0, 3016, .inl (upd (fun _ => 0) (1 : Int32).toNatClampNeg 0))), (t3, .inl (gK X 0, 3016, .inl (upd (fun _ => 0) (1 : Int32).toNatClampNeg 0))), (t4, .inl (gK X 0, 3016, .inl (upd (fun _ => 0) (1 : Int32).toNatClampNeg 0))), (t5, .inl (gK X 0, 3016, .inl (upd (fun _ => 0) (1 : Int32).toNatClampNeg 0))), (t6, .inl (gK X 0, 3016, .inl (upd (fun _ => 0) (1 : Int32).toNatClampNeg 0))), (t7, .inl (gK X 0, 3016, .inl (upd (fun _ => 0) (1 : Int32).toNatClampNeg 0))), (t8, .inl (gK X 1, 3016, .inr (.inl (vp_updL (fun _ => 0) (1 : Int32).toNatClampNeg 0)))), (t9, .inl (gK X 0, 3016, .inl (fun _ => 0))), (t10, .inl (gK X 0, 3016, .inl (fun _ => 0)))]) (z := 90) C dX8_add_89 9 rfl (by unfold vp_in; decide) rfl rfl ?_
  refine g_aload_n (z := 91) C dX8_add_90 1 rfl rfl rfl ?_
  refine g_get (z := 94) C kX8 dX8_add_91 0 rfl 9 (by decide) w_119 rfl rfl rfl ?_
  refine g_iload_n (z := 95) C dX8_add_94 0 rfl rfl rfl ?_
  refine g_iconst (v := 0) (z := 96) C dX8_add_95 (by decide) rfl ?_
  refine g_iast (w2 := [(h1, .inr (1, [.ref t0, .ref t1, .ref t2, .ref t3, .ref t4, .ref t5, .ref t6, .ref t7, .ref t8, .ref t9, .ref t10, .int 2])), (t0, .inl (gK X 0, 3016, .inl (upd (fun _ => 0) (1 : Int32).toNatClampNeg 300))), (t1, .inl (gK X 0, 3016, .inl (upd (fun _ => 0) (1 : Int32).toNatClampNeg 0))), (t2, .inl (gK X 0, 3016, .inl (upd (fun _ => 0) (1 : Int32).toNatClampNeg 0))), (t3, .inl (gK X 0, 3016, .inl (upd (fun _ => 0) (1 : Int32).toNatClampNeg 0))), (t4, .inl (gK X 0, 3016, .inl (upd (fun _ => 0) (1 : Int32).toNatClampNeg 0))), (t5, .inl (gK X 0, 3016, .inl (upd (fun _ => 0) (1 : Int32).toNatClampNeg 0))), (t6, .inl (gK X 0, 3016, .inl (upd (fun _ => 0) (1 : Int32).toNatClampNeg 0))), (t7, .inl (gK X 0, 3016, .inl (upd (fun _ => 0) (1 : Int32).toNatClampNeg 0))), (t8, .inl (gK X 1, 3016, .inr (.inl (vp_updL (fun _ => 0) (1 : Int32).toNatClampNeg 0)))), (t9, .inl (gK X 0, 3016, .inl (upd (fun _ => 0) (1 : Int32).toNatClampNeg 0))), (t10, .inl (gK X 0, 3016, .inl (fun _ => 0)))]) (z := 97) C dX8_add_96 10 rfl (by unfold vp_in; decide) rfl rfl ?_
  refine g_aload_n (z := 98) C dX8_add_97 1 rfl rfl rfl ?_
  refine g_get (z := 101) C kX8 dX8_add_98 0 rfl 10 (by decide) w_120 rfl rfl rfl ?_
  refine g_iload_n (z := 102) C dX8_add_101 0 rfl rfl rfl ?_
  refine g_iconst (v := 0) (z := 103) C dX8_add_102 (by decide) rfl ?_
  refine g_iast (w2 := [(h1, .inr (1, [.ref t0, .ref t1, .ref t2, .ref t3, .ref t4, .ref t5, .ref t6, .ref t7, .ref t8, .ref t9, .ref t10, .int 2])), (t0, .inl (gK X 0, 3016, .inl (upd (fun _ => 0) (1 : Int32).toNatClampNeg 300))), (t1, .inl (gK X 0, 3016, .inl (upd (fun _ => 0) (1 : Int32).toNatClampNeg 0))), (t2, .inl (gK X 0, 3016, .inl (upd (fun _ => 0) (1 : Int32).toNatClampNeg 0))), (t3, .inl (gK X 0, 3016, .inl (upd (fun _ => 0) (1 : Int32).toNatClampNeg 0))), (t4, .inl (gK X 0, 3016, .inl (upd (fun _ => 0) (1 : Int32).toNatClampNeg 0))), (t5, .inl (gK X 0, 3016, .inl (upd (fun _ => 0) (1 : Int32).toNatClampNeg 0))), (t6, .inl (gK X 0, 3016, .inl (upd (fun _ => 0) (1 : Int32).toNatClampNeg 0))), (t7, .inl (gK X 0, 3016, .inl (upd (fun _ => 0) (1 : Int32).toNatClampNeg 0))), (t8, .inl (gK X 1, 3016, .inr (.inl (vp_updL (fun _ => 0) (1 : Int32).toNatClampNeg 0)))), (t9, .inl (gK X 0, 3016, .inl (upd (fun _ => 0) (1 : Int32).toNatClampNeg 0))), (t10, .inl (gK X 0, 3016, .inl (upd (fun _ => 0) (1 : Int32).toNatClampNeg 0)))]) (z := 104) C dX8_add_103 11 rfl (by unfold vp_in; decide) rfl rfl ?_
  refine g_iload_n (z := 105) C dX8_add_104 0 rfl rfl rfl ?_
  exact g_iret C hQ dX8_add_105 rfl (Nat.le_of_ble_eq_true rfl) (Nat.le_of_ble_eq_true rfl) ⟨rfl, rfl⟩
set_option maxHeartbeats 4000000 in
set_option maxRecDepth 100000 in
/-- read of no bytes: no FAULT, the tree has its root alone -/
theorem k_read (l : Launch) (D : va_G) (K : KS) (h0 h1 pP pS pL pN pH pK pO pV t0 t1 t2 t3 t4 t5 t6 t7 t8 t9 t10 hT : Nat) (f fS fL fN fH fT : Nat → Int32) : Con l D K yX6_read cX6_read 8 (some .int) 5 107 0 0 [.ref h0, .ref hT, .int 0] [(h0, .inr (2, [.ref h1, .ref pP, .ref pS, .ref pL, .ref pN, .ref pH, .int 0, .int 0, .int 0, .ref pK, .ref pO, .ref pV, .int 0, .int 0, .int 0, .int 0, .int 0, .int 0])), (pP, .inl (K 2, 3157, .inl (f))), (pS, .inl (K 0, 1544, .inl (fS))), (pL, .inl (K 0, 1544, .inl (fL))), (pN, .inl (K 0, 1544, .inl (fN))), (pH, .inl (K 0, 256, .inl (fH))), (pK, .inl (K 0, 3001, .inl (fun _ => 0))), (pO, .inl (K 0, 3001, .inl (fun _ => 0))), (h1, .inr (1, [.ref t0, .ref t1, .ref t2, .ref t3, .ref t4, .ref t5, .ref t6, .ref t7, .ref t8, .ref t9, .ref t10, .int 1])), (t0, .inl (K 0, 3016, .inl (fun _ => 0))), (t1, .inl (K 0, 3016, .inl (fun _ => 0))), (t2, .inl (K 0, 3016, .inl (fun _ => 0))), (t3, .inl (K 0, 3016, .inl (fun _ => 0))), (t4, .inl (K 0, 3016, .inl (fun _ => 0))), (t5, .inl (K 0, 3016, .inl (fun _ => 0))), (t6, .inl (K 0, 3016, .inl (fun _ => 0))), (t7, .inl (K 0, 3016, .inl (fun _ => 0))), (t8, .inl (K 1, 3016, .inr (.inl (fun _ => 0)))), (t9, .inl (K 0, 3016, .inl (fun _ => 0))), (t10, .inl (K 0, 3016, .inl (fun _ => 0))), (hT, .inl (K 2, 3000, .inl (fT)))] (fun v w => v = some (.int (-1)) ∧ ∃ (xn : Int32) (f2 gS gL gN gH : Nat → Int32), w = [(h0, .inr (2, [.ref h1, .ref pP, .ref pS, .ref pL, .ref pN, .ref pH, .int xn, .int 157, .int 157, .ref pK, .ref pO, .ref pV, .int 1, .int 0, .int 0, .int 0, .int 0, .int (-1)])), (pP, .inl (K 2, 3157, .inl (f2))), (pS, .inl (K 0, 1544, .inl (gS))), (pL, .inl (K 0, 1544, .inl (gL))), (pN, .inl (K 0, 1544, .inl (gN))), (pH, .inl (K 0, 256, .inl (gH))), (pK, .inl (K 0, 3001, .inl (upd (fun _ => 0) (0 : Int32).toNatClampNeg 0))), (pO, .inl (K 0, 3001, .inl (upd (fun _ => 0) (0 : Int32).toNatClampNeg 0))), (h1, .inr (1, [.ref t0, .ref t1, .ref t2, .ref t3, .ref t4, .ref t5, .ref t6, .ref t7, .ref t8, .ref t9, .ref t10, .int 2])), (t0, .inl (K 0, 3016, .inl (upd (fun _ => 0) (1 : Int32).toNatClampNeg 300))), (t1, .inl (K 0, 3016, .inl (upd (fun _ => 0) (1 : Int32).toNatClampNeg 0))), (t2, .inl (K 0, 3016, .inl (upd (fun _ => 0) (1 : Int32).toNatClampNeg 0))), (t3, .inl (K 0, 3016, .inl (upd (fun _ => 0) (1 : Int32).toNatClampNeg 0))), (t4, .inl (K 0, 3016, .inl (upd (fun _ => 0) (1 : Int32).toNatClampNeg 0))), (t5, .inl (K 0, 3016, .inl (upd (fun _ => 0) (1 : Int32).toNatClampNeg 0))), (t6, .inl (K 0, 3016, .inl (upd (fun _ => 0) (1 : Int32).toNatClampNeg 0))), (t7, .inl (K 0, 3016, .inl (upd (fun _ => 0) (1 : Int32).toNatClampNeg 0))), (t8, .inl (K 1, 3016, .inr (.inl (vp_updL (fun _ => 0) (1 : Int32).toNatClampNeg 0)))), (t9, .inl (K 0, 3016, .inl (upd (fun _ => 0) (1 : Int32).toNatClampNeg 0))), (t10, .inl (K 0, 3016, .inl (upd (fun _ => 0) (1 : Int32).toNatClampNeg 0))), (hT, .inl (K 2, 3000, .inl (fT)))]) := by
  refine Con.of (by decide +kernel) (Nat.le_of_ble_eq_true rfl) ?_
  intro X hXl hXD hXK C hR hQ hnm
  subst hXl; subst hXD; subst hXK
  refine g_lv (l2 := [(0, .ref h0), (1, .ref hT), (2, .int 0)]) [0, 1, 2] rfl ?_
  refine g_aload_n (z := 1) C dX6_read_0 1 rfl rfl rfl ?_
  refine g_iconst (v := 0) (z := 2) C dX6_read_1 (by decide) rfl ?_
  refine g_aload_n (z := 3) C dX6_read_2 0 rfl rfl rfl ?_
  refine g_get (z := 6) C kX6 dX6_read_3 0 rfl 1 (by decide) w_132 rfl rfl rfl ?_
  refine g_ldcS (z := 8) C dX6_read_6 (evW C) rfl ?_
  refine g_callVE (n := 0) (As := []) (rest := [.ref pP, .int 0, .ref hT]) (wr := [(h0, .inr (2, [.ref h1, .ref pP, .ref pS, .ref pL, .ref pN, .ref pH, .int 0, .int 0, .int 0, .ref pK, .ref pO, .ref pV, .int 0, .int 0, .int 0, .int 0, .int 0, .int 0])), (pP, .inl (gK X 2, 3157, .inl (f))), (pS, .inl (gK X 0, 1544, .inl (fS))), (pL, .inl (gK X 0, 1544, .inl (fL))), (pN, .inl (gK X 0, 1544, .inl (fN))), (pH, .inl (gK X 0, 256, .inl (fH))), (pK, .inl (gK X 0, 3001, .inl (fun _ => 0))), (pO, .inl (gK X 0, 3001, .inl (fun _ => 0))), (h1, .inr (1, [.ref t0, .ref t1, .ref t2, .ref t3, .ref t4, .ref t5, .ref t6, .ref t7, .ref t8, .ref t9, .ref t10, .int 1])), (t0, .inl (gK X 0, 3016, .inl (fun _ => 0))), (t1, .inl (gK X 0, 3016, .inl (fun _ => 0))), (t2, .inl (gK X 0, 3016, .inl (fun _ => 0))), (t3, .inl (gK X 0, 3016, .inl (fun _ => 0))), (t4, .inl (gK X 0, 3016, .inl (fun _ => 0))), (t5, .inl (gK X 0, 3016, .inl (fun _ => 0))), (t6, .inl (gK X 0, 3016, .inl (fun _ => 0))), (t7, .inl (gK X 0, 3016, .inl (fun _ => 0))), (t8, .inl (gK X 1, 3016, .inr (.inl (fun _ => 0)))), (t9, .inl (gK X 0, 3016, .inl (fun _ => 0))), (t10, .inl (gK X 0, 3016, .inl (fun _ => 0))), (hT, .inl (gK X 2, 3000, .inl (fT)))]) (a2 := 0) (b2 := 0) (z := 11) C hR (k_lengthW (gl X) (gD X) (gK X)) dX6_read_8 w_131 w_737 w_738 w_736 w_391 ⟨by decide +kernel, by decide +kernel, by decide +kernel⟩ [] [0, 1, 2, 3, 4, 5, 6, 7, 8, 9, 10, 11, 12, 13, 14, 15, 16, 17, 18, 19, 20] rfl rfl rfl rfl rfl (by decide) ⟨(Nat.le_of_ble_eq_true rfl), (Nat.le_of_ble_eq_true rfl)⟩ rfl rfl (Nat.le_of_ble_eq_true rfl) (Nat.le_of_ble_eq_true rfl) (Nat.le_of_ble_eq_true rfl) rfl rfl (evWo C) rfl rfl rfl (fun v ws' hp => ?_)
  obtain ⟨rfl, rfl⟩ := hp
  refine g_ws (w2 := [(h0, .inr (2, [.ref h1, .ref pP, .ref pS, .ref pL, .ref pN, .ref pH, .int 0, .int 0, .int 0, .ref pK, .ref pO, .ref pV, .int 0, .int 0, .int 0, .int 0, .int 0, .int 0])), (pP, .inl (gK X 2, 3157, .inl (f))), (pS, .inl (gK X 0, 1544, .inl (fS))), (pL, .inl (gK X 0, 1544, .inl (fL))), (pN, .inl (gK X 0, 1544, .inl (fN))), (pH, .inl (gK X 0, 256, .inl (fH))), (pK, .inl (gK X 0, 3001, .inl (fun _ => 0))), (pO, .inl (gK X 0, 3001, .inl (fun _ => 0))), (h1, .inr (1, [.ref t0, .ref t1, .ref t2, .ref t3, .ref t4, .ref t5, .ref t6, .ref t7, .ref t8, .ref t9, .ref t10, .int 1])), (t0, .inl (gK X 0, 3016, .inl (fun _ => 0))), (t1, .inl (gK X 0, 3016, .inl (fun _ => 0))), (t2, .inl (gK X 0, 3016, .inl (fun _ => 0))), (t3, .inl (gK X 0, 3016, .inl (fun _ => 0))), (t4, .inl (gK X 0, 3016, .inl (fun _ => 0))), (t5, .inl (gK X 0, 3016, .inl (fun _ => 0))), (t6, .inl (gK X 0, 3016, .inl (fun _ => 0))), (t7, .inl (gK X 0, 3016, .inl (fun _ => 0))), (t8, .inl (gK X 1, 3016, .inr (.inl (fun _ => 0)))), (t9, .inl (gK X 0, 3016, .inl (fun _ => 0))), (t10, .inl (gK X 0, 3016, .inl (fun _ => 0))), (hT, .inl (gK X 2, 3000, .inl (fT)))]) rfl ?_
  refine g_st (s2 := [.int 157, .ref pP, .int 0, .ref hT]) rfl ?_
  refine g_iload_n (z := 12) C dX6_read_11 2 rfl rfl rfl ?_
  refine g_copyB (w2 := [(h0, .inr (2, [.ref h1, .ref pP, .ref pS, .ref pL, .ref pN, .ref pH, .int 0, .int 0, .int 0, .ref pK, .ref pO, .ref pV, .int 0, .int 0, .int 0, .int 0, .int 0, .int 0])), (pP, .inl (gK X 2, 3157, .inl (va_cpy (fT) (f) (0 : Int32).toNatClampNeg (157 : Int32).toNatClampNeg (0 : Int32).toNatClampNeg))), (pS, .inl (gK X 0, 1544, .inl (fS))), (pL, .inl (gK X 0, 1544, .inl (fL))), (pN, .inl (gK X 0, 1544, .inl (fN))), (pH, .inl (gK X 0, 256, .inl (fH))), (pK, .inl (gK X 0, 3001, .inl (fun _ => 0))), (pO, .inl (gK X 0, 3001, .inl (fun _ => 0))), (h1, .inr (1, [.ref t0, .ref t1, .ref t2, .ref t3, .ref t4, .ref t5, .ref t6, .ref t7, .ref t8, .ref t9, .ref t10, .int 1])), (t0, .inl (gK X 0, 3016, .inl (fun _ => 0))), (t1, .inl (gK X 0, 3016, .inl (fun _ => 0))), (t2, .inl (gK X 0, 3016, .inl (fun _ => 0))), (t3, .inl (gK X 0, 3016, .inl (fun _ => 0))), (t4, .inl (gK X 0, 3016, .inl (fun _ => 0))), (t5, .inl (gK X 0, 3016, .inl (fun _ => 0))), (t6, .inl (gK X 0, 3016, .inl (fun _ => 0))), (t7, .inl (gK X 0, 3016, .inl (fun _ => 0))), (t8, .inl (gK X 1, 3016, .inr (.inl (fun _ => 0)))), (t9, .inl (gK X 0, 3016, .inl (fun _ => 0))), (t10, .inl (gK X 0, 3016, .inl (fun _ => 0))), (hT, .inl (gK X 2, 3000, .inl (fT)))]) (z := 15) C hR dX6_read_12 w_145 w_147 w_146 w_148 20 1 rfl rfl (by decide) (by decide) (by decide) (by decide) (by decide) (fun i hi => absurd hi (Nat.not_lt_zero i)) (Nat.le_of_ble_eq_true rfl) (by decide) rfl rfl ?_
  generalize hcp : va_cpy fT f (0 : Int32).toNatClampNeg (157 : Int32).toNatClampNeg (0 : Int32).toNatClampNeg = f2
  refine g_aload_n (z := 16) C dX6_read_15 0 rfl rfl rfl ?_
  refine g_ldcS (z := 18) C dX6_read_16 (evW C) rfl ?_
  refine g_callVE (n := 0) (As := []) (rest := [.ref h0]) (wr := [(h0, .inr (2, [.ref h1, .ref pP, .ref pS, .ref pL, .ref pN, .ref pH, .int 0, .int 0, .int 0, .ref pK, .ref pO, .ref pV, .int 0, .int 0, .int 0, .int 0, .int 0, .int 0])), (pP, .inl (gK X 2, 3157, .inl (f2))), (pS, .inl (gK X 0, 1544, .inl (fS))), (pL, .inl (gK X 0, 1544, .inl (fL))), (pN, .inl (gK X 0, 1544, .inl (fN))), (pH, .inl (gK X 0, 256, .inl (fH))), (pK, .inl (gK X 0, 3001, .inl (fun _ => 0))), (pO, .inl (gK X 0, 3001, .inl (fun _ => 0))), (h1, .inr (1, [.ref t0, .ref t1, .ref t2, .ref t3, .ref t4, .ref t5, .ref t6, .ref t7, .ref t8, .ref t9, .ref t10, .int 1])), (t0, .inl (gK X 0, 3016, .inl (fun _ => 0))), (t1, .inl (gK X 0, 3016, .inl (fun _ => 0))), (t2, .inl (gK X 0, 3016, .inl (fun _ => 0))), (t3, .inl (gK X 0, 3016, .inl (fun _ => 0))), (t4, .inl (gK X 0, 3016, .inl (fun _ => 0))), (t5, .inl (gK X 0, 3016, .inl (fun _ => 0))), (t6, .inl (gK X 0, 3016, .inl (fun _ => 0))), (t7, .inl (gK X 0, 3016, .inl (fun _ => 0))), (t8, .inl (gK X 1, 3016, .inr (.inl (fun _ => 0)))), (t9, .inl (gK X 0, 3016, .inl (fun _ => 0))), (t10, .inl (gK X 0, 3016, .inl (fun _ => 0))), (hT, .inl (gK X 2, 3000, .inl (fT)))]) (a2 := 0) (b2 := 0) (z := 21) C hR (k_lengthW (gl X) (gD X) (gK X)) dX6_read_18 w_131 w_737 w_738 w_736 w_391 ⟨by decide +kernel, by decide +kernel, by decide +kernel⟩ [] [0, 1, 2, 3, 4, 5, 6, 7, 8, 9, 10, 11, 12, 13, 14, 15, 16, 17, 18, 19, 20] rfl rfl rfl rfl rfl (by decide) ⟨(Nat.le_of_ble_eq_true rfl), (Nat.le_of_ble_eq_true rfl)⟩ rfl rfl (Nat.le_of_ble_eq_true rfl) (Nat.le_of_ble_eq_true rfl) (Nat.le_of_ble_eq_true rfl) rfl rfl (evWo C) rfl rfl rfl (fun v ws' hp => ?_)
  obtain ⟨rfl, rfl⟩ := hp
  refine g_ws (w2 := [(h0, .inr (2, [.ref h1, .ref pP, .ref pS, .ref pL, .ref pN, .ref pH, .int 0, .int 0, .int 0, .ref pK, .ref pO, .ref pV, .int 0, .int 0, .int 0, .int 0, .int 0, .int 0])), (pP, .inl (gK X 2, 3157, .inl (f2))), (pS, .inl (gK X 0, 1544, .inl (fS))), (pL, .inl (gK X 0, 1544, .inl (fL))), (pN, .inl (gK X 0, 1544, .inl (fN))), (pH, .inl (gK X 0, 256, .inl (fH))), (pK, .inl (gK X 0, 3001, .inl (fun _ => 0))), (pO, .inl (gK X 0, 3001, .inl (fun _ => 0))), (h1, .inr (1, [.ref t0, .ref t1, .ref t2, .ref t3, .ref t4, .ref t5, .ref t6, .ref t7, .ref t8, .ref t9, .ref t10, .int 1])), (t0, .inl (gK X 0, 3016, .inl (fun _ => 0))), (t1, .inl (gK X 0, 3016, .inl (fun _ => 0))), (t2, .inl (gK X 0, 3016, .inl (fun _ => 0))), (t3, .inl (gK X 0, 3016, .inl (fun _ => 0))), (t4, .inl (gK X 0, 3016, .inl (fun _ => 0))), (t5, .inl (gK X 0, 3016, .inl (fun _ => 0))), (t6, .inl (gK X 0, 3016, .inl (fun _ => 0))), (t7, .inl (gK X 0, 3016, .inl (fun _ => 0))), (t8, .inl (gK X 1, 3016, .inr (.inl (fun _ => 0)))), (t9, .inl (gK X 0, 3016, .inl (fun _ => 0))), (t10, .inl (gK X 0, 3016, .inl (fun _ => 0))), (hT, .inl (gK X 2, 3000, .inl (fT)))]) rfl ?_
  refine g_st (s2 := [.int 157, .ref h0]) rfl ?_
  refine g_put (w2 := [(h0, .inr (2, [.ref h1, .ref pP, .ref pS, .ref pL, .ref pN, .ref pH, .int 0, .int 157, .int 0, .ref pK, .ref pO, .ref pV, .int 0, .int 0, .int 0, .int 0, .int 0, .int 0])), (pP, .inl (gK X 2, 3157, .inl (f2))), (pS, .inl (gK X 0, 1544, .inl (fS))), (pL, .inl (gK X 0, 1544, .inl (fL))), (pN, .inl (gK X 0, 1544, .inl (fN))), (pH, .inl (gK X 0, 256, .inl (fH))), (pK, .inl (gK X 0, 3001, .inl (fun _ => 0))), (pO, .inl (gK X 0, 3001, .inl (fun _ => 0))), (h1, .inr (1, [.ref t0, .ref t1, .ref t2, .ref t3, .ref t4, .ref t5, .ref t6, .ref t7, .ref t8, .ref t9, .ref t10, .int 1])), (t0, .inl (gK X 0, 3016, .inl (fun _ => 0))), (t1, .inl (gK X 0, 3016, .inl (fun _ => 0))), (t2, .inl (gK X 0, 3016, .inl (fun _ => 0))), (t3, .inl (gK X 0, 3016, .inl (fun _ => 0))), (t4, .inl (gK X 0, 3016, .inl (fun _ => 0))), (t5, .inl (gK X 0, 3016, .inl (fun _ => 0))), (t6, .inl (gK X 0, 3016, .inl (fun _ => 0))), (t7, .inl (gK X 0, 3016, .inl (fun _ => 0))), (t8, .inl (gK X 1, 3016, .inr (.inl (fun _ => 0)))), (t9, .inl (gK X 0, 3016, .inl (fun _ => 0))), (t10, .inl (gK X 0, 3016, .inl (fun _ => 0))), (hT, .inl (gK X 2, 3000, .inl (fT)))]) (z := 24) C kX6 dX6_read_21 0 rfl 7 (by decide) w_149 rfl rfl rfl rfl (Nat.le_of_ble_eq_true rfl) rfl rfl ?_
  refine g_aload_n (z := 25) C dX6_read_24 0 rfl rfl rfl ?_
  refine g_aload_n (z := 26) C dX6_read_25 0 rfl rfl rfl ?_
  refine g_get (z := 29) C kX6 dX6_read_26 0 rfl 7 (by decide) w_149 rfl rfl rfl ?_
  refine g_iload_n (z := 30) C dX6_read_29 2 rfl rfl rfl ?_
  refine g_iadd (v := 157) (z := 31) C dX6_read_30 (by decide) rfl ?_
  refine g_put (w2 := [(h0, .inr (2, [.ref h1, .ref pP, .ref pS, .ref pL, .ref pN, .ref pH, .int 0, .int 157, .int 157, .ref pK, .ref pO, .ref pV, .int 0, .int 0, .int 0, .int 0, .int 0, .int 0])), (pP, .inl (gK X 2, 3157, .inl (f2))), (pS, .inl (gK X 0, 1544, .inl (fS))), (pL, .inl (gK X 0, 1544, .inl (fL))), (pN, .inl (gK X 0, 1544, .inl (fN))), (pH, .inl (gK X 0, 256, .inl (fH))), (pK, .inl (gK X 0, 3001, .inl (fun _ => 0))), (pO, .inl (gK X 0, 3001, .inl (fun _ => 0))), (h1, .inr (1, [.ref t0, .ref t1, .ref t2, .ref t3, .ref t4, .ref t5, .ref t6, .ref t7, .ref t8, .ref t9, .ref t10, .int 1])), (t0, .inl (gK X 0, 3016, .inl (fun _ => 0))), (t1, .inl (gK X 0, 3016, .inl (fun _ => 0))), (t2, .inl (gK X 0, 3016, .inl (fun _ => 0))), (t3, .inl (gK X 0, 3016, .inl (fun _ => 0))), (t4, .inl (gK X 0, 3016, .inl (fun _ => 0))), (t5, .inl (gK X 0, 3016, .inl (fun _ => 0))), (t6, .inl (gK X 0, 3016, .inl (fun _ => 0))), (t7, .inl (gK X 0, 3016, .inl (fun _ => 0))), (t8, .inl (gK X 1, 3016, .inr (.inl (fun _ => 0)))), (t9, .inl (gK X 0, 3016, .inl (fun _ => 0))), (t10, .inl (gK X 0, 3016, .inl (fun _ => 0))), (hT, .inl (gK X 2, 3000, .inl (fT)))]) (z := 34) C kX6 dX6_read_31 0 rfl 8 (by decide) w_150 rfl rfl rfl rfl (Nat.le_of_ble_eq_true rfl) rfl rfl ?_
  refine g_aload_n (z := 35) C dX6_read_34 0 rfl rfl rfl ?_
  refine g_iconst (v := 0) (z := 36) C dX6_read_35 (by decide) rfl ?_
  refine g_put (w2 := [(h0, .inr (2, [.ref h1, .ref pP, .ref pS, .ref pL, .ref pN, .ref pH, .int 0, .int 157, .int 157, .ref pK, .ref pO, .ref pV, .int 0, .int 0, .int 0, .int 0, .int 0, .int 0])), (pP, .inl (gK X 2, 3157, .inl (f2))), (pS, .inl (gK X 0, 1544, .inl (fS))), (pL, .inl (gK X 0, 1544, .inl (fL))), (pN, .inl (gK X 0, 1544, .inl (fN))), (pH, .inl (gK X 0, 256, .inl (fH))), (pK, .inl (gK X 0, 3001, .inl (fun _ => 0))), (pO, .inl (gK X 0, 3001, .inl (fun _ => 0))), (h1, .inr (1, [.ref t0, .ref t1, .ref t2, .ref t3, .ref t4, .ref t5, .ref t6, .ref t7, .ref t8, .ref t9, .ref t10, .int 1])), (t0, .inl (gK X 0, 3016, .inl (fun _ => 0))), (t1, .inl (gK X 0, 3016, .inl (fun _ => 0))), (t2, .inl (gK X 0, 3016, .inl (fun _ => 0))), (t3, .inl (gK X 0, 3016, .inl (fun _ => 0))), (t4, .inl (gK X 0, 3016, .inl (fun _ => 0))), (t5, .inl (gK X 0, 3016, .inl (fun _ => 0))), (t6, .inl (gK X 0, 3016, .inl (fun _ => 0))), (t7, .inl (gK X 0, 3016, .inl (fun _ => 0))), (t8, .inl (gK X 1, 3016, .inr (.inl (fun _ => 0)))), (t9, .inl (gK X 0, 3016, .inl (fun _ => 0))), (t10, .inl (gK X 0, 3016, .inl (fun _ => 0))), (hT, .inl (gK X 2, 3000, .inl (fT)))]) (z := 39) C kX6 dX6_read_36 0 rfl 16 (by decide) w_151 rfl rfl rfl rfl (Nat.le_of_ble_eq_true rfl) rfl rfl ?_
  refine g_aload_n (z := 40) C dX6_read_39 0 rfl rfl rfl ?_
  refine g_iconst (v := (-1)) (z := 41) C dX6_read_40 (by decide) rfl ?_
  refine g_put (w2 := [(h0, .inr (2, [.ref h1, .ref pP, .ref pS, .ref pL, .ref pN, .ref pH, .int 0, .int 157, .int 157, .ref pK, .ref pO, .ref pV, .int 0, .int 0, .int 0, .int 0, .int 0, .int (-1)])), (pP, .inl (gK X 2, 3157, .inl (f2))), (pS, .inl (gK X 0, 1544, .inl (fS))), (pL, .inl (gK X 0, 1544, .inl (fL))), (pN, .inl (gK X 0, 1544, .inl (fN))), (pH, .inl (gK X 0, 256, .inl (fH))), (pK, .inl (gK X 0, 3001, .inl (fun _ => 0))), (pO, .inl (gK X 0, 3001, .inl (fun _ => 0))), (h1, .inr (1, [.ref t0, .ref t1, .ref t2, .ref t3, .ref t4, .ref t5, .ref t6, .ref t7, .ref t8, .ref t9, .ref t10, .int 1])), (t0, .inl (gK X 0, 3016, .inl (fun _ => 0))), (t1, .inl (gK X 0, 3016, .inl (fun _ => 0))), (t2, .inl (gK X 0, 3016, .inl (fun _ => 0))), (t3, .inl (gK X 0, 3016, .inl (fun _ => 0))), (t4, .inl (gK X 0, 3016, .inl (fun _ => 0))), (t5, .inl (gK X 0, 3016, .inl (fun _ => 0))), (t6, .inl (gK X 0, 3016, .inl (fun _ => 0))), (t7, .inl (gK X 0, 3016, .inl (fun _ => 0))), (t8, .inl (gK X 1, 3016, .inr (.inl (fun _ => 0)))), (t9, .inl (gK X 0, 3016, .inl (fun _ => 0))), (t10, .inl (gK X 0, 3016, .inl (fun _ => 0))), (hT, .inl (gK X 2, 3000, .inl (fT)))]) (z := 44) C kX6 dX6_read_41 0 rfl 17 (by decide) w_152 rfl rfl rfl rfl (Nat.le_of_ble_eq_true rfl) rfl rfl ?_
  refine g_aload_n (z := 45) C dX6_read_44 0 rfl rfl rfl ?_
  refine g_callV (n := 0) (As := []) (rest := []) (wr := [(pK, .inl (gK X 0, 3001, .inl (fun _ => 0))), (pO, .inl (gK X 0, 3001, .inl (fun _ => 0))), (h1, .inr (1, [.ref t0, .ref t1, .ref t2, .ref t3, .ref t4, .ref t5, .ref t6, .ref t7, .ref t8, .ref t9, .ref t10, .int 1])), (t0, .inl (gK X 0, 3016, .inl (fun _ => 0))), (t1, .inl (gK X 0, 3016, .inl (fun _ => 0))), (t2, .inl (gK X 0, 3016, .inl (fun _ => 0))), (t3, .inl (gK X 0, 3016, .inl (fun _ => 0))), (t4, .inl (gK X 0, 3016, .inl (fun _ => 0))), (t5, .inl (gK X 0, 3016, .inl (fun _ => 0))), (t6, .inl (gK X 0, 3016, .inl (fun _ => 0))), (t7, .inl (gK X 0, 3016, .inl (fun _ => 0))), (t8, .inl (gK X 1, 3016, .inr (.inl (fun _ => 0)))), (t9, .inl (gK X 0, 3016, .inl (fun _ => 0))), (t10, .inl (gK X 0, 3016, .inl (fun _ => 0))), (hT, .inl (gK X 2, 3000, .inl (fT)))]) (a2 := 0) (b2 := 0) (z := 48) C hR (k_takeWords (gl X) (gD X) (gK X) h0 h1 pP pS pL pN pH pK pO pV 157 157 0 0 0 0 0 (-1) 0 f2 fS fL fN fH) dX6_read_45 w_153 w_160 w_161 w_159 w_16 ⟨by decide +kernel, by decide +kernel, by decide +kernel⟩ [0, 1, 2, 3, 4, 5] [6, 7, 8, 9, 10, 11, 12, 13, 14, 15, 16, 17, 18, 19, 20] rfl rfl rfl rfl rfl (by decide) ⟨(Nat.le_of_ble_eq_true rfl), (Nat.le_of_ble_eq_true rfl)⟩ rfl rfl (Nat.le_of_ble_eq_true rfl) (Nat.le_of_ble_eq_true rfl) (Nat.le_of_ble_eq_true rfl) rfl rfl 0 kX6 rfl rfl rfl rfl (fun v ws' hp => ?_)
  obtain ⟨rfl, n, gS, gL, gN, gH, rfl⟩ := hp
  refine g_ws (w2 := [(pK, .inl (gK X 0, 3001, .inl (fun _ => 0))), (pO, .inl (gK X 0, 3001, .inl (fun _ => 0))), (h1, .inr (1, [.ref t0, .ref t1, .ref t2, .ref t3, .ref t4, .ref t5, .ref t6, .ref t7, .ref t8, .ref t9, .ref t10, .int 1])), (t0, .inl (gK X 0, 3016, .inl (fun _ => 0))), (t1, .inl (gK X 0, 3016, .inl (fun _ => 0))), (t2, .inl (gK X 0, 3016, .inl (fun _ => 0))), (t3, .inl (gK X 0, 3016, .inl (fun _ => 0))), (t4, .inl (gK X 0, 3016, .inl (fun _ => 0))), (t5, .inl (gK X 0, 3016, .inl (fun _ => 0))), (t6, .inl (gK X 0, 3016, .inl (fun _ => 0))), (t7, .inl (gK X 0, 3016, .inl (fun _ => 0))), (t8, .inl (gK X 1, 3016, .inr (.inl (fun _ => 0)))), (t9, .inl (gK X 0, 3016, .inl (fun _ => 0))), (t10, .inl (gK X 0, 3016, .inl (fun _ => 0))), (hT, .inl (gK X 2, 3000, .inl (fT))), (h0, .inr (2, [.ref h1, .ref pP, .ref pS, .ref pL, .ref pN, .ref pH, .int (nI n), .int 157, .int 157, .ref pK, .ref pO, .ref pV, .int 0, .int 0, .int 0, .int 0, .int 0, .int (-1)])), (pP, .inl (gK X 2, 3157, .inl (f2))), (pS, .inl (gK X 0, 1544, .inl (gS))), (pL, .inl (gK X 0, 1544, .inl (gL))), (pN, .inl (gK X 0, 1544, .inl (gN))), (pH, .inl (gK X 0, 256, .inl (gH)))]) rfl ?_
  refine g_st (s2 := []) rfl ?_
  generalize nI n = xn
  refine g_aload_n (z := 49) C dX6_read_48 0 rfl rfl rfl ?_
  refine g_callV (n := 0) (As := []) (rest := []) (wr := [(h1, .inr (1, [.ref t0, .ref t1, .ref t2, .ref t3, .ref t4, .ref t5, .ref t6, .ref t7, .ref t8, .ref t9, .ref t10, .int 1])), (t0, .inl (gK X 0, 3016, .inl (fun _ => 0))), (t1, .inl (gK X 0, 3016, .inl (fun _ => 0))), (t2, .inl (gK X 0, 3016, .inl (fun _ => 0))), (t3, .inl (gK X 0, 3016, .inl (fun _ => 0))), (t4, .inl (gK X 0, 3016, .inl (fun _ => 0))), (t5, .inl (gK X 0, 3016, .inl (fun _ => 0))), (t6, .inl (gK X 0, 3016, .inl (fun _ => 0))), (t7, .inl (gK X 0, 3016, .inl (fun _ => 0))), (t8, .inl (gK X 1, 3016, .inr (.inl (fun _ => 0)))), (t9, .inl (gK X 0, 3016, .inl (fun _ => 0))), (t10, .inl (gK X 0, 3016, .inl (fun _ => 0))), (hT, .inl (gK X 2, 3000, .inl (fT))), (pP, .inl (gK X 2, 3157, .inl (f2))), (pS, .inl (gK X 0, 1544, .inl (gS))), (pL, .inl (gK X 0, 1544, .inl (gL))), (pN, .inl (gK X 0, 1544, .inl (gN))), (pH, .inl (gK X 0, 256, .inl (gH)))]) (a2 := 0) (b2 := 0) (z := 52) C hR (k_takeTokens (gl X) (gD X) (gK X) h0 h1 pP pS pL pN pH pK pO pV 157 157 0 0 0 0 0 (-1) xn) dX6_read_49 w_154 w_172 w_173 w_171 w_16 ⟨by decide +kernel, by decide +kernel, by decide +kernel⟩ [15, 0, 1] [2, 3, 4, 5, 6, 7, 8, 9, 10, 11, 12, 13, 14, 16, 17, 18, 19, 20] rfl rfl rfl rfl rfl (by decide) ⟨(Nat.le_of_ble_eq_true rfl), (Nat.le_of_ble_eq_true rfl)⟩ rfl rfl (Nat.le_of_ble_eq_true rfl) (Nat.le_of_ble_eq_true rfl) (Nat.le_of_ble_eq_true rfl) rfl rfl 15 kX6 rfl rfl rfl rfl (fun v ws' hp => ?_)
  obtain ⟨rfl, rfl⟩ := hp
  refine g_ws (w2 := [(h1, .inr (1, [.ref t0, .ref t1, .ref t2, .ref t3, .ref t4, .ref t5, .ref t6, .ref t7, .ref t8, .ref t9, .ref t10, .int 1])), (t0, .inl (gK X 0, 3016, .inl (fun _ => 0))), (t1, .inl (gK X 0, 3016, .inl (fun _ => 0))), (t2, .inl (gK X 0, 3016, .inl (fun _ => 0))), (t3, .inl (gK X 0, 3016, .inl (fun _ => 0))), (t4, .inl (gK X 0, 3016, .inl (fun _ => 0))), (t5, .inl (gK X 0, 3016, .inl (fun _ => 0))), (t6, .inl (gK X 0, 3016, .inl (fun _ => 0))), (t7, .inl (gK X 0, 3016, .inl (fun _ => 0))), (t8, .inl (gK X 1, 3016, .inr (.inl (fun _ => 0)))), (t9, .inl (gK X 0, 3016, .inl (fun _ => 0))), (t10, .inl (gK X 0, 3016, .inl (fun _ => 0))), (hT, .inl (gK X 2, 3000, .inl (fT))), (pP, .inl (gK X 2, 3157, .inl (f2))), (pS, .inl (gK X 0, 1544, .inl (gS))), (pL, .inl (gK X 0, 1544, .inl (gL))), (pN, .inl (gK X 0, 1544, .inl (gN))), (pH, .inl (gK X 0, 256, .inl (gH))), (h0, .inr (2, [.ref h1, .ref pP, .ref pS, .ref pL, .ref pN, .ref pH, .int xn, .int 157, .int 157, .ref pK, .ref pO, .ref pV, .int 1, .int 0, .int 0, .int 0, .int 0, .int (-1)])), (pK, .inl (gK X 0, 3001, .inl (upd (fun _ => 0) (0 : Int32).toNatClampNeg 0))), (pO, .inl (gK X 0, 3001, .inl (upd (fun _ => 0) (0 : Int32).toNatClampNeg 0)))]) rfl ?_
  refine g_st (s2 := []) rfl ?_
  refine g_aload_n (z := 53) C dX6_read_52 0 rfl rfl rfl ?_
  refine g_get (z := 56) C kX6 dX6_read_53 18 rfl 0 (by decide) w_140 rfl rfl rfl ?_
  refine g_callVN (n := 0) (As := []) (rest := []) (wr := [(t0, .inl (gK X 0, 3016, .inl (fun _ => 0))), (t1, .inl (gK X 0, 3016, .inl (fun _ => 0))), (t2, .inl (gK X 0, 3016, .inl (fun _ => 0))), (t3, .inl (gK X 0, 3016, .inl (fun _ => 0))), (t4, .inl (gK X 0, 3016, .inl (fun _ => 0))), (t5, .inl (gK X 0, 3016, .inl (fun _ => 0))), (t6, .inl (gK X 0, 3016, .inl (fun _ => 0))), (t7, .inl (gK X 0, 3016, .inl (fun _ => 0))), (t8, .inl (gK X 1, 3016, .inr (.inl (fun _ => 0)))), (t9, .inl (gK X 0, 3016, .inl (fun _ => 0))), (t10, .inl (gK X 0, 3016, .inl (fun _ => 0))), (hT, .inl (gK X 2, 3000, .inl (fT))), (pP, .inl (gK X 2, 3157, .inl (f2))), (pS, .inl (gK X 0, 1544, .inl (gS))), (pL, .inl (gK X 0, 1544, .inl (gL))), (pN, .inl (gK X 0, 1544, .inl (gN))), (pH, .inl (gK X 0, 256, .inl (gH))), (h0, .inr (2, [.ref h1, .ref pP, .ref pS, .ref pL, .ref pN, .ref pH, .int xn, .int 157, .int 157, .ref pK, .ref pO, .ref pV, .int 1, .int 0, .int 0, .int 0, .int 0, .int (-1)])), (pK, .inl (gK X 0, 3001, .inl (upd (fun _ => 0) (0 : Int32).toNatClampNeg 0))), (pO, .inl (gK X 0, 3001, .inl (upd (fun _ => 0) (0 : Int32).toNatClampNeg 0)))]) (a2 := 0) (b2 := 0) (z := 59) C hR (k_X8_clear (gl X) (gD X) (gK X) h1 t0 t1 t2 t3 t4 t5 t6 t7 t8 t9 t10) dX6_read_56 nw_35 w_123 w_124 w_122 w_12 ⟨by decide +kernel, by decide +kernel, by decide +kernel⟩ [0] [1, 2, 3, 4, 5, 6, 7, 8, 9, 10, 11, 12, 13, 14, 15, 16, 17, 18, 19, 20] rfl rfl rfl rfl rfl (by decide) ⟨(Nat.le_of_ble_eq_true rfl), (Nat.le_of_ble_eq_true rfl)⟩ rfl rfl (Nat.le_of_ble_eq_true rfl) (Nat.le_of_ble_eq_true rfl) (Nat.le_of_ble_eq_true rfl) rfl rfl 0 kX8 rfl rfl rfl rfl (fun v ws' hp => ?_)
  obtain ⟨rfl, rfl⟩ := hp
  refine g_ws (w2 := [(t0, .inl (gK X 0, 3016, .inl (fun _ => 0))), (t1, .inl (gK X 0, 3016, .inl (fun _ => 0))), (t2, .inl (gK X 0, 3016, .inl (fun _ => 0))), (t3, .inl (gK X 0, 3016, .inl (fun _ => 0))), (t4, .inl (gK X 0, 3016, .inl (fun _ => 0))), (t5, .inl (gK X 0, 3016, .inl (fun _ => 0))), (t6, .inl (gK X 0, 3016, .inl (fun _ => 0))), (t7, .inl (gK X 0, 3016, .inl (fun _ => 0))), (t8, .inl (gK X 1, 3016, .inr (.inl (fun _ => 0)))), (t9, .inl (gK X 0, 3016, .inl (fun _ => 0))), (t10, .inl (gK X 0, 3016, .inl (fun _ => 0))), (hT, .inl (gK X 2, 3000, .inl (fT))), (pP, .inl (gK X 2, 3157, .inl (f2))), (pS, .inl (gK X 0, 1544, .inl (gS))), (pL, .inl (gK X 0, 1544, .inl (gL))), (pN, .inl (gK X 0, 1544, .inl (gN))), (pH, .inl (gK X 0, 256, .inl (gH))), (h0, .inr (2, [.ref h1, .ref pP, .ref pS, .ref pL, .ref pN, .ref pH, .int xn, .int 157, .int 157, .ref pK, .ref pO, .ref pV, .int 1, .int 0, .int 0, .int 0, .int 0, .int (-1)])), (pK, .inl (gK X 0, 3001, .inl (upd (fun _ => 0) (0 : Int32).toNatClampNeg 0))), (pO, .inl (gK X 0, 3001, .inl (upd (fun _ => 0) (0 : Int32).toNatClampNeg 0))), (h1, .inr (1, [.ref t0, .ref t1, .ref t2, .ref t3, .ref t4, .ref t5, .ref t6, .ref t7, .ref t8, .ref t9, .ref t10, .int 1]))]) rfl ?_
  refine g_st (s2 := []) rfl ?_
  refine g_aload_n (z := 60) C dX6_read_59 0 rfl rfl rfl ?_
  refine g_iconst (v := (-1)) (z := 61) C dX6_read_60 (by decide) rfl ?_
  refine g_put (w2 := [(t0, .inl (gK X 0, 3016, .inl (fun _ => 0))), (t1, .inl (gK X 0, 3016, .inl (fun _ => 0))), (t2, .inl (gK X 0, 3016, .inl (fun _ => 0))), (t3, .inl (gK X 0, 3016, .inl (fun _ => 0))), (t4, .inl (gK X 0, 3016, .inl (fun _ => 0))), (t5, .inl (gK X 0, 3016, .inl (fun _ => 0))), (t6, .inl (gK X 0, 3016, .inl (fun _ => 0))), (t7, .inl (gK X 0, 3016, .inl (fun _ => 0))), (t8, .inl (gK X 1, 3016, .inr (.inl (fun _ => 0)))), (t9, .inl (gK X 0, 3016, .inl (fun _ => 0))), (t10, .inl (gK X 0, 3016, .inl (fun _ => 0))), (hT, .inl (gK X 2, 3000, .inl (fT))), (pP, .inl (gK X 2, 3157, .inl (f2))), (pS, .inl (gK X 0, 1544, .inl (gS))), (pL, .inl (gK X 0, 1544, .inl (gL))), (pN, .inl (gK X 0, 1544, .inl (gN))), (pH, .inl (gK X 0, 256, .inl (gH))), (h0, .inr (2, [.ref h1, .ref pP, .ref pS, .ref pL, .ref pN, .ref pH, .int xn, .int 157, .int 157, .ref pK, .ref pO, .ref pV, .int 1, .int (-1), .int 0, .int 0, .int 0, .int (-1)])), (pK, .inl (gK X 0, 3001, .inl (upd (fun _ => 0) (0 : Int32).toNatClampNeg 0))), (pO, .inl (gK X 0, 3001, .inl (upd (fun _ => 0) (0 : Int32).toNatClampNeg 0))), (h1, .inr (1, [.ref t0, .ref t1, .ref t2, .ref t3, .ref t4, .ref t5, .ref t6, .ref t7, .ref t8, .ref t9, .ref t10, .int 1]))]) (z := 64) C kX6 dX6_read_61 17 rfl 13 (by decide) w_155 rfl rfl rfl rfl (Nat.le_of_ble_eq_true rfl) rfl rfl ?_
  refine g_aload_n (z := 65) C dX6_read_64 0 rfl rfl rfl ?_
  refine g_callV (n := 0) (As := []) (rest := []) (wr := [(t0, .inl (gK X 0, 3016, .inl (fun _ => 0))), (t1, .inl (gK X 0, 3016, .inl (fun _ => 0))), (t2, .inl (gK X 0, 3016, .inl (fun _ => 0))), (t3, .inl (gK X 0, 3016, .inl (fun _ => 0))), (t4, .inl (gK X 0, 3016, .inl (fun _ => 0))), (t5, .inl (gK X 0, 3016, .inl (fun _ => 0))), (t6, .inl (gK X 0, 3016, .inl (fun _ => 0))), (t7, .inl (gK X 0, 3016, .inl (fun _ => 0))), (t8, .inl (gK X 1, 3016, .inr (.inl (fun _ => 0)))), (t9, .inl (gK X 0, 3016, .inl (fun _ => 0))), (t10, .inl (gK X 0, 3016, .inl (fun _ => 0))), (hT, .inl (gK X 2, 3000, .inl (fT))), (pP, .inl (gK X 2, 3157, .inl (f2))), (pS, .inl (gK X 0, 1544, .inl (gS))), (pL, .inl (gK X 0, 1544, .inl (gL))), (pN, .inl (gK X 0, 1544, .inl (gN))), (pH, .inl (gK X 0, 256, .inl (gH))), (h1, .inr (1, [.ref t0, .ref t1, .ref t2, .ref t3, .ref t4, .ref t5, .ref t6, .ref t7, .ref t8, .ref t9, .ref t10, .int 1]))]) (a2 := 0) (b2 := 0) (z := 68) C hR (k_advance (gl X) (gD X) (gK X) h0 h1 pP pS pL pN pH pK pO pV 157 157 1 (-1) 0 0 0 (-1) xn) dX6_read_65 w_156 w_180 w_181 w_179 w_16 ⟨by decide +kernel, by decide +kernel, by decide +kernel⟩ [17, 18, 19] [0, 1, 2, 3, 4, 5, 6, 7, 8, 9, 10, 11, 12, 13, 14, 15, 16, 20] rfl rfl rfl rfl rfl (by decide) ⟨(Nat.le_of_ble_eq_true rfl), (Nat.le_of_ble_eq_true rfl)⟩ rfl rfl (Nat.le_of_ble_eq_true rfl) (Nat.le_of_ble_eq_true rfl) (Nat.le_of_ble_eq_true rfl) rfl rfl 17 kX6 rfl rfl rfl rfl (fun v ws' hp => ?_)
  obtain ⟨rfl, rfl⟩ := hp
  refine g_ws (w2 := [(t0, .inl (gK X 0, 3016, .inl (fun _ => 0))), (t1, .inl (gK X 0, 3016, .inl (fun _ => 0))), (t2, .inl (gK X 0, 3016, .inl (fun _ => 0))), (t3, .inl (gK X 0, 3016, .inl (fun _ => 0))), (t4, .inl (gK X 0, 3016, .inl (fun _ => 0))), (t5, .inl (gK X 0, 3016, .inl (fun _ => 0))), (t6, .inl (gK X 0, 3016, .inl (fun _ => 0))), (t7, .inl (gK X 0, 3016, .inl (fun _ => 0))), (t8, .inl (gK X 1, 3016, .inr (.inl (fun _ => 0)))), (t9, .inl (gK X 0, 3016, .inl (fun _ => 0))), (t10, .inl (gK X 0, 3016, .inl (fun _ => 0))), (hT, .inl (gK X 2, 3000, .inl (fT))), (pP, .inl (gK X 2, 3157, .inl (f2))), (pS, .inl (gK X 0, 1544, .inl (gS))), (pL, .inl (gK X 0, 1544, .inl (gL))), (pN, .inl (gK X 0, 1544, .inl (gN))), (pH, .inl (gK X 0, 256, .inl (gH))), (h1, .inr (1, [.ref t0, .ref t1, .ref t2, .ref t3, .ref t4, .ref t5, .ref t6, .ref t7, .ref t8, .ref t9, .ref t10, .int 1])), (h0, .inr (2, [.ref h1, .ref pP, .ref pS, .ref pL, .ref pN, .ref pH, .int xn, .int 157, .int 157, .ref pK, .ref pO, .ref pV, .int 1, .int 0, .int 0, .int 0, .int 0, .int (-1)])), (pK, .inl (gK X 0, 3001, .inl (upd (fun _ => 0) (0 : Int32).toNatClampNeg 0))), (pO, .inl (gK X 0, 3001, .inl (upd (fun _ => 0) (0 : Int32).toNatClampNeg 0)))]) rfl ?_
  refine g_st (s2 := []) rfl ?_
  refine g_aload_n (z := 69) C dX6_read_68 0 rfl rfl rfl ?_
  refine g_get (z := 72) C kX6 dX6_read_69 18 rfl 0 (by decide) w_140 rfl rfl rfl ?_
  refine g_sipush (v := 300) (z := 75) C dX6_read_72 (by decide) rfl ?_
  refine g_iconst (v := 0) (z := 76) C dX6_read_75 (by decide) rfl ?_
  refine g_callVN (n := 2) (As := [.int 300, .int 0]) (rest := []) (wr := [(hT, .inl (gK X 2, 3000, .inl (fT))), (pP, .inl (gK X 2, 3157, .inl (f2))), (pS, .inl (gK X 0, 1544, .inl (gS))), (pL, .inl (gK X 0, 1544, .inl (gL))), (pN, .inl (gK X 0, 1544, .inl (gN))), (pH, .inl (gK X 0, 256, .inl (gH))), (h0, .inr (2, [.ref h1, .ref pP, .ref pS, .ref pL, .ref pN, .ref pH, .int xn, .int 157, .int 157, .ref pK, .ref pO, .ref pV, .int 1, .int 0, .int 0, .int 0, .int 0, .int (-1)])), (pK, .inl (gK X 0, 3001, .inl (upd (fun _ => 0) (0 : Int32).toNatClampNeg 0))), (pO, .inl (gK X 0, 3001, .inl (upd (fun _ => 0) (0 : Int32).toNatClampNeg 0)))]) (a2 := 0) (b2 := 0) (z := 79) C hR (k_X8_add (gl X) (gD X) (gK X) h1 t0 t1 t2 t3 t4 t5 t6 t7 t8 t9 t10) dX6_read_76 nw_36 w_126 w_127 w_125 w_12 ⟨by decide +kernel, by decide +kernel, by decide +kernel⟩ [17, 0, 1, 2, 3, 4, 5, 6, 7, 8, 9, 10] [11, 12, 13, 14, 15, 16, 18, 19, 20] rfl rfl rfl rfl rfl (by decide) ⟨(Nat.le_of_ble_eq_true rfl), (Nat.le_of_ble_eq_true rfl)⟩ rfl rfl (Nat.le_of_ble_eq_true rfl) (Nat.le_of_ble_eq_true rfl) (Nat.le_of_ble_eq_true rfl) rfl rfl 17 kX8 rfl rfl rfl rfl (fun v ws' hp => ?_)
  obtain ⟨rfl, rfl⟩ := hp
  refine g_ws (w2 := [(hT, .inl (gK X 2, 3000, .inl (fT))), (pP, .inl (gK X 2, 3157, .inl (f2))), (pS, .inl (gK X 0, 1544, .inl (gS))), (pL, .inl (gK X 0, 1544, .inl (gL))), (pN, .inl (gK X 0, 1544, .inl (gN))), (pH, .inl (gK X 0, 256, .inl (gH))), (h0, .inr (2, [.ref h1, .ref pP, .ref pS, .ref pL, .ref pN, .ref pH, .int xn, .int 157, .int 157, .ref pK, .ref pO, .ref pV, .int 1, .int 0, .int 0, .int 0, .int 0, .int (-1)])), (pK, .inl (gK X 0, 3001, .inl (upd (fun _ => 0) (0 : Int32).toNatClampNeg 0))), (pO, .inl (gK X 0, 3001, .inl (upd (fun _ => 0) (0 : Int32).toNatClampNeg 0))), (h1, .inr (1, [.ref t0, .ref t1, .ref t2, .ref t3, .ref t4, .ref t5, .ref t6, .ref t7, .ref t8, .ref t9, .ref t10, .int 2])), (t0, .inl (gK X 0, 3016, .inl (upd (fun _ => 0) (1 : Int32).toNatClampNeg 300))), (t1, .inl (gK X 0, 3016, .inl (upd (fun _ => 0) (1 : Int32).toNatClampNeg 0))), (t2, .inl (gK X 0, 3016, .inl (upd (fun _ => 0) (1 : Int32).toNatClampNeg 0))), (t3, .inl (gK X 0, 3016, .inl (upd (fun _ => 0) (1 : Int32).toNatClampNeg 0))), (t4, .inl (gK X 0, 3016, .inl (upd (fun _ => 0) (1 : Int32).toNatClampNeg 0))), (t5, .inl (gK X 0, 3016, .inl (upd (fun _ => 0) (1 : Int32).toNatClampNeg 0))), (t6, .inl (gK X 0, 3016, .inl (upd (fun _ => 0) (1 : Int32).toNatClampNeg 0))), (t7, .inl (gK X 0, 3016, .inl (upd (fun _ => 0) (1 : Int32).toNatClampNeg 0))), (t8, .inl (gK X 1, 3016, .inr (.inl (vp_updL (fun _ => 0) (1 : Int32).toNatClampNeg 0)))), (t9, .inl (gK X 0, 3016, .inl (upd (fun _ => 0) (1 : Int32).toNatClampNeg 0))), (t10, .inl (gK X 0, 3016, .inl (upd (fun _ => 0) (1 : Int32).toNatClampNeg 0)))]) rfl ?_
  refine g_st (s2 := [.int 1]) rfl ?_
  refine g_istore_n (l2 := [(3, .int 1), (0, .ref h0), (1, .ref hT), (2, .int 0)]) (z := 80) C dX6_read_79 rfl (by decide) rfl rfl ?_
  refine g_iconst (v := 0) (z := 81) C dX6_read_80 (by decide) rfl ?_
  refine g_istore (l2 := [(4, .int 0), (3, .int 1), (0, .ref h0), (1, .ref hT), (2, .int 0)]) (z := 83) C dX6_read_81 (by decide) rfl rfl ?_
  refine g_iconst (v := 0) (z := 84) C dX6_read_83 (by decide) rfl ?_
  refine g_istore (l2 := [(5, .int 0), (4, .int 0), (3, .int 1), (0, .ref h0), (1, .ref hT), (2, .int 0)]) (z := 86) C dX6_read_84 (by decide) rfl rfl ?_
  refine g_iload (z := 88) C dX6_read_86 0 rfl rfl ?_
  refine g_sipush (v := 3000) (z := 91) C dX6_read_88 (by decide) rfl ?_
  refine g_icmp_gt_f (z := 94) 210 C dX6_read_91 (by decide) (by decide) rfl ?_
  refine g_aload_n (z := 95) C dX6_read_94 3 rfl rfl rfl ?_
  refine g_get (z := 98) C kX6 dX6_read_95 6 rfl 14 (by decide) w_157 rfl rfl rfl ?_
  refine g_if_eq_t (z := 210) C dX6_read_98 (by decide) (by decide) ?_
  refine g_aload_n (z := 211) C dX6_read_210 3 rfl rfl rfl ?_
  refine g_get (z := 214) C kX6 dX6_read_211 6 rfl 17 (by decide) w_152 rfl rfl rfl ?_
  refine g_sub (w2 := [(h0, .inr (2, [.ref h1, .ref pP, .ref pS, .ref pL, .ref pN, .ref pH, .int xn, .int 157, .int 157, .ref pK, .ref pO, .ref pV, .int 1, .int 0, .int 0, .int 0, .int 0, .int (-1)])), (pP, .inl (gK X 2, 3157, .inl (f2))), (pS, .inl (gK X 0, 1544, .inl (gS))), (pL, .inl (gK X 0, 1544, .inl (gL))), (pN, .inl (gK X 0, 1544, .inl (gN))), (pH, .inl (gK X 0, 256, .inl (gH))), (pK, .inl (gK X 0, 3001, .inl (upd (fun _ => 0) (0 : Int32).toNatClampNeg 0))), (pO, .inl (gK X 0, 3001, .inl (upd (fun _ => 0) (0 : Int32).toNatClampNeg 0))), (h1, .inr (1, [.ref t0, .ref t1, .ref t2, .ref t3, .ref t4, .ref t5, .ref t6, .ref t7, .ref t8, .ref t9, .ref t10, .int 2])), (t0, .inl (gK X 0, 3016, .inl (upd (fun _ => 0) (1 : Int32).toNatClampNeg 300))), (t1, .inl (gK X 0, 3016, .inl (upd (fun _ => 0) (1 : Int32).toNatClampNeg 0))), (t2, .inl (gK X 0, 3016, .inl (upd (fun _ => 0) (1 : Int32).toNatClampNeg 0))), (t3, .inl (gK X 0, 3016, .inl (upd (fun _ => 0) (1 : Int32).toNatClampNeg 0))), (t4, .inl (gK X 0, 3016, .inl (upd (fun _ => 0) (1 : Int32).toNatClampNeg 0))), (t5, .inl (gK X 0, 3016, .inl (upd (fun _ => 0) (1 : Int32).toNatClampNeg 0))), (t6, .inl (gK X 0, 3016, .inl (upd (fun _ => 0) (1 : Int32).toNatClampNeg 0))), (t7, .inl (gK X 0, 3016, .inl (upd (fun _ => 0) (1 : Int32).toNatClampNeg 0))), (t8, .inl (gK X 1, 3016, .inr (.inl (vp_updL (fun _ => 0) (1 : Int32).toNatClampNeg 0)))), (t9, .inl (gK X 0, 3016, .inl (upd (fun _ => 0) (1 : Int32).toNatClampNeg 0))), (t10, .inl (gK X 0, 3016, .inl (upd (fun _ => 0) (1 : Int32).toNatClampNeg 0))), (hT, .inl (gK X 2, 3000, .inl (fT)))]) [6, 1, 2, 3, 4, 5, 7, 8, 9, 10, 11, 12, 13, 14, 15, 16, 17, 18, 19, 20, 0] rfl rfl rfl ?_
  exact g_iret C hQ dX6_read_214 rfl (Nat.le_of_ble_eq_true rfl) (Nat.le_of_ble_eq_true rfl) ⟨rfl, xn, f2, gS, gL, gN, gH, rfl⟩
end
section
theorem dX3_init_0 : decode cX3_init 0 = .ok (.aload_n 0, 1) := by decide +kernel
theorem dX3_init_1 : decode cX3_init 1 = .ok (.invokespecial 3, 3) := by decide +kernel
theorem dX3_init_4 : decode cX3_init 4 = .ok (.aload_n 0, 1) := by decide +kernel
theorem dX3_init_5 : decode cX3_init 5 = .ok (.new 9, 3) := by decide +kernel
theorem dX3_init_8 : decode cX3_init 8 = .ok (.dup, 1) := by decide +kernel
theorem dX3_init_9 : decode cX3_init 9 = .ok (.invokespecial 11, 3) := by decide +kernel
theorem dX3_init_12 : decode cX3_init 12 = .ok (.putfield 12, 3) := by decide +kernel
theorem dX3_init_15 : decode cX3_init 15 = .ok (.aload_n 0, 1) := by decide +kernel
theorem dX3_init_16 : decode cX3_init 16 = .ok (.bipush 40, 2) := by decide +kernel
theorem dX3_init_18 : decode cX3_init 18 = .ok (.iconst 4, 1) := by decide +kernel
theorem dX3_init_19 : decode cX3_init 19 = .ok (.multianewarray 18 2, 4) := by decide +kernel
theorem dX3_init_23 : decode cX3_init 23 = .ok (.putfield 20, 3) := by decide +kernel
theorem dX3_init_26 : decode cX3_init 26 = .ok (.aload_n 0, 1) := by decide +kernel
theorem dX3_init_27 : decode cX3_init 27 = .ok (.bipush 8, 2) := by decide +kernel
theorem dX3_init_29 : decode cX3_init 29 = .ok (.newarray .long, 2) := by decide +kernel
theorem dX3_init_31 : decode cX3_init 31 = .ok (.putfield 23, 3) := by decide +kernel
theorem dX3_init_34 : decode cX3_init 34 = .ok (.return_, 1) := by decide +kernel
def va_AOA (t : FieldType) (U : State) : Prop := (Cond.arrayOver (.array t)).before #[] U = true
theorem va_AOA.use {t : FieldType} {A : Array Value} {U : State} (h : va_AOA t U) : (Cond.arrayOver (.array t)).before A U = true := h
/-! ===== BEGIN new T[n][m]: the outer array a place, the inner ones among the pooled ===== -/
/-- f, but v at every address of l -/
def vr_up {α : Type} (f : Nat → α) (l : List Nat) (v : α) : Nat → α := fun a => if a ∈ l then v else f a
theorem vr_up_in {α : Type} {f : Nat → α} {l : List Nat} {v : α} {a : Nat} (h : a ∈ l) : vr_up f l v a = v := if_pos h
theorem vr_up_ne {α : Type} {f : Nat → α} {l : List Nat} {v : α} {a : Nat} (h : a ∉ l) : vr_up f l v a = f a := if_neg h
theorem vr_rows {L l : List Nat} {f : Nat → va_E} {e : va_E} (h : ∀ a, a ∈ l → a ∉ L) : va_pl L f ++ l.map (fun a => (a, e)) = va_pl (L ++ l) (vr_up f l e) := by
  unfold va_pl
  rw [List.map_append]
  congr 1
  · apply List.map_congr_left
    intro a ha
    rw [vr_up_ne (fun q => h a q ha)]
  · apply List.map_congr_left
    intro a ha
    rw [vr_up_in ha]
theorem vr_lay {X rows : va_W} {x : Nat × va_E} {pl : va_W} {D : va_G} {cl : List vw_C} {H : Heap} (hP : va_P D cl (((X ++ pl) ++ [x]) ++ rows) H) : va_P D cl ((X ++ [x]) ++ (pl ++ rows)) H := by
  rw [List.append_assoc (X ++ pl)] at hP
  have h := va_P.swap hP
  rw [← List.append_assoc X] at h
  have h2 := va_P.swap h
  rw [List.append_assoc (X ++ [x])] at h2
  exact h2
theorem vr_layD {X rows : va_W} {x : Nat × va_E} {pl : va_W} {A : Nat → Prop} (hD : va_D A (((X ++ pl) ++ [x]) ++ rows)) : va_D A ((X ++ [x]) ++ (pl ++ rows)) := by
  rw [List.append_assoc (X ++ pl)] at hD
  have h := va_D.swap hD
  rw [← List.append_assoc X] at h
  have h2 := va_D.swap h
  rw [List.append_assoc (X ++ [x])] at h2
  exact h2
theorem vr_outer (c : ClassId) (N h0 : Nat) : ∀ i : Nat, Jvm.Free.Multi.outerC c N h0 i = arrV c N (fun j => va_rf (if j < i then some (h0 + 1 + j) else none))
  | 0 => by
    show ({ cls := c, slots := Array.replicate N .null, vm := .none } : Cell) = _
    rw [arrV_new]
    refine congrArg (arrV c N) (funext fun j => ?_)
    simp [va_rf]
  | i + 1 => by
    show (Jvm.Free.Multi.outerC c N h0 i).setSlot i (.ref (h0 + 1 + i)) = _
    rw [vr_outer c N h0 i, arrV_store]
    refine congrArg (arrV c N) (funext fun j => ?_)
    by_cases e : j = i
    · subst e
      simp [updV, va_rf]
    · by_cases h : j < i
      · simp [updV, e, h, Nat.lt_succ_of_lt h]
      · simp [updV, e, h, show ¬ j < i + 1 by omega]
section VGM
variable {p : Program} {l : Launch} {e : Env} {R : Room} {s : State} {m : MethodId} {args : Array Value} {below : List Frame} {meth : Method} {c : Code} {H : Heap} {locs : List Loc} {cells slots : Nat} {Q : State → Prop}
variable {cc : ByteArray} {pc : Nat} {ls : Array Slot} {rest : List Value} {D : va_G} {cl : List vw_C} {A : Nat → Prop} {a : Nat} {tys : List (ClassId × FieldType)} {ws : va_W} {H0 : Heap}
theorem va_mna {X : va_W} {L : List Nat} {f : Nat → va_E} {cc : ByteArray} (hexec : p.tables.exec = Jvm.exec) (hb : c.code = cc) {own : String} {index : Nat} {ty : FieldType} {cy : ClassId} (hown : s.vm.findClass own = some m.cls) (hclink : (Cond.classLink own index ("[" ++ (FieldType.array ty).toString)).before args s = true) (hover : va_AOA ty s) (harr : (Cond.arrayClass ty).before args s = true) (hcy : s.vm.findClass (FieldType.array ty).toString = some cy)
    (hK : va_K D cl tys s) (hP : va_P D cl (X ++ va_pl L f) H) (hD : va_D A (X ++ va_pl L f)) (hS : va_S A H0 H locs) (hA : ∀ q, H0.size ≤ q → A q) {n k : Int32} {N' K' : Nat} {z : vp_A} (hn : ¬ n < 0) (hk : ¬ k < 0) (hN : n.toNatClampNeg = N') (hM : k.toNatClampNeg = K')
    (hb1 : N' * 4 ≤ 536870912) (hb2 : K' * componentBytes ty ≤ 536870912) (hb3 : K' ≤ 536870912) (hdf : fits ty (defaultValue ty) = true) (hdd : (defaultValue ty).isDefault = true) (hcells : cells + (1 + N') ≤ R.cells) (hslots : slots + (N' + N' * K') ≤ R.slots) (hz : ∀ c : ClassId, Jvm.Free.Multi.innerC c K' (defaultValue ty) = vp_cell c z) (hdg : decode cc pc = .ok (.multianewarray index 2, 4))
    (kk : ∀ (q : Nat) (r : Nat → Nat) (cA : ClassId) (H1 : Heap), (∀ i j : Nat, i < N' → j < N' → r i = r j → i = j) → (∀ i : Nat, i < N' → r i ∉ L) → va_K D cl (tys ++ [(cA, .array ty)]) s →
      va_P D cl ((X ++ [(q, .inl (cA, N', .inr (.inr (.inr (.inr (fun i => if i < N' then some (r i) else none))))))]) ++ va_pl (L ++ (List.range N').map r) (vr_up f ((List.range N').map r) (.inl (cy, z)))) H1 → va_D A ((X ++ [(q, .inl (cA, N', .inr (.inr (.inr (.inr (fun i => if i < N' then some (r i) else none))))))]) ++ va_pl (L ++ (List.range N').map r) (vr_up f ((List.range N').map r) (.inl (cy, z)))) → va_S A H0 H1 locs →
      W p l e R s m args below meth c H1 locs (cells + 1 + N') (slots + N' + N' * K') Q (F0 m (pc + 4) ls (.ref q :: rest))) : W p l e R s m args below meth c H locs cells slots Q (F0 m pc ls (.int k :: .int n :: rest)) := by
  subst hN
  subst hM
  intro T hT Xs
  obtain ⟨vm₁, cA, comp, -, fA, fC, hO, -, X', step⟩ := Xs.multianewarray2F hexec hown hclink (va_AOA.use hover) harr (g := F0 m pc ls (.int k :: .int n :: rest)) rfl (by rw [hb]; exact hdg) rfl hn hk hb1 hb2 hb3 hdf hdd hcells hslots
  have ec : some cy = some comp := hcy.symm.trans fC
  cases ec
  generalize hF : Jvm.Free.Multi.fill (T.setVm vm₁) cA cy n.toNatClampNeg k.toNatClampNeg (defaultValue ty) n.toNatClampNeg = F at X' step
  have hTh : (T.setVm vm₁).heap = H := hT
  obtain ⟨f1, f2, -, -⟩ := Jvm.Free.Multi.fill_facts (T.setVm vm₁) cA cy n.toNatClampNeg k.toNatClampNeg (defaultValue ty) n.toNatClampNeg
  rw [hF, hTh] at f1 f2
  have hold : ∀ x : Nat, x < H.size → F.heap[x]? = H[x]? := fun x hx => by
    have := Jvm.Free.Multi.fill_old (T.setVm vm₁) cA cy n.toNatClampNeg k.toNatClampNeg (defaultValue ty) (a := x) (by rw [hTh]; exact hx) n.toNatClampNeg
    rw [hF, hTh] at this
    exact this
  have hrow : ∀ j : Nat, j < n.toNatClampNeg → F.heap[H.size + 1 + j]? = some (vp_cell cy z) := fun j hj => by
    have := Jvm.Free.Multi.fill_inner (T.setVm vm₁) cA cy n.toNatClampNeg k.toNatClampNeg (defaultValue ty) n.toNatClampNeg j hj
    rw [hF, hTh, hz] at this
    exact this
  have hout : Jvm.Free.Multi.outerC cA n.toNatClampNeg H.size n.toNatClampNeg = vp_cell cA (n.toNatClampNeg, .inr (.inr (.inr (.inr (fun i => if i < n.toNatClampNeg then some (H.size + 1 + i) else none))))) := by
    rw [vp_cell_q]
    exact vr_outer cA n.toNatClampNeg H.size n.toNatClampNeg
  rw [hout] at f2
  have hlt : ∀ a, a ∈ L → a < H.size := fun a ha => by
    obtain ⟨k9, hk9⟩ := va_pl_get (X := X) (f := f) ha
    exact (hP k9 _ hk9).lt
  have hnl : ∀ i : Nat, i < n.toNatClampNeg → H.size + 1 + i ∉ L := fun i _ h => by
    have := hlt _ h
    omega
  have hnm : ∀ a, a ∈ (List.range n.toNatClampNeg).map (fun i => H.size + 1 + i) → a ∉ L := fun a ha h => by
    obtain ⟨i, -, rfl⟩ := List.mem_map.mp ha
    have := hlt _ h
    omega
  have hP0 : va_P D cl (X ++ va_pl L f) F.heap := hP.kept (fun k9 x hx => hold x.1 ((hP k9 x hx).lt))
  have hP1 : va_P D cl ((X ++ va_pl L f) ++ [(H.size, .inl (cA, n.toNatClampNeg, .inr (.inr (.inr (.inr (fun i => if i < n.toNatClampNeg then some (H.size + 1 + i) else none))))))]) F.heap := hP0.app (fun k9 x hx => by
    have h0 : k9 < 1 := (List.getElem?_eq_some_iff.mp hx).1
    rw [show k9 = 0 by omega] at hx
    cases hx
    exact f2)
  have hP2 : va_P D cl (((X ++ va_pl L f) ++ [(H.size, .inl (cA, n.toNatClampNeg, .inr (.inr (.inr (.inr (fun i => if i < n.toNatClampNeg then some (H.size + 1 + i) else none))))))]) ++ ((List.range n.toNatClampNeg).map (fun i => H.size + 1 + i)).map (fun a => (a, .inl (cy, z)))) F.heap := hP1.app (fun k9 x hx => by
    obtain ⟨a, ha, rfl⟩ := List.mem_map.mp (List.mem_of_getElem? hx)
    obtain ⟨i, hi, rfl⟩ := List.mem_map.mp ha
    exact hrow i (List.mem_range.mp hi))
  have hD2 : va_D A (((X ++ va_pl L f) ++ [(H.size, .inl (cA, n.toNatClampNeg, .inr (.inr (.inr (.inr (fun i => if i < n.toNatClampNeg then some (H.size + 1 + i) else none))))))]) ++ ((List.range n.toNatClampNeg).map (fun i => H.size + 1 + i)).map (fun a => (a, .inl (cy, z)))) := by
    have hD1 := hD.push (e := .inl (cA, n.toNatClampNeg, .inr (.inr (.inr (.inr (fun i => if i < n.toNatClampNeg then some (H.size + 1 + i) else none)))))) hP rfl (hA _ hS.1)
    generalize hW1 : (X ++ va_pl L f) ++ [(H.size, .inl (cA, n.toNatClampNeg, .inr (.inr (.inr (.inr (fun i => if i < n.toNatClampNeg then some (H.size + 1 + i) else none))))))] = W1 at hD1 hP1 ⊢
    have hle : ∀ (k9 : Nat) (x : Nat × va_E), W1[k9]? = some x → x.1 ≤ H.size := fun k9 x hx => by
      rw [← hW1] at hx
      by_cases hl : k9 < (X ++ va_pl L f).length
      · rw [List.getElem?_append_left hl] at hx
        exact Nat.le_of_lt ((hP k9 x hx).lt)
      · rw [List.getElem?_append_right (by omega)] at hx
        have h0 : k9 - (X ++ va_pl L f).length < 1 := (List.getElem?_eq_some_iff.mp hx).1
        rw [show k9 - (X ++ va_pl L f).length = 0 by omega] at hx
        cases hx
        exact Nat.le_refl _
    have hr : ∀ (k9 : Nat) (x : Nat × va_E), (((List.range n.toNatClampNeg).map (fun i => H.size + 1 + i)).map (fun a => ((a, .inl (cy, z)) : Nat × va_E)))[k9]? = some x → x.1 = H.size + 1 + k9 := fun k9 x hx => by
      rw [List.getElem?_map, List.getElem?_map] at hx
      by_cases h9 : k9 < n.toNatClampNeg
      · rw [List.getElem?_range h9] at hx
        cases hx
        rfl
      · have hn0 : (List.range n.toNatClampNeg)[k9]? = none := List.getElem?_eq_none (by rw [List.length_range]; omega)
        rw [hn0] at hx
        cases hx
    refine ⟨fun i j x y hi hj hxy => ?_, fun k9 x hx => ?_⟩
    · by_cases h1 : i < W1.length <;> by_cases h2 : j < W1.length
      · rw [List.getElem?_append_left h1] at hi
        rw [List.getElem?_append_left h2] at hj
        exact hD1.1 i j x y hi hj hxy
      · rw [List.getElem?_append_left h1] at hi
        rw [List.getElem?_append_right (by omega)] at hj
        have := hle _ _ hi
        have := hr _ _ hj
        omega
      · rw [List.getElem?_append_right (by omega)] at hi
        rw [List.getElem?_append_left h2] at hj
        have := hle _ _ hj
        have := hr _ _ hi
        omega
      · rw [List.getElem?_append_right (by omega)] at hi hj
        have := hr _ _ hi
        have := hr _ _ hj
        omega
    · by_cases h1 : k9 < W1.length
      · rw [List.getElem?_append_left h1] at hx
        exact hD1.2 k9 x hx
      · rw [List.getElem?_append_right (by omega)] at hx
        have := hr _ _ hx
        exact hA _ (by have := hS.1; omega)
  have hAr : ArrOfT s cA (.array ty) := fun N9 z9 => by
    obtain ⟨-, k9, hk9, cm9, hkk9⟩ := (hO 0 0 0).1
    exact ⟨(fun q hq => by cases hq), k9, hk9, cm9, hkk9⟩
  have hK2 : va_K D cl (tys ++ [(cA, .array ty)]) s := ⟨hK.1, fun k9 x hx => by
    by_cases hl : k9 < tys.length
    · rw [List.getElem?_append_left hl] at hx
      exact hK.2 k9 x hx
    · rw [List.getElem?_append_right (by omega)] at hx
      have h0 : k9 - tys.length < 1 := (List.getElem?_eq_some_iff.mp hx).1
      rw [show k9 - tys.length = 0 by omega] at hx
      cases hx
      exact ⟨hAr, fA⟩⟩
  obtain ⟨t, a1, b1⟩ := kk H.size (fun i => H.size + 1 + i) cA F.heap (fun i j _ _ h => by have h9 : H.size + 1 + i = H.size + 1 + j := h; omega) hnl hK2 (by rw [← vr_rows hnm]; exact vr_lay hP2) (by rw [← vr_rows hnm]; exact vr_layD hD2) ⟨by rw [f1]; have := hS.1; omega, fun x h1 h2 => (hold x (Nat.lt_of_lt_of_le h1 hS.1)).trans (hS.2.1 x h1 h2), hS.2.2⟩ F rfl X'
  refine ⟨t, step t ?_, b1⟩
  have e : T.heap.size = H.size := by rw [hT]
  rw [e]
  exact a1
end VGM
/-! ===== END ===== -/
section G8
variable {X : GX} {cc : ByteArray} {nL : Nat} {own : String} {ret : Option FieldType} {a b : Nat} {ws : va_W} {lv : List (Nat × Value)} {pc z : Nat} {st : List Value}
theorem g_mnaJ {n k : Int32} {N M index a2 b2 fr lo mc ms : Nat} (C : GC X cc nL own ret) (hR : GR X fr lo mc ms) (hdg : decode cc pc = .ok (.multianewarray index 2, 4)) (hw : Cond.classLink own index "[[J" ∈ TBL) (harr : Cond.arrayClass .long ∈ TBL) (hn : ¬ n < 0) (hk : ¬ k < 0) (hN : n.toNatClampNeg = N) (hM : k.toNatClampNeg = M) (hb1 : N * 4 ≤ 536870912) (hb2 : M * componentBytes .long ≤ 536870912) (hb3 : M ≤ 536870912) (ha : a + (1 + N) = a2) (hb : b + (N + N * M) = b2) (ha3 : a2 ≤ mc) (hb4 : b2 ≤ ms) (hz : pc + 4 = z) (kk : ∀ q : Nat, G X a2 b2 ws lv z (.ref q :: st)) : G X a b ws lv pc (.int k :: .int n :: st) := fun H locs ls hP hD hS hl => by
  subst hz; subst ha; subst hb
  have e0 : ("[" ++ (FieldType.array .long).toString) = "[[J" := by decide +kernel
  have hP' : va_P (gD X) CL (ws ++ va_pl [] (fun _ => .inl (0, 0, .inl (fun _ => 0)))) H := by rw [show va_pl [] _ = [] from rfl, List.append_nil]; exact hP
  have hD' : va_D (gA X) (ws ++ va_pl [] (fun _ => .inl (0, 0, .inl (fun _ => 0)))) := by rw [show va_pl [] _ = [] from rfl, List.append_nil]; exact hD
  refine va_mna (L := []) (f := fun _ => .inl (0, 0, .inl (fun _ => 0))) (ty := .long) (cy := gK X 1) (z := (M, .inr (.inl (fun _ => 0)))) C.1 C.2.1 C.2.2.2.2.2.1 (by rw [e0]; exact C.2.2.2.2.2.2.1 _ hw) (evA C) (C.2.2.2.2.2.2.1 _ harr) (C.2.2.2.2.2.2.2.1.2 1 _ rfl).2 C.2.2.2.2.2.2.2.1 hP' hD' hS C.2.2.2.2.2.2.2.2.1 hn hk hN hM hb1 hb2 hb3 rfl rfl (by rw [hR]; exact ha3) (by rw [hR]; exact hb4) (fun c => arrV_new c M (.long 0)) hdg (fun q r cA H1 _ _ _ hP2 hD2 hS2 => ?_)
  rw [List.append_assoc] at hP2 hD2
  rw [Nat.add_assoc a, Nat.add_assoc b]
  exact kk q H1 locs ls (fun k q h => hP2 k q (by rw [List.getElem?_append_left (List.getElem?_eq_some_iff.mp h).1]; exact h)) ⟨fun i j p q hi hj => hD2.1 i j p q (by rw [List.getElem?_append_left (List.getElem?_eq_some_iff.mp hi).1]; exact hi) (by rw [List.getElem?_append_left (List.getElem?_eq_some_iff.mp hj).1]; exact hj), fun k q h => hD2.2 k q (by rw [List.getElem?_append_left (List.getElem?_eq_some_iff.mp h).1]; exact h)⟩ hS2 hl
end G8
set_option maxHeartbeats 4000000 in
set_option maxRecDepth 100000 in
/-- Machine(): dead where nothing runs -/
theorem k_X3_init (l : Launch) (D : va_G) (K : KS) (h0 : Nat) : Con l D K yX3_init cX3_init 1 none 2 32 51 31219 [.ref h0] [(h0, .inr (6, [.null, .null, .null, .null, .null, .null, .int 0, .int 0, .long 0, .int 0, .null, .int 0, .null, .null, .int 0, .int 0, .int 0, .int 0, .int 0, .int 0, .int 0]))] (fun v _ => v = none) := by
  refine Con.of (by decide +kernel) (Nat.le_of_ble_eq_true rfl) ?_
  intro X hXl hXD hXK C hR hQ hnm
  subst hXl; subst hXD; subst hXK
  refine g_lv (l2 := [(0, .ref h0)]) [0] rfl ?_
  refine g_aload_n (z := 1) C dX3_init_0 0 rfl rfl rfl ?_
  refine g_objInit (z := 4) C hR dX3_init_1 w_232 w_0 w_1 (Nat.le_of_ble_eq_true rfl) (Nat.le_of_ble_eq_true rfl) rfl ?_
  refine g_aload_n (z := 5) C dX3_init_4 0 rfl rfl rfl ?_
  refine g_new (fs := [.null, .null, .int 0, .null, .int 0, .int 0, .null, .null, .int 0, .int 0, .null, .null, .int 0, .int 0, .int 0, .int 0, .int 0, .null, .null]) (a2 := 1) (b2 := 19) (z := 8) C hR kX7 dX3_init_5 w_233 w_234 w_235 rfl rfl rfl (Nat.le_of_ble_eq_true rfl) (Nat.le_of_ble_eq_true rfl) rfl (fun q1 => ?_)
  refine g_ws (w2 := [(h0, .inr (6, [.null, .null, .null, .null, .null, .null, .int 0, .int 0, .long 0, .int 0, .null, .int 0, .null, .null, .int 0, .int 0, .int 0, .int 0, .int 0, .int 0, .int 0])), (q1, .inr (7, [.null, .null, .int 0, .null, .int 0, .int 0, .null, .null, .int 0, .int 0, .null, .null, .int 0, .int 0, .int 0, .int 0, .int 0, .null, .null]))]) rfl ?_
  refine g_dup (z := 9) C dX3_init_8 rfl rfl ?_
  refine g_callIN (n := 0) (As := []) (rest := [.ref q1, .ref h0]) (wr := [(h0, .inr (6, [.null, .null, .null, .null, .null, .null, .int 0, .int 0, .long 0, .int 0, .null, .int 0, .null, .null, .int 0, .int 0, .int 0, .int 0, .int 0, .int 0, .int 0]))]) (a2 := 9) (b2 := 31011) (z := 12) C hR (k_X7_init (gl X) (gD X) (gK X) q1) dX3_init_9 nw_62 w_241 rfl w_240 w_235 ⟨by decide +kernel, by decide +kernel, by decide +kernel⟩ [1] [0] rfl rfl rfl rfl rfl (by decide) ⟨(Nat.le_of_ble_eq_true rfl), (Nat.le_of_ble_eq_true rfl)⟩ rfl rfl (Nat.le_of_ble_eq_true rfl) (Nat.le_of_ble_eq_true rfl) (Nat.le_of_ble_eq_true rfl) rfl rfl rfl rfl (fun v ws' hp => ?_)
  obtain rfl := hp
  refine g_sub (w2 := [(h0, .inr (6, [.null, .null, .null, .null, .null, .null, .int 0, .int 0, .long 0, .int 0, .null, .int 0, .null, .null, .int 0, .int 0, .int 0, .int 0, .int 0, .int 0, .int 0]))]) [0] rfl rfl rfl ?_
  refine g_st (s2 := [.ref q1, .ref h0]) rfl ?_
  refine g_putF (w2 := [(h0, .inr (6, [.ref q1, .null, .null, .null, .null, .null, .int 0, .int 0, .long 0, .int 0, .null, .int 0, .null, .null, .int 0, .int 0, .int 0, .int 0, .int 0, .int 0, .int 0]))]) (z := 15) C kX3 dX3_init_12 0 rfl 0 (by decide) w_236 rfl rfl hnm rfl rfl rfl (Nat.le_of_ble_eq_true rfl) rfl rfl ?_
  refine g_aload_n (z := 16) C dX3_init_15 0 rfl rfl rfl ?_
  refine g_bipush (v := 40) (z := 18) C dX3_init_16 (by decide) rfl ?_
  refine g_iconst (v := 4) (z := 19) C dX3_init_18 (by decide) rfl ?_
  refine g_mnaJ (N := 40) (M := 4) (a2 := 50) (b2 := 31211) (z := 23) C hR dX3_init_19 w_237 w_8 (by decide) (by decide) (by decide) (by decide) (by decide) (by decide) (by decide) rfl rfl (Nat.le_of_ble_eq_true rfl) (Nat.le_of_ble_eq_true rfl) rfl (fun q2 => ?_)
  refine g_putF (w2 := [(h0, .inr (6, [.ref q1, .null, .null, .null, .null, .null, .int 0, .int 0, .long 0, .int 0, .ref q2, .int 0, .null, .null, .int 0, .int 0, .int 0, .int 0, .int 0, .int 0, .int 0]))]) (z := 26) C kX3 dX3_init_23 0 rfl 10 (by decide) w_238 rfl rfl hnm rfl rfl rfl (Nat.le_of_ble_eq_true rfl) rfl rfl ?_
  refine g_aload_n (z := 27) C dX3_init_26 0 rfl rfl rfl ?_
  refine g_bipush (v := 8) (z := 29) C dX3_init_27 (by decide) rfl ?_
  refine g_newJD (N := 8) (a2 := 51) (b2 := 31219) (z := 31) C hR dX3_init_29 w_8 (by decide) (by decide) (Nat.le_of_ble_eq_true rfl) rfl rfl (Nat.le_of_ble_eq_true rfl) (Nat.le_of_ble_eq_true rfl) rfl (fun q3 => ?_)
  refine g_putF (w2 := [(h0, .inr (6, [.ref q1, .null, .null, .null, .null, .null, .int 0, .int 0, .long 0, .int 0, .ref q2, .int 0, .ref q3, .null, .int 0, .int 0, .int 0, .int 0, .int 0, .int 0, .int 0]))]) (z := 34) C kX3 dX3_init_31 0 rfl 12 (by decide) w_239 rfl rfl hnm rfl rfl rfl (Nat.le_of_ble_eq_true rfl) rfl rfl ?_
  exact g_vret C hQ dX3_init_34 (Nat.le_of_ble_eq_true rfl) (Nat.le_of_ble_eq_true rfl) rfl
end
section
theorem dX12_init_0 : decode cX12_init 0 = .ok (.aload_n 0, 1) := by decide +kernel
theorem dX12_init_1 : decode cX12_init 1 = .ok (.invokespecial 3, 3) := by decide +kernel
theorem dX12_init_4 : decode cX12_init 4 = .ok (.aload_n 0, 1) := by decide +kernel
theorem dX12_init_5 : decode cX12_init 5 = .ok (.sipush 3000, 3) := by decide +kernel
theorem dX12_init_8 : decode cX12_init 8 = .ok (.newarray .byte, 2) := by decide +kernel
theorem dX12_init_10 : decode cX12_init 10 = .ok (.putfield 9, 3) := by decide +kernel
theorem dX12_init_13 : decode cX12_init 13 = .ok (.aload_n 0, 1) := by decide +kernel
theorem dX12_init_14 : decode cX12_init 14 = .ok (.sipush 200, 3) := by decide +kernel
theorem dX12_init_17 : decode cX12_init 17 = .ok (.newarray .long, 2) := by decide +kernel
theorem dX12_init_19 : decode cX12_init 19 = .ok (.putfield 13, 3) := by decide +kernel
theorem dX12_init_22 : decode cX12_init 22 = .ok (.aload_n 0, 1) := by decide +kernel
theorem dX12_init_23 : decode cX12_init 23 = .ok (.new 17, 3) := by decide +kernel
theorem dX12_init_26 : decode cX12_init 26 = .ok (.dup, 1) := by decide +kernel
theorem dX12_init_27 : decode cX12_init 27 = .ok (.invokespecial 19, 3) := by decide +kernel
theorem dX12_init_30 : decode cX12_init 30 = .ok (.putfield 20, 3) := by decide +kernel
theorem dX12_init_33 : decode cX12_init 33 = .ok (.aload_n 0, 1) := by decide +kernel
theorem dX12_init_34 : decode cX12_init 34 = .ok (.new 24, 3) := by decide +kernel
theorem dX12_init_37 : decode cX12_init 37 = .ok (.dup, 1) := by decide +kernel
theorem dX12_init_38 : decode cX12_init 38 = .ok (.aload_n 0, 1) := by decide +kernel
theorem dX12_init_39 : decode cX12_init 39 = .ok (.getfield 20, 3) := by decide +kernel
theorem dX12_init_42 : decode cX12_init 42 = .ok (.invokespecial 26, 3) := by decide +kernel
theorem dX12_init_45 : decode cX12_init 45 = .ok (.putfield 29, 3) := by decide +kernel
theorem dX12_init_48 : decode cX12_init 48 = .ok (.aload_n 0, 1) := by decide +kernel
theorem dX12_init_49 : decode cX12_init 49 = .ok (.new 33, 3) := by decide +kernel
theorem dX12_init_52 : decode cX12_init 52 = .ok (.dup, 1) := by decide +kernel
theorem dX12_init_53 : decode cX12_init 53 = .ok (.aload_n 0, 1) := by decide +kernel
theorem dX12_init_54 : decode cX12_init 54 = .ok (.getfield 20, 3) := by decide +kernel
theorem dX12_init_57 : decode cX12_init 57 = .ok (.invokespecial 35, 3) := by decide +kernel
theorem dX12_init_60 : decode cX12_init 60 = .ok (.putfield 36, 3) := by decide +kernel
theorem dX12_init_63 : decode cX12_init 63 = .ok (.aload_n 0, 1) := by decide +kernel
theorem dX12_init_64 : decode cX12_init 64 = .ok (.new 40, 3) := by decide +kernel
theorem dX12_init_67 : decode cX12_init 67 = .ok (.dup, 1) := by decide +kernel
theorem dX12_init_68 : decode cX12_init 68 = .ok (.aload_n 0, 1) := by decide +kernel
theorem dX12_init_69 : decode cX12_init 69 = .ok (.getfield 20, 3) := by decide +kernel
theorem dX12_init_72 : decode cX12_init 72 = .ok (.invokespecial 42, 3) := by decide +kernel
theorem dX12_init_75 : decode cX12_init 75 = .ok (.putfield 43, 3) := by decide +kernel
theorem dX12_init_78 : decode cX12_init 78 = .ok (.aload_n 0, 1) := by decide +kernel
theorem dX12_init_79 : decode cX12_init 79 = .ok (.new 47, 3) := by decide +kernel
theorem dX12_init_82 : decode cX12_init 82 = .ok (.dup, 1) := by decide +kernel
theorem dX12_init_83 : decode cX12_init 83 = .ok (.invokespecial 49, 3) := by decide +kernel
theorem dX12_init_86 : decode cX12_init 86 = .ok (.putfield 50, 3) := by decide +kernel
theorem dX12_init_89 : decode cX12_init 89 = .ok (.aload_n 0, 1) := by decide +kernel
theorem dX12_init_90 : decode cX12_init 90 = .ok (.new 54, 3) := by decide +kernel
theorem dX12_init_93 : decode cX12_init 93 = .ok (.dup, 1) := by decide +kernel
theorem dX12_init_94 : decode cX12_init 94 = .ok (.invokespecial 56, 3) := by decide +kernel
theorem dX12_init_97 : decode cX12_init 97 = .ok (.putfield 57, 3) := by decide +kernel
theorem dX12_init_100 : decode cX12_init 100 = .ok (.aload_n 0, 1) := by decide +kernel
theorem dX12_init_101 : decode cX12_init 101 = .ok (.new 61, 3) := by decide +kernel
theorem dX12_init_104 : decode cX12_init 104 = .ok (.dup, 1) := by decide +kernel
theorem dX12_init_105 : decode cX12_init 105 = .ok (.invokespecial 63, 3) := by decide +kernel
theorem dX12_init_108 : decode cX12_init 108 = .ok (.putfield 64, 3) := by decide +kernel
theorem dX12_init_111 : decode cX12_init 111 = .ok (.aload_n 0, 1) := by decide +kernel
theorem dX12_init_112 : decode cX12_init 112 = .ok (.iconst (-1), 1) := by decide +kernel
theorem dX12_init_113 : decode cX12_init 113 = .ok (.putfield 68, 3) := by decide +kernel
theorem dX12_init_116 : decode cX12_init 116 = .ok (.aload_n 0, 1) := by decide +kernel
theorem dX12_init_117 : decode cX12_init 117 = .ok (.iconst (-1), 1) := by decide +kernel
theorem dX12_init_118 : decode cX12_init 118 = .ok (.putfield 72, 3) := by decide +kernel
theorem dX12_init_121 : decode cX12_init 121 = .ok (.aload_n 0, 1) := by decide +kernel
theorem dX12_init_122 : decode cX12_init 122 = .ok (.iconst (-1), 1) := by decide +kernel
theorem dX12_init_123 : decode cX12_init 123 = .ok (.putfield 75, 3) := by decide +kernel
theorem dX12_init_126 : decode cX12_init 126 = .ok (.return_, 1) := by decide +kernel
set_option maxHeartbeats 4000000 in
set_option maxRecDepth 100000 in
/-- LoanHouse() -/
theorem k_X12_init (l : Launch) (D : va_G) (K : KS) (h0 : Nat) : Con l D K yX12_init cX12_init 1 none 5 107 155 165812 [.ref h0] [(h0, .inr (0, [.null, .int 0, .null, .int 0, .null, .null, .null, .null, .null, .null, .null, .null, .int 0, .int 0, .int 0, .int 0, .int 0]))] (fun v w => v = none ∧ ∃ (f24 : Nat → Int32) (q1 q2 q3 q15 q25 q26 q27 q28 q29 q4 q5 q6 q7 q8 q9 q10 q11 q12 q13 q14 q16 q17 q18 q19 q20 q21 q22 q23 q30 q31 q32 q33 q34 q35 q36 q37 q38 q39 q40 q41 q42 q43 q44 q45 q46 q47 q48 q49 q50 q51 q52 q53 q54 q55 q56 q57 q58 q59 q60 q61 q62 q63 q64 q65 q66 q67 q68 q69 q70 q71 q72 q73 q74 q75 q76 q77 q78 q79 q80 q81 q82 q83 q84 q85 q86 q87 q88 q89 q90 q91 q92 q93 q94 q95 q96 q97 q98 : Nat), w = [(h0, .inr (0, [.ref q1, .int 0, .ref q2, .int 0, .ref q3, .ref q15, .ref q25, .ref q26, .ref q27, .ref q28, .ref q29, .null, .int 0, .int 0, .int (-1), .int (-1), .int (-1)])), (q1, .inl (K 2, 3000, .inl (fun _ => 0))), (q2, .inl (K 1, 200, .inr (.inl (fun _ => 0)))), (q3, .inr (1, [.ref q4, .ref q5, .ref q6, .ref q7, .ref q8, .ref q9, .ref q10, .ref q11, .ref q12, .ref q13, .ref q14, .int 1])), (q4, .inl (K 0, 3016, .inl (fun _ => 0))), (q5, .inl (K 0, 3016, .inl (fun _ => 0))), (q6, .inl (K 0, 3016, .inl (fun _ => 0))), (q7, .inl (K 0, 3016, .inl (fun _ => 0))), (q8, .inl (K 0, 3016, .inl (fun _ => 0))), (q9, .inl (K 0, 3016, .inl (fun _ => 0))), (q10, .inl (K 0, 3016, .inl (fun _ => 0))), (q11, .inl (K 0, 3016, .inl (fun _ => 0))), (q12, .inl (K 1, 3016, .inr (.inl (fun _ => 0)))), (q13, .inl (K 0, 3016, .inl (fun _ => 0))), (q14, .inl (K 0, 3016, .inl (fun _ => 0))), (q15, .inr (2, [.ref q3, .ref q16, .ref q17, .ref q18, .ref q19, .ref q20, .int 0, .int 0, .int 0, .ref q21, .ref q22, .ref q23, .int 0, .int 0, .int 0, .int 0, .int 0, .int 0])), (q16, .inl (K 2, 3157, .inl (f24))), (q17, .inl (K 0, 1544, .inl (fun _ => 0))), (q18, .inl (K 0, 1544, .inl (fun _ => 0))), (q19, .inl (K 0, 1544, .inl (fun _ => 0))), (q20, .inl (K 0, 256, .inl (fun _ => 0))), (q21, .inl (K 0, 3001, .inl (fun _ => 0))), (q22, .inl (K 0, 3001, .inl (fun _ => 0))), (q25, .inr (3, [.ref q3, .null, .null, .null, .null, .int 0, .int 0, .int 0, .int 0, .int 0, .int 0])), (q26, .inr (4, [.ref q3, .null, .null, .null, .null, .null, .int 0, .int 0, .int 0, .int 0])), (q29, .inr (8, [.ref q30, .ref q31, .ref q32, .ref q33, .ref q34, .ref q35, .ref q36, .ref q37, .ref q38, .ref q39, .int 0, .int 0, .int 0, .ref q40, .int 0])), (q30, .inr (9, [.ref q41, .ref q42, .int 0, .ref q43, .ref q44, .ref q45, .ref q46, .ref q47, .ref q48, .ref q49, .int 0, .ref q50, .ref q51, .ref q52, .int 0, .ref q53, .ref q54, .ref q55, .int 0])), (q41, .inl (K 0, 1504, .inl (fun _ => 0))), (q31, .inr (10, [.ref q56, .ref q57, .ref q58, .ref q59, .ref q60, .ref q61, .ref q62, .int 0, .ref q63, .ref q64, .ref q65, .ref q66, .ref q67, .ref q68, .ref q69, .ref q70, .ref q71, .int 0, .int 0])), (q32, .inr (11, [.ref q72, .ref q73, .ref q74, .ref q75, .ref q76, .ref q77, .ref q78, .ref q79, .int 0, .ref q80, .ref q81, .int 0])), (q33, .inr (12, [.ref q82, .ref q83, .ref q84, .ref q85, .ref q86, .ref q87, .ref q88, .ref q89, .ref q90, .ref q91, .ref q92, .ref q93, .int 0, .ref q94, .ref q95, .ref q96, .int 0, .ref q97, .ref q98, .int 0]))]) := by
  refine Con.of (by decide +kernel) (Nat.le_of_ble_eq_true rfl) ?_
  intro X hXl hXD hXK C hR hQ hnm
  subst hXl; subst hXD; subst hXK
  refine g_lv (l2 := [(0, .ref h0)]) [0] rfl ?_
  refine g_aload_n (z := 1) C dX12_init_0 0 rfl rfl rfl ?_
  refine g_objInit (z := 4) C hR dX12_init_1 w_5 w_0 w_1 (Nat.le_of_ble_eq_true rfl) (Nat.le_of_ble_eq_true rfl) rfl ?_
  refine g_aload_n (z := 5) C dX12_init_4 0 rfl rfl rfl ?_
  refine g_sipush (v := 3000) (z := 8) C dX12_init_5 (by decide) rfl ?_
  refine g_newB (N := 3000) (a2 := 1) (b2 := 3000) (z := 10) C hR dX12_init_8 w_6 (by decide) (by decide) (Nat.le_of_ble_eq_true rfl) rfl rfl (Nat.le_of_ble_eq_true rfl) (Nat.le_of_ble_eq_true rfl) rfl (fun q1 => ?_)
  refine g_ws (w2 := [(h0, .inr (0, [.null, .int 0, .null, .int 0, .null, .null, .null, .null, .null, .null, .null, .null, .int 0, .int 0, .int 0, .int 0, .int 0])), (q1, .inl (gK X 2, 3000, .inl (fun _ => 0)))]) rfl ?_
  refine g_putF (w2 := [(h0, .inr (0, [.ref q1, .int 0, .null, .int 0, .null, .null, .null, .null, .null, .null, .null, .null, .int 0, .int 0, .int 0, .int 0, .int 0])), (q1, .inl (gK X 2, 3000, .inl (fun _ => 0)))]) (z := 13) C kX12 dX12_init_10 0 rfl 0 (by decide) w_7 rfl rfl hnm rfl rfl rfl (Nat.le_of_ble_eq_true rfl) rfl rfl ?_
  refine g_aload_n (z := 14) C dX12_init_13 0 rfl rfl rfl ?_
  refine g_sipush (v := 200) (z := 17) C dX12_init_14 (by decide) rfl ?_
  refine g_newJ (N := 200) (a2 := 2) (b2 := 3200) (z := 19) C hR dX12_init_17 w_8 (by decide) (by decide) (Nat.le_of_ble_eq_true rfl) rfl rfl (Nat.le_of_ble_eq_true rfl) (Nat.le_of_ble_eq_true rfl) rfl (fun q2 => ?_)
  refine g_ws (w2 := [(h0, .inr (0, [.ref q1, .int 0, .null, .int 0, .null, .null, .null, .null, .null, .null, .null, .null, .int 0, .int 0, .int 0, .int 0, .int 0])), (q1, .inl (gK X 2, 3000, .inl (fun _ => 0))), (q2, .inl (gK X 1, 200, .inr (.inl (fun _ => 0))))]) rfl ?_
  refine g_putF (w2 := [(h0, .inr (0, [.ref q1, .int 0, .ref q2, .int 0, .null, .null, .null, .null, .null, .null, .null, .null, .int 0, .int 0, .int 0, .int 0, .int 0])), (q1, .inl (gK X 2, 3000, .inl (fun _ => 0))), (q2, .inl (gK X 1, 200, .inr (.inl (fun _ => 0))))]) (z := 22) C kX12 dX12_init_19 0 rfl 2 (by decide) w_9 rfl rfl hnm rfl rfl rfl (Nat.le_of_ble_eq_true rfl) rfl rfl ?_
  refine g_aload_n (z := 23) C dX12_init_22 0 rfl rfl rfl ?_
  refine g_new (fs := [.null, .null, .null, .null, .null, .null, .null, .null, .null, .null, .null, .int 0]) (a2 := 3) (b2 := 3212) (z := 26) C hR kX8 dX12_init_23 w_10 w_11 w_12 rfl rfl rfl (Nat.le_of_ble_eq_true rfl) (Nat.le_of_ble_eq_true rfl) rfl (fun q3 => ?_)
  refine g_ws (w2 := [(h0, .inr (0, [.ref q1, .int 0, .ref q2, .int 0, .null, .null, .null, .null, .null, .null, .null, .null, .int 0, .int 0, .int 0, .int 0, .int 0])), (q1, .inl (gK X 2, 3000, .inl (fun _ => 0))), (q2, .inl (gK X 1, 200, .inr (.inl (fun _ => 0)))), (q3, .inr (1, [.null, .null, .null, .null, .null, .null, .null, .null, .null, .null, .null, .int 0]))]) rfl ?_
  refine g_dup (z := 27) C dX12_init_26 rfl rfl ?_
  refine g_callIN (n := 0) (As := []) (rest := [.ref q3, .ref h0]) (wr := [(h0, .inr (0, [.ref q1, .int 0, .ref q2, .int 0, .null, .null, .null, .null, .null, .null, .null, .null, .int 0, .int 0, .int 0, .int 0, .int 0])), (q1, .inl (gK X 2, 3000, .inl (fun _ => 0))), (q2, .inl (gK X 1, 200, .inr (.inl (fun _ => 0))))]) (a2 := 14) (b2 := 36388) (z := 30) C hR (k_X8_init (gl X) (gD X) (gK X) q3) dX12_init_27 nw_0 w_107 rfl w_106 w_12 ⟨by decide +kernel, by decide +kernel, by decide +kernel⟩ [3] [0, 1, 2] rfl rfl rfl rfl rfl (by decide) ⟨(Nat.le_of_ble_eq_true rfl), (Nat.le_of_ble_eq_true rfl)⟩ rfl rfl (Nat.le_of_ble_eq_true rfl) (Nat.le_of_ble_eq_true rfl) (Nat.le_of_ble_eq_true rfl) rfl rfl rfl rfl (fun v ws' hp => ?_)
  obtain ⟨rfl, q4, q5, q6, q7, q8, q9, q10, q11, q12, q13, q14, rfl⟩ := hp
  refine g_ws (w2 := [(h0, .inr (0, [.ref q1, .int 0, .ref q2, .int 0, .null, .null, .null, .null, .null, .null, .null, .null, .int 0, .int 0, .int 0, .int 0, .int 0])), (q1, .inl (gK X 2, 3000, .inl (fun _ => 0))), (q2, .inl (gK X 1, 200, .inr (.inl (fun _ => 0)))), (q3, .inr (1, [.ref q4, .ref q5, .ref q6, .ref q7, .ref q8, .ref q9, .ref q10, .ref q11, .ref q12, .ref q13, .ref q14, .int 1])), (q4, .inl (gK X 0, 3016, .inl (fun _ => 0))), (q5, .inl (gK X 0, 3016, .inl (fun _ => 0))), (q6, .inl (gK X 0, 3016, .inl (fun _ => 0))), (q7, .inl (gK X 0, 3016, .inl (fun _ => 0))), (q8, .inl (gK X 0, 3016, .inl (fun _ => 0))), (q9, .inl (gK X 0, 3016, .inl (fun _ => 0))), (q10, .inl (gK X 0, 3016, .inl (fun _ => 0))), (q11, .inl (gK X 0, 3016, .inl (fun _ => 0))), (q12, .inl (gK X 1, 3016, .inr (.inl (fun _ => 0)))), (q13, .inl (gK X 0, 3016, .inl (fun _ => 0))), (q14, .inl (gK X 0, 3016, .inl (fun _ => 0)))]) rfl ?_
  refine g_st (s2 := [.ref q3, .ref h0]) rfl ?_
  refine g_putF (w2 := [(h0, .inr (0, [.ref q1, .int 0, .ref q2, .int 0, .ref q3, .null, .null, .null, .null, .null, .null, .null, .int 0, .int 0, .int 0, .int 0, .int 0])), (q1, .inl (gK X 2, 3000, .inl (fun _ => 0))), (q2, .inl (gK X 1, 200, .inr (.inl (fun _ => 0)))), (q3, .inr (1, [.ref q4, .ref q5, .ref q6, .ref q7, .ref q8, .ref q9, .ref q10, .ref q11, .ref q12, .ref q13, .ref q14, .int 1])), (q4, .inl (gK X 0, 3016, .inl (fun _ => 0))), (q5, .inl (gK X 0, 3016, .inl (fun _ => 0))), (q6, .inl (gK X 0, 3016, .inl (fun _ => 0))), (q7, .inl (gK X 0, 3016, .inl (fun _ => 0))), (q8, .inl (gK X 0, 3016, .inl (fun _ => 0))), (q9, .inl (gK X 0, 3016, .inl (fun _ => 0))), (q10, .inl (gK X 0, 3016, .inl (fun _ => 0))), (q11, .inl (gK X 0, 3016, .inl (fun _ => 0))), (q12, .inl (gK X 1, 3016, .inr (.inl (fun _ => 0)))), (q13, .inl (gK X 0, 3016, .inl (fun _ => 0))), (q14, .inl (gK X 0, 3016, .inl (fun _ => 0)))]) (z := 33) C kX12 dX12_init_30 0 rfl 4 (by decide) w_13 rfl rfl hnm rfl rfl rfl (Nat.le_of_ble_eq_true rfl) rfl rfl ?_
  refine g_aload_n (z := 34) C dX12_init_33 0 rfl rfl rfl ?_
  refine g_new (fs := [.null, .null, .null, .null, .null, .null, .int 0, .int 0, .int 0, .null, .null, .null, .int 0, .int 0, .int 0, .int 0, .int 0, .int 0]) (a2 := 15) (b2 := 36406) (z := 37) C hR kX6 dX12_init_34 w_14 w_15 w_16 rfl rfl rfl (Nat.le_of_ble_eq_true rfl) (Nat.le_of_ble_eq_true rfl) rfl (fun q15 => ?_)
  refine g_ws (w2 := [(h0, .inr (0, [.ref q1, .int 0, .ref q2, .int 0, .ref q3, .null, .null, .null, .null, .null, .null, .null, .int 0, .int 0, .int 0, .int 0, .int 0])), (q1, .inl (gK X 2, 3000, .inl (fun _ => 0))), (q2, .inl (gK X 1, 200, .inr (.inl (fun _ => 0)))), (q3, .inr (1, [.ref q4, .ref q5, .ref q6, .ref q7, .ref q8, .ref q9, .ref q10, .ref q11, .ref q12, .ref q13, .ref q14, .int 1])), (q4, .inl (gK X 0, 3016, .inl (fun _ => 0))), (q5, .inl (gK X 0, 3016, .inl (fun _ => 0))), (q6, .inl (gK X 0, 3016, .inl (fun _ => 0))), (q7, .inl (gK X 0, 3016, .inl (fun _ => 0))), (q8, .inl (gK X 0, 3016, .inl (fun _ => 0))), (q9, .inl (gK X 0, 3016, .inl (fun _ => 0))), (q10, .inl (gK X 0, 3016, .inl (fun _ => 0))), (q11, .inl (gK X 0, 3016, .inl (fun _ => 0))), (q12, .inl (gK X 1, 3016, .inr (.inl (fun _ => 0)))), (q13, .inl (gK X 0, 3016, .inl (fun _ => 0))), (q14, .inl (gK X 0, 3016, .inl (fun _ => 0))), (q15, .inr (2, [.null, .null, .null, .null, .null, .null, .int 0, .int 0, .int 0, .null, .null, .null, .int 0, .int 0, .int 0, .int 0, .int 0, .int 0]))]) rfl ?_
  refine g_dup (z := 38) C dX12_init_37 rfl rfl ?_
  refine g_aload_n (z := 39) C dX12_init_38 0 rfl rfl rfl ?_
  refine g_get (z := 42) C kX12 dX12_init_39 0 rfl 4 (by decide) w_13 rfl rfl rfl ?_
  refine g_callIN (n := 1) (As := [.ref q3]) (rest := [.ref q15, .ref h0]) (wr := [(h0, .inr (0, [.ref q1, .int 0, .ref q2, .int 0, .ref q3, .null, .null, .null, .null, .null, .null, .null, .int 0, .int 0, .int 0, .int 0, .int 0])), (q1, .inl (gK X 2, 3000, .inl (fun _ => 0))), (q2, .inl (gK X 1, 200, .inr (.inl (fun _ => 0)))), (q3, .inr (1, [.ref q4, .ref q5, .ref q6, .ref q7, .ref q8, .ref q9, .ref q10, .ref q11, .ref q12, .ref q13, .ref q14, .int 1])), (q4, .inl (gK X 0, 3016, .inl (fun _ => 0))), (q5, .inl (gK X 0, 3016, .inl (fun _ => 0))), (q6, .inl (gK X 0, 3016, .inl (fun _ => 0))), (q7, .inl (gK X 0, 3016, .inl (fun _ => 0))), (q8, .inl (gK X 0, 3016, .inl (fun _ => 0))), (q9, .inl (gK X 0, 3016, .inl (fun _ => 0))), (q10, .inl (gK X 0, 3016, .inl (fun _ => 0))), (q11, .inl (gK X 0, 3016, .inl (fun _ => 0))), (q12, .inl (gK X 1, 3016, .inr (.inl (fun _ => 0)))), (q13, .inl (gK X 0, 3016, .inl (fun _ => 0))), (q14, .inl (gK X 0, 3016, .inl (fun _ => 0)))]) (a2 := 23) (b2 := 53454) (z := 45) C hR (k_X6_init (gl X) (gD X) (gK X) q15 q3) dX12_init_42 nw_1 w_129 rfl w_128 w_16 ⟨by decide +kernel, by decide +kernel, by decide +kernel⟩ [15] [0, 1, 2, 3, 4, 5, 6, 7, 8, 9, 10, 11, 12, 13, 14] rfl rfl rfl rfl rfl (by decide) ⟨(Nat.le_of_ble_eq_true rfl), (Nat.le_of_ble_eq_true rfl)⟩ rfl rfl (Nat.le_of_ble_eq_true rfl) (Nat.le_of_ble_eq_true rfl) (Nat.le_of_ble_eq_true rfl) rfl rfl rfl rfl (fun v ws' hp => ?_)
  obtain ⟨rfl, f24, q16, q17, q18, q19, q20, q21, q22, q23, rfl⟩ := hp
  refine g_ws (w2 := [(h0, .inr (0, [.ref q1, .int 0, .ref q2, .int 0, .ref q3, .null, .null, .null, .null, .null, .null, .null, .int 0, .int 0, .int 0, .int 0, .int 0])), (q1, .inl (gK X 2, 3000, .inl (fun _ => 0))), (q2, .inl (gK X 1, 200, .inr (.inl (fun _ => 0)))), (q3, .inr (1, [.ref q4, .ref q5, .ref q6, .ref q7, .ref q8, .ref q9, .ref q10, .ref q11, .ref q12, .ref q13, .ref q14, .int 1])), (q4, .inl (gK X 0, 3016, .inl (fun _ => 0))), (q5, .inl (gK X 0, 3016, .inl (fun _ => 0))), (q6, .inl (gK X 0, 3016, .inl (fun _ => 0))), (q7, .inl (gK X 0, 3016, .inl (fun _ => 0))), (q8, .inl (gK X 0, 3016, .inl (fun _ => 0))), (q9, .inl (gK X 0, 3016, .inl (fun _ => 0))), (q10, .inl (gK X 0, 3016, .inl (fun _ => 0))), (q11, .inl (gK X 0, 3016, .inl (fun _ => 0))), (q12, .inl (gK X 1, 3016, .inr (.inl (fun _ => 0)))), (q13, .inl (gK X 0, 3016, .inl (fun _ => 0))), (q14, .inl (gK X 0, 3016, .inl (fun _ => 0))), (q15, .inr (2, [.ref q3, .ref q16, .ref q17, .ref q18, .ref q19, .ref q20, .int 0, .int 0, .int 0, .ref q21, .ref q22, .ref q23, .int 0, .int 0, .int 0, .int 0, .int 0, .int 0])), (q16, .inl (gK X 2, 3157, .inl (f24))), (q17, .inl (gK X 0, 1544, .inl (fun _ => 0))), (q18, .inl (gK X 0, 1544, .inl (fun _ => 0))), (q19, .inl (gK X 0, 1544, .inl (fun _ => 0))), (q20, .inl (gK X 0, 256, .inl (fun _ => 0))), (q21, .inl (gK X 0, 3001, .inl (fun _ => 0))), (q22, .inl (gK X 0, 3001, .inl (fun _ => 0)))]) rfl ?_
  refine g_st (s2 := [.ref q15, .ref h0]) rfl ?_
  refine g_putF (w2 := [(h0, .inr (0, [.ref q1, .int 0, .ref q2, .int 0, .ref q3, .ref q15, .null, .null, .null, .null, .null, .null, .int 0, .int 0, .int 0, .int 0, .int 0])), (q1, .inl (gK X 2, 3000, .inl (fun _ => 0))), (q2, .inl (gK X 1, 200, .inr (.inl (fun _ => 0)))), (q3, .inr (1, [.ref q4, .ref q5, .ref q6, .ref q7, .ref q8, .ref q9, .ref q10, .ref q11, .ref q12, .ref q13, .ref q14, .int 1])), (q4, .inl (gK X 0, 3016, .inl (fun _ => 0))), (q5, .inl (gK X 0, 3016, .inl (fun _ => 0))), (q6, .inl (gK X 0, 3016, .inl (fun _ => 0))), (q7, .inl (gK X 0, 3016, .inl (fun _ => 0))), (q8, .inl (gK X 0, 3016, .inl (fun _ => 0))), (q9, .inl (gK X 0, 3016, .inl (fun _ => 0))), (q10, .inl (gK X 0, 3016, .inl (fun _ => 0))), (q11, .inl (gK X 0, 3016, .inl (fun _ => 0))), (q12, .inl (gK X 1, 3016, .inr (.inl (fun _ => 0)))), (q13, .inl (gK X 0, 3016, .inl (fun _ => 0))), (q14, .inl (gK X 0, 3016, .inl (fun _ => 0))), (q15, .inr (2, [.ref q3, .ref q16, .ref q17, .ref q18, .ref q19, .ref q20, .int 0, .int 0, .int 0, .ref q21, .ref q22, .ref q23, .int 0, .int 0, .int 0, .int 0, .int 0, .int 0])), (q16, .inl (gK X 2, 3157, .inl (f24))), (q17, .inl (gK X 0, 1544, .inl (fun _ => 0))), (q18, .inl (gK X 0, 1544, .inl (fun _ => 0))), (q19, .inl (gK X 0, 1544, .inl (fun _ => 0))), (q20, .inl (gK X 0, 256, .inl (fun _ => 0))), (q21, .inl (gK X 0, 3001, .inl (fun _ => 0))), (q22, .inl (gK X 0, 3001, .inl (fun _ => 0)))]) (z := 48) C kX12 dX12_init_45 0 rfl 5 (by decide) w_17 rfl rfl hnm rfl rfl rfl (Nat.le_of_ble_eq_true rfl) rfl rfl ?_
  refine g_aload_n (z := 49) C dX12_init_48 0 rfl rfl rfl ?_
  refine g_new (fs := [.null, .null, .null, .null, .null, .int 0, .int 0, .int 0, .int 0, .int 0, .int 0]) (a2 := 24) (b2 := 53465) (z := 52) C hR kX0 dX12_init_49 w_18 w_19 w_20 rfl rfl rfl (Nat.le_of_ble_eq_true rfl) (Nat.le_of_ble_eq_true rfl) rfl (fun q25 => ?_)
  refine g_ws (w2 := [(h0, .inr (0, [.ref q1, .int 0, .ref q2, .int 0, .ref q3, .ref q15, .null, .null, .null, .null, .null, .null, .int 0, .int 0, .int 0, .int 0, .int 0])), (q1, .inl (gK X 2, 3000, .inl (fun _ => 0))), (q2, .inl (gK X 1, 200, .inr (.inl (fun _ => 0)))), (q3, .inr (1, [.ref q4, .ref q5, .ref q6, .ref q7, .ref q8, .ref q9, .ref q10, .ref q11, .ref q12, .ref q13, .ref q14, .int 1])), (q4, .inl (gK X 0, 3016, .inl (fun _ => 0))), (q5, .inl (gK X 0, 3016, .inl (fun _ => 0))), (q6, .inl (gK X 0, 3016, .inl (fun _ => 0))), (q7, .inl (gK X 0, 3016, .inl (fun _ => 0))), (q8, .inl (gK X 0, 3016, .inl (fun _ => 0))), (q9, .inl (gK X 0, 3016, .inl (fun _ => 0))), (q10, .inl (gK X 0, 3016, .inl (fun _ => 0))), (q11, .inl (gK X 0, 3016, .inl (fun _ => 0))), (q12, .inl (gK X 1, 3016, .inr (.inl (fun _ => 0)))), (q13, .inl (gK X 0, 3016, .inl (fun _ => 0))), (q14, .inl (gK X 0, 3016, .inl (fun _ => 0))), (q15, .inr (2, [.ref q3, .ref q16, .ref q17, .ref q18, .ref q19, .ref q20, .int 0, .int 0, .int 0, .ref q21, .ref q22, .ref q23, .int 0, .int 0, .int 0, .int 0, .int 0, .int 0])), (q16, .inl (gK X 2, 3157, .inl (f24))), (q17, .inl (gK X 0, 1544, .inl (fun _ => 0))), (q18, .inl (gK X 0, 1544, .inl (fun _ => 0))), (q19, .inl (gK X 0, 1544, .inl (fun _ => 0))), (q20, .inl (gK X 0, 256, .inl (fun _ => 0))), (q21, .inl (gK X 0, 3001, .inl (fun _ => 0))), (q22, .inl (gK X 0, 3001, .inl (fun _ => 0))), (q25, .inr (3, [.null, .null, .null, .null, .null, .int 0, .int 0, .int 0, .int 0, .int 0, .int 0]))]) rfl ?_
  refine g_dup (z := 53) C dX12_init_52 rfl rfl ?_
  refine g_aload_n (z := 54) C dX12_init_53 0 rfl rfl rfl ?_
  refine g_get (z := 57) C kX12 dX12_init_54 0 rfl 4 (by decide) w_13 rfl rfl rfl ?_
  refine g_callIN (n := 1) (As := [.ref q3]) (rest := [.ref q25, .ref h0]) (wr := [(h0, .inr (0, [.ref q1, .int 0, .ref q2, .int 0, .ref q3, .ref q15, .null, .null, .null, .null, .null, .null, .int 0, .int 0, .int 0, .int 0, .int 0])), (q1, .inl (gK X 2, 3000, .inl (fun _ => 0))), (q2, .inl (gK X 1, 200, .inr (.inl (fun _ => 0)))), (q3, .inr (1, [.ref q4, .ref q5, .ref q6, .ref q7, .ref q8, .ref q9, .ref q10, .ref q11, .ref q12, .ref q13, .ref q14, .int 1])), (q4, .inl (gK X 0, 3016, .inl (fun _ => 0))), (q5, .inl (gK X 0, 3016, .inl (fun _ => 0))), (q6, .inl (gK X 0, 3016, .inl (fun _ => 0))), (q7, .inl (gK X 0, 3016, .inl (fun _ => 0))), (q8, .inl (gK X 0, 3016, .inl (fun _ => 0))), (q9, .inl (gK X 0, 3016, .inl (fun _ => 0))), (q10, .inl (gK X 0, 3016, .inl (fun _ => 0))), (q11, .inl (gK X 0, 3016, .inl (fun _ => 0))), (q12, .inl (gK X 1, 3016, .inr (.inl (fun _ => 0)))), (q13, .inl (gK X 0, 3016, .inl (fun _ => 0))), (q14, .inl (gK X 0, 3016, .inl (fun _ => 0))), (q15, .inr (2, [.ref q3, .ref q16, .ref q17, .ref q18, .ref q19, .ref q20, .int 0, .int 0, .int 0, .ref q21, .ref q22, .ref q23, .int 0, .int 0, .int 0, .int 0, .int 0, .int 0])), (q16, .inl (gK X 2, 3157, .inl (f24))), (q17, .inl (gK X 0, 1544, .inl (fun _ => 0))), (q18, .inl (gK X 0, 1544, .inl (fun _ => 0))), (q19, .inl (gK X 0, 1544, .inl (fun _ => 0))), (q20, .inl (gK X 0, 256, .inl (fun _ => 0))), (q21, .inl (gK X 0, 3001, .inl (fun _ => 0))), (q22, .inl (gK X 0, 3001, .inl (fun _ => 0)))]) (a2 := 24) (b2 := 53465) (z := 60) C hR (k_X0_init (gl X) (gD X) (gK X) q25 q3) dX12_init_57 nw_2 w_183 rfl w_182 w_20 ⟨by decide +kernel, by decide +kernel, by decide +kernel⟩ [23] [0, 1, 2, 3, 4, 5, 6, 7, 8, 9, 10, 11, 12, 13, 14, 15, 16, 17, 18, 19, 20, 21, 22] rfl rfl rfl rfl rfl (by decide) ⟨(Nat.le_of_ble_eq_true rfl), (Nat.le_of_ble_eq_true rfl)⟩ rfl rfl (Nat.le_of_ble_eq_true rfl) (Nat.le_of_ble_eq_true rfl) (Nat.le_of_ble_eq_true rfl) rfl rfl rfl rfl (fun v ws' hp => ?_)
  obtain ⟨rfl, rfl⟩ := hp
  refine g_ws (w2 := [(h0, .inr (0, [.ref q1, .int 0, .ref q2, .int 0, .ref q3, .ref q15, .null, .null, .null, .null, .null, .null, .int 0, .int 0, .int 0, .int 0, .int 0])), (q1, .inl (gK X 2, 3000, .inl (fun _ => 0))), (q2, .inl (gK X 1, 200, .inr (.inl (fun _ => 0)))), (q3, .inr (1, [.ref q4, .ref q5, .ref q6, .ref q7, .ref q8, .ref q9, .ref q10, .ref q11, .ref q12, .ref q13, .ref q14, .int 1])), (q4, .inl (gK X 0, 3016, .inl (fun _ => 0))), (q5, .inl (gK X 0, 3016, .inl (fun _ => 0))), (q6, .inl (gK X 0, 3016, .inl (fun _ => 0))), (q7, .inl (gK X 0, 3016, .inl (fun _ => 0))), (q8, .inl (gK X 0, 3016, .inl (fun _ => 0))), (q9, .inl (gK X 0, 3016, .inl (fun _ => 0))), (q10, .inl (gK X 0, 3016, .inl (fun _ => 0))), (q11, .inl (gK X 0, 3016, .inl (fun _ => 0))), (q12, .inl (gK X 1, 3016, .inr (.inl (fun _ => 0)))), (q13, .inl (gK X 0, 3016, .inl (fun _ => 0))), (q14, .inl (gK X 0, 3016, .inl (fun _ => 0))), (q15, .inr (2, [.ref q3, .ref q16, .ref q17, .ref q18, .ref q19, .ref q20, .int 0, .int 0, .int 0, .ref q21, .ref q22, .ref q23, .int 0, .int 0, .int 0, .int 0, .int 0, .int 0])), (q16, .inl (gK X 2, 3157, .inl (f24))), (q17, .inl (gK X 0, 1544, .inl (fun _ => 0))), (q18, .inl (gK X 0, 1544, .inl (fun _ => 0))), (q19, .inl (gK X 0, 1544, .inl (fun _ => 0))), (q20, .inl (gK X 0, 256, .inl (fun _ => 0))), (q21, .inl (gK X 0, 3001, .inl (fun _ => 0))), (q22, .inl (gK X 0, 3001, .inl (fun _ => 0))), (q25, .inr (3, [.ref q3, .null, .null, .null, .null, .int 0, .int 0, .int 0, .int 0, .int 0, .int 0]))]) rfl ?_
  refine g_st (s2 := [.ref q25, .ref h0]) rfl ?_
  refine g_putF (w2 := [(h0, .inr (0, [.ref q1, .int 0, .ref q2, .int 0, .ref q3, .ref q15, .ref q25, .null, .null, .null, .null, .null, .int 0, .int 0, .int 0, .int 0, .int 0])), (q1, .inl (gK X 2, 3000, .inl (fun _ => 0))), (q2, .inl (gK X 1, 200, .inr (.inl (fun _ => 0)))), (q3, .inr (1, [.ref q4, .ref q5, .ref q6, .ref q7, .ref q8, .ref q9, .ref q10, .ref q11, .ref q12, .ref q13, .ref q14, .int 1])), (q4, .inl (gK X 0, 3016, .inl (fun _ => 0))), (q5, .inl (gK X 0, 3016, .inl (fun _ => 0))), (q6, .inl (gK X 0, 3016, .inl (fun _ => 0))), (q7, .inl (gK X 0, 3016, .inl (fun _ => 0))), (q8, .inl (gK X 0, 3016, .inl (fun _ => 0))), (q9, .inl (gK X 0, 3016, .inl (fun _ => 0))), (q10, .inl (gK X 0, 3016, .inl (fun _ => 0))), (q11, .inl (gK X 0, 3016, .inl (fun _ => 0))), (q12, .inl (gK X 1, 3016, .inr (.inl (fun _ => 0)))), (q13, .inl (gK X 0, 3016, .inl (fun _ => 0))), (q14, .inl (gK X 0, 3016, .inl (fun _ => 0))), (q15, .inr (2, [.ref q3, .ref q16, .ref q17, .ref q18, .ref q19, .ref q20, .int 0, .int 0, .int 0, .ref q21, .ref q22, .ref q23, .int 0, .int 0, .int 0, .int 0, .int 0, .int 0])), (q16, .inl (gK X 2, 3157, .inl (f24))), (q17, .inl (gK X 0, 1544, .inl (fun _ => 0))), (q18, .inl (gK X 0, 1544, .inl (fun _ => 0))), (q19, .inl (gK X 0, 1544, .inl (fun _ => 0))), (q20, .inl (gK X 0, 256, .inl (fun _ => 0))), (q21, .inl (gK X 0, 3001, .inl (fun _ => 0))), (q22, .inl (gK X 0, 3001, .inl (fun _ => 0))), (q25, .inr (3, [.ref q3, .null, .null, .null, .null, .int 0, .int 0, .int 0, .int 0, .int 0, .int 0]))]) (z := 63) C kX12 dX12_init_60 0 rfl 6 (by decide) w_21 rfl rfl hnm rfl rfl rfl (Nat.le_of_ble_eq_true rfl) rfl rfl ?_
  refine g_aload_n (z := 64) C dX12_init_63 0 rfl rfl rfl ?_
  refine g_new (fs := [.null, .null, .null, .null, .null, .null, .int 0, .int 0, .int 0, .int 0]) (a2 := 25) (b2 := 53475) (z := 67) C hR kX1 dX12_init_64 w_22 w_23 w_24 rfl rfl rfl (Nat.le_of_ble_eq_true rfl) (Nat.le_of_ble_eq_true rfl) rfl (fun q26 => ?_)
  refine g_ws (w2 := [(h0, .inr (0, [.ref q1, .int 0, .ref q2, .int 0, .ref q3, .ref q15, .ref q25, .null, .null, .null, .null, .null, .int 0, .int 0, .int 0, .int 0, .int 0])), (q1, .inl (gK X 2, 3000, .inl (fun _ => 0))), (q2, .inl (gK X 1, 200, .inr (.inl (fun _ => 0)))), (q3, .inr (1, [.ref q4, .ref q5, .ref q6, .ref q7, .ref q8, .ref q9, .ref q10, .ref q11, .ref q12, .ref q13, .ref q14, .int 1])), (q4, .inl (gK X 0, 3016, .inl (fun _ => 0))), (q5, .inl (gK X 0, 3016, .inl (fun _ => 0))), (q6, .inl (gK X 0, 3016, .inl (fun _ => 0))), (q7, .inl (gK X 0, 3016, .inl (fun _ => 0))), (q8, .inl (gK X 0, 3016, .inl (fun _ => 0))), (q9, .inl (gK X 0, 3016, .inl (fun _ => 0))), (q10, .inl (gK X 0, 3016, .inl (fun _ => 0))), (q11, .inl (gK X 0, 3016, .inl (fun _ => 0))), (q12, .inl (gK X 1, 3016, .inr (.inl (fun _ => 0)))), (q13, .inl (gK X 0, 3016, .inl (fun _ => 0))), (q14, .inl (gK X 0, 3016, .inl (fun _ => 0))), (q15, .inr (2, [.ref q3, .ref q16, .ref q17, .ref q18, .ref q19, .ref q20, .int 0, .int 0, .int 0, .ref q21, .ref q22, .ref q23, .int 0, .int 0, .int 0, .int 0, .int 0, .int 0])), (q16, .inl (gK X 2, 3157, .inl (f24))), (q17, .inl (gK X 0, 1544, .inl (fun _ => 0))), (q18, .inl (gK X 0, 1544, .inl (fun _ => 0))), (q19, .inl (gK X 0, 1544, .inl (fun _ => 0))), (q20, .inl (gK X 0, 256, .inl (fun _ => 0))), (q21, .inl (gK X 0, 3001, .inl (fun _ => 0))), (q22, .inl (gK X 0, 3001, .inl (fun _ => 0))), (q25, .inr (3, [.ref q3, .null, .null, .null, .null, .int 0, .int 0, .int 0, .int 0, .int 0, .int 0])), (q26, .inr (4, [.null, .null, .null, .null, .null, .null, .int 0, .int 0, .int 0, .int 0]))]) rfl ?_
  refine g_dup (z := 68) C dX12_init_67 rfl rfl ?_
  refine g_aload_n (z := 69) C dX12_init_68 0 rfl rfl rfl ?_
  refine g_get (z := 72) C kX12 dX12_init_69 0 rfl 4 (by decide) w_13 rfl rfl rfl ?_
  refine g_callIN (n := 1) (As := [.ref q3]) (rest := [.ref q26, .ref h0]) (wr := [(h0, .inr (0, [.ref q1, .int 0, .ref q2, .int 0, .ref q3, .ref q15, .ref q25, .null, .null, .null, .null, .null, .int 0, .int 0, .int 0, .int 0, .int 0])), (q1, .inl (gK X 2, 3000, .inl (fun _ => 0))), (q2, .inl (gK X 1, 200, .inr (.inl (fun _ => 0)))), (q3, .inr (1, [.ref q4, .ref q5, .ref q6, .ref q7, .ref q8, .ref q9, .ref q10, .ref q11, .ref q12, .ref q13, .ref q14, .int 1])), (q4, .inl (gK X 0, 3016, .inl (fun _ => 0))), (q5, .inl (gK X 0, 3016, .inl (fun _ => 0))), (q6, .inl (gK X 0, 3016, .inl (fun _ => 0))), (q7, .inl (gK X 0, 3016, .inl (fun _ => 0))), (q8, .inl (gK X 0, 3016, .inl (fun _ => 0))), (q9, .inl (gK X 0, 3016, .inl (fun _ => 0))), (q10, .inl (gK X 0, 3016, .inl (fun _ => 0))), (q11, .inl (gK X 0, 3016, .inl (fun _ => 0))), (q12, .inl (gK X 1, 3016, .inr (.inl (fun _ => 0)))), (q13, .inl (gK X 0, 3016, .inl (fun _ => 0))), (q14, .inl (gK X 0, 3016, .inl (fun _ => 0))), (q15, .inr (2, [.ref q3, .ref q16, .ref q17, .ref q18, .ref q19, .ref q20, .int 0, .int 0, .int 0, .ref q21, .ref q22, .ref q23, .int 0, .int 0, .int 0, .int 0, .int 0, .int 0])), (q16, .inl (gK X 2, 3157, .inl (f24))), (q17, .inl (gK X 0, 1544, .inl (fun _ => 0))), (q18, .inl (gK X 0, 1544, .inl (fun _ => 0))), (q19, .inl (gK X 0, 1544, .inl (fun _ => 0))), (q20, .inl (gK X 0, 256, .inl (fun _ => 0))), (q21, .inl (gK X 0, 3001, .inl (fun _ => 0))), (q22, .inl (gK X 0, 3001, .inl (fun _ => 0))), (q25, .inr (3, [.ref q3, .null, .null, .null, .null, .int 0, .int 0, .int 0, .int 0, .int 0, .int 0]))]) (a2 := 25) (b2 := 53475) (z := 75) C hR (k_X1_init (gl X) (gD X) (gK X) q26 q3) dX12_init_72 nw_3 w_216 rfl w_215 w_24 ⟨by decide +kernel, by decide +kernel, by decide +kernel⟩ [24] [0, 1, 2, 3, 4, 5, 6, 7, 8, 9, 10, 11, 12, 13, 14, 15, 16, 17, 18, 19, 20, 21, 22, 23] rfl rfl rfl rfl rfl (by decide) ⟨(Nat.le_of_ble_eq_true rfl), (Nat.le_of_ble_eq_true rfl)⟩ rfl rfl (Nat.le_of_ble_eq_true rfl) (Nat.le_of_ble_eq_true rfl) (Nat.le_of_ble_eq_true rfl) rfl rfl rfl rfl (fun v ws' hp => ?_)
  obtain ⟨rfl, rfl⟩ := hp
  refine g_ws (w2 := [(h0, .inr (0, [.ref q1, .int 0, .ref q2, .int 0, .ref q3, .ref q15, .ref q25, .null, .null, .null, .null, .null, .int 0, .int 0, .int 0, .int 0, .int 0])), (q1, .inl (gK X 2, 3000, .inl (fun _ => 0))), (q2, .inl (gK X 1, 200, .inr (.inl (fun _ => 0)))), (q3, .inr (1, [.ref q4, .ref q5, .ref q6, .ref q7, .ref q8, .ref q9, .ref q10, .ref q11, .ref q12, .ref q13, .ref q14, .int 1])), (q4, .inl (gK X 0, 3016, .inl (fun _ => 0))), (q5, .inl (gK X 0, 3016, .inl (fun _ => 0))), (q6, .inl (gK X 0, 3016, .inl (fun _ => 0))), (q7, .inl (gK X 0, 3016, .inl (fun _ => 0))), (q8, .inl (gK X 0, 3016, .inl (fun _ => 0))), (q9, .inl (gK X 0, 3016, .inl (fun _ => 0))), (q10, .inl (gK X 0, 3016, .inl (fun _ => 0))), (q11, .inl (gK X 0, 3016, .inl (fun _ => 0))), (q12, .inl (gK X 1, 3016, .inr (.inl (fun _ => 0)))), (q13, .inl (gK X 0, 3016, .inl (fun _ => 0))), (q14, .inl (gK X 0, 3016, .inl (fun _ => 0))), (q15, .inr (2, [.ref q3, .ref q16, .ref q17, .ref q18, .ref q19, .ref q20, .int 0, .int 0, .int 0, .ref q21, .ref q22, .ref q23, .int 0, .int 0, .int 0, .int 0, .int 0, .int 0])), (q16, .inl (gK X 2, 3157, .inl (f24))), (q17, .inl (gK X 0, 1544, .inl (fun _ => 0))), (q18, .inl (gK X 0, 1544, .inl (fun _ => 0))), (q19, .inl (gK X 0, 1544, .inl (fun _ => 0))), (q20, .inl (gK X 0, 256, .inl (fun _ => 0))), (q21, .inl (gK X 0, 3001, .inl (fun _ => 0))), (q22, .inl (gK X 0, 3001, .inl (fun _ => 0))), (q25, .inr (3, [.ref q3, .null, .null, .null, .null, .int 0, .int 0, .int 0, .int 0, .int 0, .int 0])), (q26, .inr (4, [.ref q3, .null, .null, .null, .null, .null, .int 0, .int 0, .int 0, .int 0]))]) rfl ?_
  refine g_st (s2 := [.ref q26, .ref h0]) rfl ?_
  refine g_putF (w2 := [(h0, .inr (0, [.ref q1, .int 0, .ref q2, .int 0, .ref q3, .ref q15, .ref q25, .ref q26, .null, .null, .null, .null, .int 0, .int 0, .int 0, .int 0, .int 0])), (q1, .inl (gK X 2, 3000, .inl (fun _ => 0))), (q2, .inl (gK X 1, 200, .inr (.inl (fun _ => 0)))), (q3, .inr (1, [.ref q4, .ref q5, .ref q6, .ref q7, .ref q8, .ref q9, .ref q10, .ref q11, .ref q12, .ref q13, .ref q14, .int 1])), (q4, .inl (gK X 0, 3016, .inl (fun _ => 0))), (q5, .inl (gK X 0, 3016, .inl (fun _ => 0))), (q6, .inl (gK X 0, 3016, .inl (fun _ => 0))), (q7, .inl (gK X 0, 3016, .inl (fun _ => 0))), (q8, .inl (gK X 0, 3016, .inl (fun _ => 0))), (q9, .inl (gK X 0, 3016, .inl (fun _ => 0))), (q10, .inl (gK X 0, 3016, .inl (fun _ => 0))), (q11, .inl (gK X 0, 3016, .inl (fun _ => 0))), (q12, .inl (gK X 1, 3016, .inr (.inl (fun _ => 0)))), (q13, .inl (gK X 0, 3016, .inl (fun _ => 0))), (q14, .inl (gK X 0, 3016, .inl (fun _ => 0))), (q15, .inr (2, [.ref q3, .ref q16, .ref q17, .ref q18, .ref q19, .ref q20, .int 0, .int 0, .int 0, .ref q21, .ref q22, .ref q23, .int 0, .int 0, .int 0, .int 0, .int 0, .int 0])), (q16, .inl (gK X 2, 3157, .inl (f24))), (q17, .inl (gK X 0, 1544, .inl (fun _ => 0))), (q18, .inl (gK X 0, 1544, .inl (fun _ => 0))), (q19, .inl (gK X 0, 1544, .inl (fun _ => 0))), (q20, .inl (gK X 0, 256, .inl (fun _ => 0))), (q21, .inl (gK X 0, 3001, .inl (fun _ => 0))), (q22, .inl (gK X 0, 3001, .inl (fun _ => 0))), (q25, .inr (3, [.ref q3, .null, .null, .null, .null, .int 0, .int 0, .int 0, .int 0, .int 0, .int 0])), (q26, .inr (4, [.ref q3, .null, .null, .null, .null, .null, .int 0, .int 0, .int 0, .int 0]))]) (z := 78) C kX12 dX12_init_75 0 rfl 7 (by decide) w_25 rfl rfl hnm rfl rfl rfl (Nat.le_of_ble_eq_true rfl) rfl rfl ?_
  refine g_aload_n (z := 79) C dX12_init_78 0 rfl rfl rfl ?_
  refine g_new (fs := [.null, .null, .null, .null, .int 0, .int 0, .null, .int 0, .null, .null, .int 0, .long 0, .null, .int 0, .null, .long 0, .null, .null, .int 0, .int 0, .int 0, .int 0]) (a2 := 26) (b2 := 53497) (z := 82) C hR kX11 dX12_init_79 w_26 w_27 w_28 rfl rfl rfl (Nat.le_of_ble_eq_true rfl) (Nat.le_of_ble_eq_true rfl) rfl (fun q27 => ?_)
  refine g_ws (w2 := [(h0, .inr (0, [.ref q1, .int 0, .ref q2, .int 0, .ref q3, .ref q15, .ref q25, .ref q26, .null, .null, .null, .null, .int 0, .int 0, .int 0, .int 0, .int 0])), (q1, .inl (gK X 2, 3000, .inl (fun _ => 0))), (q2, .inl (gK X 1, 200, .inr (.inl (fun _ => 0)))), (q3, .inr (1, [.ref q4, .ref q5, .ref q6, .ref q7, .ref q8, .ref q9, .ref q10, .ref q11, .ref q12, .ref q13, .ref q14, .int 1])), (q4, .inl (gK X 0, 3016, .inl (fun _ => 0))), (q5, .inl (gK X 0, 3016, .inl (fun _ => 0))), (q6, .inl (gK X 0, 3016, .inl (fun _ => 0))), (q7, .inl (gK X 0, 3016, .inl (fun _ => 0))), (q8, .inl (gK X 0, 3016, .inl (fun _ => 0))), (q9, .inl (gK X 0, 3016, .inl (fun _ => 0))), (q10, .inl (gK X 0, 3016, .inl (fun _ => 0))), (q11, .inl (gK X 0, 3016, .inl (fun _ => 0))), (q12, .inl (gK X 1, 3016, .inr (.inl (fun _ => 0)))), (q13, .inl (gK X 0, 3016, .inl (fun _ => 0))), (q14, .inl (gK X 0, 3016, .inl (fun _ => 0))), (q15, .inr (2, [.ref q3, .ref q16, .ref q17, .ref q18, .ref q19, .ref q20, .int 0, .int 0, .int 0, .ref q21, .ref q22, .ref q23, .int 0, .int 0, .int 0, .int 0, .int 0, .int 0])), (q16, .inl (gK X 2, 3157, .inl (f24))), (q17, .inl (gK X 0, 1544, .inl (fun _ => 0))), (q18, .inl (gK X 0, 1544, .inl (fun _ => 0))), (q19, .inl (gK X 0, 1544, .inl (fun _ => 0))), (q20, .inl (gK X 0, 256, .inl (fun _ => 0))), (q21, .inl (gK X 0, 3001, .inl (fun _ => 0))), (q22, .inl (gK X 0, 3001, .inl (fun _ => 0))), (q25, .inr (3, [.ref q3, .null, .null, .null, .null, .int 0, .int 0, .int 0, .int 0, .int 0, .int 0])), (q26, .inr (4, [.ref q3, .null, .null, .null, .null, .null, .int 0, .int 0, .int 0, .int 0])), (q27, .inr (5, [.null, .null, .null, .null, .int 0, .int 0, .null, .int 0, .null, .null, .int 0, .long 0, .null, .int 0, .null, .long 0, .null, .null, .int 0, .int 0, .int 0, .int 0]))]) rfl ?_
  refine g_dup (z := 83) C dX12_init_82 rfl rfl ?_
  refine g_callIN (n := 0) (As := []) (rest := [.ref q27, .ref h0]) (wr := [(h0, .inr (0, [.ref q1, .int 0, .ref q2, .int 0, .ref q3, .ref q15, .ref q25, .ref q26, .null, .null, .null, .null, .int 0, .int 0, .int 0, .int 0, .int 0])), (q1, .inl (gK X 2, 3000, .inl (fun _ => 0))), (q2, .inl (gK X 1, 200, .inr (.inl (fun _ => 0)))), (q3, .inr (1, [.ref q4, .ref q5, .ref q6, .ref q7, .ref q8, .ref q9, .ref q10, .ref q11, .ref q12, .ref q13, .ref q14, .int 1])), (q4, .inl (gK X 0, 3016, .inl (fun _ => 0))), (q5, .inl (gK X 0, 3016, .inl (fun _ => 0))), (q6, .inl (gK X 0, 3016, .inl (fun _ => 0))), (q7, .inl (gK X 0, 3016, .inl (fun _ => 0))), (q8, .inl (gK X 0, 3016, .inl (fun _ => 0))), (q9, .inl (gK X 0, 3016, .inl (fun _ => 0))), (q10, .inl (gK X 0, 3016, .inl (fun _ => 0))), (q11, .inl (gK X 0, 3016, .inl (fun _ => 0))), (q12, .inl (gK X 1, 3016, .inr (.inl (fun _ => 0)))), (q13, .inl (gK X 0, 3016, .inl (fun _ => 0))), (q14, .inl (gK X 0, 3016, .inl (fun _ => 0))), (q15, .inr (2, [.ref q3, .ref q16, .ref q17, .ref q18, .ref q19, .ref q20, .int 0, .int 0, .int 0, .ref q21, .ref q22, .ref q23, .int 0, .int 0, .int 0, .int 0, .int 0, .int 0])), (q16, .inl (gK X 2, 3157, .inl (f24))), (q17, .inl (gK X 0, 1544, .inl (fun _ => 0))), (q18, .inl (gK X 0, 1544, .inl (fun _ => 0))), (q19, .inl (gK X 0, 1544, .inl (fun _ => 0))), (q20, .inl (gK X 0, 256, .inl (fun _ => 0))), (q21, .inl (gK X 0, 3001, .inl (fun _ => 0))), (q22, .inl (gK X 0, 3001, .inl (fun _ => 0))), (q25, .inr (3, [.ref q3, .null, .null, .null, .null, .int 0, .int 0, .int 0, .int 0, .int 0, .int 0])), (q26, .inr (4, [.ref q3, .null, .null, .null, .null, .null, .int 0, .int 0, .int 0, .int 0]))]) (a2 := 33) (b2 := 63651) (z := 86) C hR (k_X11_init (gl X) (gD X) (gK X) q27) dX12_init_83 nw_4 w_220 rfl w_219 w_28 ⟨by decide +kernel, by decide +kernel, by decide +kernel⟩ [25] [0, 1, 2, 3, 4, 5, 6, 7, 8, 9, 10, 11, 12, 13, 14, 15, 16, 17, 18, 19, 20, 21, 22, 23, 24] rfl rfl rfl rfl rfl (by decide) ⟨(Nat.le_of_ble_eq_true rfl), (Nat.le_of_ble_eq_true rfl)⟩ rfl rfl (Nat.le_of_ble_eq_true rfl) (Nat.le_of_ble_eq_true rfl) (Nat.le_of_ble_eq_true rfl) rfl rfl rfl rfl (fun v ws' hp => ?_)
  obtain rfl := hp
  refine g_sub (w2 := [(h0, .inr (0, [.ref q1, .int 0, .ref q2, .int 0, .ref q3, .ref q15, .ref q25, .ref q26, .null, .null, .null, .null, .int 0, .int 0, .int 0, .int 0, .int 0])), (q1, .inl (gK X 2, 3000, .inl (fun _ => 0))), (q2, .inl (gK X 1, 200, .inr (.inl (fun _ => 0)))), (q3, .inr (1, [.ref q4, .ref q5, .ref q6, .ref q7, .ref q8, .ref q9, .ref q10, .ref q11, .ref q12, .ref q13, .ref q14, .int 1])), (q4, .inl (gK X 0, 3016, .inl (fun _ => 0))), (q5, .inl (gK X 0, 3016, .inl (fun _ => 0))), (q6, .inl (gK X 0, 3016, .inl (fun _ => 0))), (q7, .inl (gK X 0, 3016, .inl (fun _ => 0))), (q8, .inl (gK X 0, 3016, .inl (fun _ => 0))), (q9, .inl (gK X 0, 3016, .inl (fun _ => 0))), (q10, .inl (gK X 0, 3016, .inl (fun _ => 0))), (q11, .inl (gK X 0, 3016, .inl (fun _ => 0))), (q12, .inl (gK X 1, 3016, .inr (.inl (fun _ => 0)))), (q13, .inl (gK X 0, 3016, .inl (fun _ => 0))), (q14, .inl (gK X 0, 3016, .inl (fun _ => 0))), (q15, .inr (2, [.ref q3, .ref q16, .ref q17, .ref q18, .ref q19, .ref q20, .int 0, .int 0, .int 0, .ref q21, .ref q22, .ref q23, .int 0, .int 0, .int 0, .int 0, .int 0, .int 0])), (q16, .inl (gK X 2, 3157, .inl (f24))), (q17, .inl (gK X 0, 1544, .inl (fun _ => 0))), (q18, .inl (gK X 0, 1544, .inl (fun _ => 0))), (q19, .inl (gK X 0, 1544, .inl (fun _ => 0))), (q20, .inl (gK X 0, 256, .inl (fun _ => 0))), (q21, .inl (gK X 0, 3001, .inl (fun _ => 0))), (q22, .inl (gK X 0, 3001, .inl (fun _ => 0))), (q25, .inr (3, [.ref q3, .null, .null, .null, .null, .int 0, .int 0, .int 0, .int 0, .int 0, .int 0])), (q26, .inr (4, [.ref q3, .null, .null, .null, .null, .null, .int 0, .int 0, .int 0, .int 0]))]) [0, 1, 2, 3, 4, 5, 6, 7, 8, 9, 10, 11, 12, 13, 14, 15, 16, 17, 18, 19, 20, 21, 22, 23, 24] rfl rfl rfl ?_
  refine g_st (s2 := [.ref q27, .ref h0]) rfl ?_
  refine g_putF (w2 := [(h0, .inr (0, [.ref q1, .int 0, .ref q2, .int 0, .ref q3, .ref q15, .ref q25, .ref q26, .ref q27, .null, .null, .null, .int 0, .int 0, .int 0, .int 0, .int 0])), (q1, .inl (gK X 2, 3000, .inl (fun _ => 0))), (q2, .inl (gK X 1, 200, .inr (.inl (fun _ => 0)))), (q3, .inr (1, [.ref q4, .ref q5, .ref q6, .ref q7, .ref q8, .ref q9, .ref q10, .ref q11, .ref q12, .ref q13, .ref q14, .int 1])), (q4, .inl (gK X 0, 3016, .inl (fun _ => 0))), (q5, .inl (gK X 0, 3016, .inl (fun _ => 0))), (q6, .inl (gK X 0, 3016, .inl (fun _ => 0))), (q7, .inl (gK X 0, 3016, .inl (fun _ => 0))), (q8, .inl (gK X 0, 3016, .inl (fun _ => 0))), (q9, .inl (gK X 0, 3016, .inl (fun _ => 0))), (q10, .inl (gK X 0, 3016, .inl (fun _ => 0))), (q11, .inl (gK X 0, 3016, .inl (fun _ => 0))), (q12, .inl (gK X 1, 3016, .inr (.inl (fun _ => 0)))), (q13, .inl (gK X 0, 3016, .inl (fun _ => 0))), (q14, .inl (gK X 0, 3016, .inl (fun _ => 0))), (q15, .inr (2, [.ref q3, .ref q16, .ref q17, .ref q18, .ref q19, .ref q20, .int 0, .int 0, .int 0, .ref q21, .ref q22, .ref q23, .int 0, .int 0, .int 0, .int 0, .int 0, .int 0])), (q16, .inl (gK X 2, 3157, .inl (f24))), (q17, .inl (gK X 0, 1544, .inl (fun _ => 0))), (q18, .inl (gK X 0, 1544, .inl (fun _ => 0))), (q19, .inl (gK X 0, 1544, .inl (fun _ => 0))), (q20, .inl (gK X 0, 256, .inl (fun _ => 0))), (q21, .inl (gK X 0, 3001, .inl (fun _ => 0))), (q22, .inl (gK X 0, 3001, .inl (fun _ => 0))), (q25, .inr (3, [.ref q3, .null, .null, .null, .null, .int 0, .int 0, .int 0, .int 0, .int 0, .int 0])), (q26, .inr (4, [.ref q3, .null, .null, .null, .null, .null, .int 0, .int 0, .int 0, .int 0]))]) (z := 89) C kX12 dX12_init_86 0 rfl 8 (by decide) w_29 rfl rfl hnm rfl rfl rfl (Nat.le_of_ble_eq_true rfl) rfl rfl ?_
  refine g_aload_n (z := 90) C dX12_init_89 0 rfl rfl rfl ?_
  refine g_new (fs := [.null, .null, .null, .null, .null, .null, .int 0, .int 0, .long 0, .int 0, .null, .int 0, .null, .null, .int 0, .int 0, .int 0, .int 0, .int 0, .int 0, .int 0]) (a2 := 34) (b2 := 63672) (z := 93) C hR kX3 dX12_init_90 w_30 w_31 w_32 rfl rfl rfl (Nat.le_of_ble_eq_true rfl) (Nat.le_of_ble_eq_true rfl) rfl (fun q28 => ?_)
  refine g_ws (w2 := [(h0, .inr (0, [.ref q1, .int 0, .ref q2, .int 0, .ref q3, .ref q15, .ref q25, .ref q26, .ref q27, .null, .null, .null, .int 0, .int 0, .int 0, .int 0, .int 0])), (q1, .inl (gK X 2, 3000, .inl (fun _ => 0))), (q2, .inl (gK X 1, 200, .inr (.inl (fun _ => 0)))), (q3, .inr (1, [.ref q4, .ref q5, .ref q6, .ref q7, .ref q8, .ref q9, .ref q10, .ref q11, .ref q12, .ref q13, .ref q14, .int 1])), (q4, .inl (gK X 0, 3016, .inl (fun _ => 0))), (q5, .inl (gK X 0, 3016, .inl (fun _ => 0))), (q6, .inl (gK X 0, 3016, .inl (fun _ => 0))), (q7, .inl (gK X 0, 3016, .inl (fun _ => 0))), (q8, .inl (gK X 0, 3016, .inl (fun _ => 0))), (q9, .inl (gK X 0, 3016, .inl (fun _ => 0))), (q10, .inl (gK X 0, 3016, .inl (fun _ => 0))), (q11, .inl (gK X 0, 3016, .inl (fun _ => 0))), (q12, .inl (gK X 1, 3016, .inr (.inl (fun _ => 0)))), (q13, .inl (gK X 0, 3016, .inl (fun _ => 0))), (q14, .inl (gK X 0, 3016, .inl (fun _ => 0))), (q15, .inr (2, [.ref q3, .ref q16, .ref q17, .ref q18, .ref q19, .ref q20, .int 0, .int 0, .int 0, .ref q21, .ref q22, .ref q23, .int 0, .int 0, .int 0, .int 0, .int 0, .int 0])), (q16, .inl (gK X 2, 3157, .inl (f24))), (q17, .inl (gK X 0, 1544, .inl (fun _ => 0))), (q18, .inl (gK X 0, 1544, .inl (fun _ => 0))), (q19, .inl (gK X 0, 1544, .inl (fun _ => 0))), (q20, .inl (gK X 0, 256, .inl (fun _ => 0))), (q21, .inl (gK X 0, 3001, .inl (fun _ => 0))), (q22, .inl (gK X 0, 3001, .inl (fun _ => 0))), (q25, .inr (3, [.ref q3, .null, .null, .null, .null, .int 0, .int 0, .int 0, .int 0, .int 0, .int 0])), (q26, .inr (4, [.ref q3, .null, .null, .null, .null, .null, .int 0, .int 0, .int 0, .int 0])), (q28, .inr (6, [.null, .null, .null, .null, .null, .null, .int 0, .int 0, .long 0, .int 0, .null, .int 0, .null, .null, .int 0, .int 0, .int 0, .int 0, .int 0, .int 0, .int 0]))]) rfl ?_
  refine g_dup (z := 94) C dX12_init_93 rfl rfl ?_
  refine g_callIN (n := 0) (As := []) (rest := [.ref q28, .ref h0]) (wr := [(h0, .inr (0, [.ref q1, .int 0, .ref q2, .int 0, .ref q3, .ref q15, .ref q25, .ref q26, .ref q27, .null, .null, .null, .int 0, .int 0, .int 0, .int 0, .int 0])), (q1, .inl (gK X 2, 3000, .inl (fun _ => 0))), (q2, .inl (gK X 1, 200, .inr (.inl (fun _ => 0)))), (q3, .inr (1, [.ref q4, .ref q5, .ref q6, .ref q7, .ref q8, .ref q9, .ref q10, .ref q11, .ref q12, .ref q13, .ref q14, .int 1])), (q4, .inl (gK X 0, 3016, .inl (fun _ => 0))), (q5, .inl (gK X 0, 3016, .inl (fun _ => 0))), (q6, .inl (gK X 0, 3016, .inl (fun _ => 0))), (q7, .inl (gK X 0, 3016, .inl (fun _ => 0))), (q8, .inl (gK X 0, 3016, .inl (fun _ => 0))), (q9, .inl (gK X 0, 3016, .inl (fun _ => 0))), (q10, .inl (gK X 0, 3016, .inl (fun _ => 0))), (q11, .inl (gK X 0, 3016, .inl (fun _ => 0))), (q12, .inl (gK X 1, 3016, .inr (.inl (fun _ => 0)))), (q13, .inl (gK X 0, 3016, .inl (fun _ => 0))), (q14, .inl (gK X 0, 3016, .inl (fun _ => 0))), (q15, .inr (2, [.ref q3, .ref q16, .ref q17, .ref q18, .ref q19, .ref q20, .int 0, .int 0, .int 0, .ref q21, .ref q22, .ref q23, .int 0, .int 0, .int 0, .int 0, .int 0, .int 0])), (q16, .inl (gK X 2, 3157, .inl (f24))), (q17, .inl (gK X 0, 1544, .inl (fun _ => 0))), (q18, .inl (gK X 0, 1544, .inl (fun _ => 0))), (q19, .inl (gK X 0, 1544, .inl (fun _ => 0))), (q20, .inl (gK X 0, 256, .inl (fun _ => 0))), (q21, .inl (gK X 0, 3001, .inl (fun _ => 0))), (q22, .inl (gK X 0, 3001, .inl (fun _ => 0))), (q25, .inr (3, [.ref q3, .null, .null, .null, .null, .int 0, .int 0, .int 0, .int 0, .int 0, .int 0])), (q26, .inr (4, [.ref q3, .null, .null, .null, .null, .null, .int 0, .int 0, .int 0, .int 0]))]) (a2 := 85) (b2 := 94891) (z := 97) C hR (k_X3_init (gl X) (gD X) (gK X) q28) dX12_init_94 nw_5 w_231 rfl w_230 w_32 ⟨by decide +kernel, by decide +kernel, by decide +kernel⟩ [25] [0, 1, 2, 3, 4, 5, 6, 7, 8, 9, 10, 11, 12, 13, 14, 15, 16, 17, 18, 19, 20, 21, 22, 23, 24] rfl rfl rfl rfl rfl (by decide) ⟨(Nat.le_of_ble_eq_true rfl), (Nat.le_of_ble_eq_true rfl)⟩ rfl rfl (Nat.le_of_ble_eq_true rfl) (Nat.le_of_ble_eq_true rfl) (Nat.le_of_ble_eq_true rfl) rfl rfl rfl rfl (fun v ws' hp => ?_)
  obtain rfl := hp
  refine g_sub (w2 := [(h0, .inr (0, [.ref q1, .int 0, .ref q2, .int 0, .ref q3, .ref q15, .ref q25, .ref q26, .ref q27, .null, .null, .null, .int 0, .int 0, .int 0, .int 0, .int 0])), (q1, .inl (gK X 2, 3000, .inl (fun _ => 0))), (q2, .inl (gK X 1, 200, .inr (.inl (fun _ => 0)))), (q3, .inr (1, [.ref q4, .ref q5, .ref q6, .ref q7, .ref q8, .ref q9, .ref q10, .ref q11, .ref q12, .ref q13, .ref q14, .int 1])), (q4, .inl (gK X 0, 3016, .inl (fun _ => 0))), (q5, .inl (gK X 0, 3016, .inl (fun _ => 0))), (q6, .inl (gK X 0, 3016, .inl (fun _ => 0))), (q7, .inl (gK X 0, 3016, .inl (fun _ => 0))), (q8, .inl (gK X 0, 3016, .inl (fun _ => 0))), (q9, .inl (gK X 0, 3016, .inl (fun _ => 0))), (q10, .inl (gK X 0, 3016, .inl (fun _ => 0))), (q11, .inl (gK X 0, 3016, .inl (fun _ => 0))), (q12, .inl (gK X 1, 3016, .inr (.inl (fun _ => 0)))), (q13, .inl (gK X 0, 3016, .inl (fun _ => 0))), (q14, .inl (gK X 0, 3016, .inl (fun _ => 0))), (q15, .inr (2, [.ref q3, .ref q16, .ref q17, .ref q18, .ref q19, .ref q20, .int 0, .int 0, .int 0, .ref q21, .ref q22, .ref q23, .int 0, .int 0, .int 0, .int 0, .int 0, .int 0])), (q16, .inl (gK X 2, 3157, .inl (f24))), (q17, .inl (gK X 0, 1544, .inl (fun _ => 0))), (q18, .inl (gK X 0, 1544, .inl (fun _ => 0))), (q19, .inl (gK X 0, 1544, .inl (fun _ => 0))), (q20, .inl (gK X 0, 256, .inl (fun _ => 0))), (q21, .inl (gK X 0, 3001, .inl (fun _ => 0))), (q22, .inl (gK X 0, 3001, .inl (fun _ => 0))), (q25, .inr (3, [.ref q3, .null, .null, .null, .null, .int 0, .int 0, .int 0, .int 0, .int 0, .int 0])), (q26, .inr (4, [.ref q3, .null, .null, .null, .null, .null, .int 0, .int 0, .int 0, .int 0]))]) [0, 1, 2, 3, 4, 5, 6, 7, 8, 9, 10, 11, 12, 13, 14, 15, 16, 17, 18, 19, 20, 21, 22, 23, 24] rfl rfl rfl ?_
  refine g_st (s2 := [.ref q28, .ref h0]) rfl ?_
  refine g_putF (w2 := [(h0, .inr (0, [.ref q1, .int 0, .ref q2, .int 0, .ref q3, .ref q15, .ref q25, .ref q26, .ref q27, .ref q28, .null, .null, .int 0, .int 0, .int 0, .int 0, .int 0])), (q1, .inl (gK X 2, 3000, .inl (fun _ => 0))), (q2, .inl (gK X 1, 200, .inr (.inl (fun _ => 0)))), (q3, .inr (1, [.ref q4, .ref q5, .ref q6, .ref q7, .ref q8, .ref q9, .ref q10, .ref q11, .ref q12, .ref q13, .ref q14, .int 1])), (q4, .inl (gK X 0, 3016, .inl (fun _ => 0))), (q5, .inl (gK X 0, 3016, .inl (fun _ => 0))), (q6, .inl (gK X 0, 3016, .inl (fun _ => 0))), (q7, .inl (gK X 0, 3016, .inl (fun _ => 0))), (q8, .inl (gK X 0, 3016, .inl (fun _ => 0))), (q9, .inl (gK X 0, 3016, .inl (fun _ => 0))), (q10, .inl (gK X 0, 3016, .inl (fun _ => 0))), (q11, .inl (gK X 0, 3016, .inl (fun _ => 0))), (q12, .inl (gK X 1, 3016, .inr (.inl (fun _ => 0)))), (q13, .inl (gK X 0, 3016, .inl (fun _ => 0))), (q14, .inl (gK X 0, 3016, .inl (fun _ => 0))), (q15, .inr (2, [.ref q3, .ref q16, .ref q17, .ref q18, .ref q19, .ref q20, .int 0, .int 0, .int 0, .ref q21, .ref q22, .ref q23, .int 0, .int 0, .int 0, .int 0, .int 0, .int 0])), (q16, .inl (gK X 2, 3157, .inl (f24))), (q17, .inl (gK X 0, 1544, .inl (fun _ => 0))), (q18, .inl (gK X 0, 1544, .inl (fun _ => 0))), (q19, .inl (gK X 0, 1544, .inl (fun _ => 0))), (q20, .inl (gK X 0, 256, .inl (fun _ => 0))), (q21, .inl (gK X 0, 3001, .inl (fun _ => 0))), (q22, .inl (gK X 0, 3001, .inl (fun _ => 0))), (q25, .inr (3, [.ref q3, .null, .null, .null, .null, .int 0, .int 0, .int 0, .int 0, .int 0, .int 0])), (q26, .inr (4, [.ref q3, .null, .null, .null, .null, .null, .int 0, .int 0, .int 0, .int 0]))]) (z := 100) C kX12 dX12_init_97 0 rfl 9 (by decide) w_33 rfl rfl hnm rfl rfl rfl (Nat.le_of_ble_eq_true rfl) rfl rfl ?_
  refine g_aload_n (z := 101) C dX12_init_100 0 rfl rfl rfl ?_
  refine g_new (fs := [.null, .null, .null, .null, .null, .null, .null, .null, .null, .null, .int 0, .int 0, .int 0, .null, .int 0]) (a2 := 86) (b2 := 94906) (z := 104) C hR kX5 dX12_init_101 w_34 w_35 w_36 rfl rfl rfl (Nat.le_of_ble_eq_true rfl) (Nat.le_of_ble_eq_true rfl) rfl (fun q29 => ?_)
  refine g_ws (w2 := [(h0, .inr (0, [.ref q1, .int 0, .ref q2, .int 0, .ref q3, .ref q15, .ref q25, .ref q26, .ref q27, .ref q28, .null, .null, .int 0, .int 0, .int 0, .int 0, .int 0])), (q1, .inl (gK X 2, 3000, .inl (fun _ => 0))), (q2, .inl (gK X 1, 200, .inr (.inl (fun _ => 0)))), (q3, .inr (1, [.ref q4, .ref q5, .ref q6, .ref q7, .ref q8, .ref q9, .ref q10, .ref q11, .ref q12, .ref q13, .ref q14, .int 1])), (q4, .inl (gK X 0, 3016, .inl (fun _ => 0))), (q5, .inl (gK X 0, 3016, .inl (fun _ => 0))), (q6, .inl (gK X 0, 3016, .inl (fun _ => 0))), (q7, .inl (gK X 0, 3016, .inl (fun _ => 0))), (q8, .inl (gK X 0, 3016, .inl (fun _ => 0))), (q9, .inl (gK X 0, 3016, .inl (fun _ => 0))), (q10, .inl (gK X 0, 3016, .inl (fun _ => 0))), (q11, .inl (gK X 0, 3016, .inl (fun _ => 0))), (q12, .inl (gK X 1, 3016, .inr (.inl (fun _ => 0)))), (q13, .inl (gK X 0, 3016, .inl (fun _ => 0))), (q14, .inl (gK X 0, 3016, .inl (fun _ => 0))), (q15, .inr (2, [.ref q3, .ref q16, .ref q17, .ref q18, .ref q19, .ref q20, .int 0, .int 0, .int 0, .ref q21, .ref q22, .ref q23, .int 0, .int 0, .int 0, .int 0, .int 0, .int 0])), (q16, .inl (gK X 2, 3157, .inl (f24))), (q17, .inl (gK X 0, 1544, .inl (fun _ => 0))), (q18, .inl (gK X 0, 1544, .inl (fun _ => 0))), (q19, .inl (gK X 0, 1544, .inl (fun _ => 0))), (q20, .inl (gK X 0, 256, .inl (fun _ => 0))), (q21, .inl (gK X 0, 3001, .inl (fun _ => 0))), (q22, .inl (gK X 0, 3001, .inl (fun _ => 0))), (q25, .inr (3, [.ref q3, .null, .null, .null, .null, .int 0, .int 0, .int 0, .int 0, .int 0, .int 0])), (q26, .inr (4, [.ref q3, .null, .null, .null, .null, .null, .int 0, .int 0, .int 0, .int 0])), (q29, .inr (8, [.null, .null, .null, .null, .null, .null, .null, .null, .null, .null, .int 0, .int 0, .int 0, .null, .int 0]))]) rfl ?_
  refine g_dup (z := 105) C dX12_init_104 rfl rfl ?_
  refine g_callIN (n := 0) (As := []) (rest := [.ref q29, .ref h0]) (wr := [(h0, .inr (0, [.ref q1, .int 0, .ref q2, .int 0, .ref q3, .ref q15, .ref q25, .ref q26, .ref q27, .ref q28, .null, .null, .int 0, .int 0, .int 0, .int 0, .int 0])), (q1, .inl (gK X 2, 3000, .inl (fun _ => 0))), (q2, .inl (gK X 1, 200, .inr (.inl (fun _ => 0)))), (q3, .inr (1, [.ref q4, .ref q5, .ref q6, .ref q7, .ref q8, .ref q9, .ref q10, .ref q11, .ref q12, .ref q13, .ref q14, .int 1])), (q4, .inl (gK X 0, 3016, .inl (fun _ => 0))), (q5, .inl (gK X 0, 3016, .inl (fun _ => 0))), (q6, .inl (gK X 0, 3016, .inl (fun _ => 0))), (q7, .inl (gK X 0, 3016, .inl (fun _ => 0))), (q8, .inl (gK X 0, 3016, .inl (fun _ => 0))), (q9, .inl (gK X 0, 3016, .inl (fun _ => 0))), (q10, .inl (gK X 0, 3016, .inl (fun _ => 0))), (q11, .inl (gK X 0, 3016, .inl (fun _ => 0))), (q12, .inl (gK X 1, 3016, .inr (.inl (fun _ => 0)))), (q13, .inl (gK X 0, 3016, .inl (fun _ => 0))), (q14, .inl (gK X 0, 3016, .inl (fun _ => 0))), (q15, .inr (2, [.ref q3, .ref q16, .ref q17, .ref q18, .ref q19, .ref q20, .int 0, .int 0, .int 0, .ref q21, .ref q22, .ref q23, .int 0, .int 0, .int 0, .int 0, .int 0, .int 0])), (q16, .inl (gK X 2, 3157, .inl (f24))), (q17, .inl (gK X 0, 1544, .inl (fun _ => 0))), (q18, .inl (gK X 0, 1544, .inl (fun _ => 0))), (q19, .inl (gK X 0, 1544, .inl (fun _ => 0))), (q20, .inl (gK X 0, 256, .inl (fun _ => 0))), (q21, .inl (gK X 0, 3001, .inl (fun _ => 0))), (q22, .inl (gK X 0, 3001, .inl (fun _ => 0))), (q25, .inr (3, [.ref q3, .null, .null, .null, .null, .int 0, .int 0, .int 0, .int 0, .int 0, .int 0])), (q26, .inr (4, [.ref q3, .null, .null, .null, .null, .null, .int 0, .int 0, .int 0, .int 0]))]) (a2 := 155) (b2 := 165812) (z := 108) C hR (k_X5_init (gl X) (gD X) (gK X) q29) dX12_init_105 nw_6 w_252 rfl w_251 w_36 ⟨by decide +kernel, by decide +kernel, by decide +kernel⟩ [25] [0, 1, 2, 3, 4, 5, 6, 7, 8, 9, 10, 11, 12, 13, 14, 15, 16, 17, 18, 19, 20, 21, 22, 23, 24] rfl rfl rfl rfl rfl (by decide) ⟨(Nat.le_of_ble_eq_true rfl), (Nat.le_of_ble_eq_true rfl)⟩ rfl rfl (Nat.le_of_ble_eq_true rfl) (Nat.le_of_ble_eq_true rfl) (Nat.le_of_ble_eq_true rfl) rfl rfl rfl rfl (fun v ws' hp => ?_)
  obtain ⟨rfl, q30, q31, q32, q33, q34, q35, q36, q37, q38, q39, q40, q41, q42, q43, q44, q45, q46, q47, q48, q49, q50, q51, q52, q53, q54, q55, q56, q57, q58, q59, q60, q61, q62, q63, q64, q65, q66, q67, q68, q69, q70, q71, q72, q73, q74, q75, q76, q77, q78, q79, q80, q81, q82, q83, q84, q85, q86, q87, q88, q89, q90, q91, q92, q93, q94, q95, q96, q97, q98, rfl⟩ := hp
  refine g_ws (w2 := [(h0, .inr (0, [.ref q1, .int 0, .ref q2, .int 0, .ref q3, .ref q15, .ref q25, .ref q26, .ref q27, .ref q28, .null, .null, .int 0, .int 0, .int 0, .int 0, .int 0])), (q1, .inl (gK X 2, 3000, .inl (fun _ => 0))), (q2, .inl (gK X 1, 200, .inr (.inl (fun _ => 0)))), (q3, .inr (1, [.ref q4, .ref q5, .ref q6, .ref q7, .ref q8, .ref q9, .ref q10, .ref q11, .ref q12, .ref q13, .ref q14, .int 1])), (q4, .inl (gK X 0, 3016, .inl (fun _ => 0))), (q5, .inl (gK X 0, 3016, .inl (fun _ => 0))), (q6, .inl (gK X 0, 3016, .inl (fun _ => 0))), (q7, .inl (gK X 0, 3016, .inl (fun _ => 0))), (q8, .inl (gK X 0, 3016, .inl (fun _ => 0))), (q9, .inl (gK X 0, 3016, .inl (fun _ => 0))), (q10, .inl (gK X 0, 3016, .inl (fun _ => 0))), (q11, .inl (gK X 0, 3016, .inl (fun _ => 0))), (q12, .inl (gK X 1, 3016, .inr (.inl (fun _ => 0)))), (q13, .inl (gK X 0, 3016, .inl (fun _ => 0))), (q14, .inl (gK X 0, 3016, .inl (fun _ => 0))), (q15, .inr (2, [.ref q3, .ref q16, .ref q17, .ref q18, .ref q19, .ref q20, .int 0, .int 0, .int 0, .ref q21, .ref q22, .ref q23, .int 0, .int 0, .int 0, .int 0, .int 0, .int 0])), (q16, .inl (gK X 2, 3157, .inl (f24))), (q17, .inl (gK X 0, 1544, .inl (fun _ => 0))), (q18, .inl (gK X 0, 1544, .inl (fun _ => 0))), (q19, .inl (gK X 0, 1544, .inl (fun _ => 0))), (q20, .inl (gK X 0, 256, .inl (fun _ => 0))), (q21, .inl (gK X 0, 3001, .inl (fun _ => 0))), (q22, .inl (gK X 0, 3001, .inl (fun _ => 0))), (q25, .inr (3, [.ref q3, .null, .null, .null, .null, .int 0, .int 0, .int 0, .int 0, .int 0, .int 0])), (q26, .inr (4, [.ref q3, .null, .null, .null, .null, .null, .int 0, .int 0, .int 0, .int 0])), (q29, .inr (8, [.ref q30, .ref q31, .ref q32, .ref q33, .ref q34, .ref q35, .ref q36, .ref q37, .ref q38, .ref q39, .int 0, .int 0, .int 0, .ref q40, .int 0])), (q30, .inr (9, [.ref q41, .ref q42, .int 0, .ref q43, .ref q44, .ref q45, .ref q46, .ref q47, .ref q48, .ref q49, .int 0, .ref q50, .ref q51, .ref q52, .int 0, .ref q53, .ref q54, .ref q55, .int 0])), (q41, .inl (gK X 0, 1504, .inl (fun _ => 0))), (q31, .inr (10, [.ref q56, .ref q57, .ref q58, .ref q59, .ref q60, .ref q61, .ref q62, .int 0, .ref q63, .ref q64, .ref q65, .ref q66, .ref q67, .ref q68, .ref q69, .ref q70, .ref q71, .int 0, .int 0])), (q32, .inr (11, [.ref q72, .ref q73, .ref q74, .ref q75, .ref q76, .ref q77, .ref q78, .ref q79, .int 0, .ref q80, .ref q81, .int 0])), (q33, .inr (12, [.ref q82, .ref q83, .ref q84, .ref q85, .ref q86, .ref q87, .ref q88, .ref q89, .ref q90, .ref q91, .ref q92, .ref q93, .int 0, .ref q94, .ref q95, .ref q96, .int 0, .ref q97, .ref q98, .int 0]))]) rfl ?_
  refine g_st (s2 := [.ref q29, .ref h0]) rfl ?_
  refine g_put (w2 := [(h0, .inr (0, [.ref q1, .int 0, .ref q2, .int 0, .ref q3, .ref q15, .ref q25, .ref q26, .ref q27, .ref q28, .ref q29, .null, .int 0, .int 0, .int 0, .int 0, .int 0])), (q1, .inl (gK X 2, 3000, .inl (fun _ => 0))), (q2, .inl (gK X 1, 200, .inr (.inl (fun _ => 0)))), (q3, .inr (1, [.ref q4, .ref q5, .ref q6, .ref q7, .ref q8, .ref q9, .ref q10, .ref q11, .ref q12, .ref q13, .ref q14, .int 1])), (q4, .inl (gK X 0, 3016, .inl (fun _ => 0))), (q5, .inl (gK X 0, 3016, .inl (fun _ => 0))), (q6, .inl (gK X 0, 3016, .inl (fun _ => 0))), (q7, .inl (gK X 0, 3016, .inl (fun _ => 0))), (q8, .inl (gK X 0, 3016, .inl (fun _ => 0))), (q9, .inl (gK X 0, 3016, .inl (fun _ => 0))), (q10, .inl (gK X 0, 3016, .inl (fun _ => 0))), (q11, .inl (gK X 0, 3016, .inl (fun _ => 0))), (q12, .inl (gK X 1, 3016, .inr (.inl (fun _ => 0)))), (q13, .inl (gK X 0, 3016, .inl (fun _ => 0))), (q14, .inl (gK X 0, 3016, .inl (fun _ => 0))), (q15, .inr (2, [.ref q3, .ref q16, .ref q17, .ref q18, .ref q19, .ref q20, .int 0, .int 0, .int 0, .ref q21, .ref q22, .ref q23, .int 0, .int 0, .int 0, .int 0, .int 0, .int 0])), (q16, .inl (gK X 2, 3157, .inl (f24))), (q17, .inl (gK X 0, 1544, .inl (fun _ => 0))), (q18, .inl (gK X 0, 1544, .inl (fun _ => 0))), (q19, .inl (gK X 0, 1544, .inl (fun _ => 0))), (q20, .inl (gK X 0, 256, .inl (fun _ => 0))), (q21, .inl (gK X 0, 3001, .inl (fun _ => 0))), (q22, .inl (gK X 0, 3001, .inl (fun _ => 0))), (q25, .inr (3, [.ref q3, .null, .null, .null, .null, .int 0, .int 0, .int 0, .int 0, .int 0, .int 0])), (q26, .inr (4, [.ref q3, .null, .null, .null, .null, .null, .int 0, .int 0, .int 0, .int 0])), (q29, .inr (8, [.ref q30, .ref q31, .ref q32, .ref q33, .ref q34, .ref q35, .ref q36, .ref q37, .ref q38, .ref q39, .int 0, .int 0, .int 0, .ref q40, .int 0])), (q30, .inr (9, [.ref q41, .ref q42, .int 0, .ref q43, .ref q44, .ref q45, .ref q46, .ref q47, .ref q48, .ref q49, .int 0, .ref q50, .ref q51, .ref q52, .int 0, .ref q53, .ref q54, .ref q55, .int 0])), (q41, .inl (gK X 0, 1504, .inl (fun _ => 0))), (q31, .inr (10, [.ref q56, .ref q57, .ref q58, .ref q59, .ref q60, .ref q61, .ref q62, .int 0, .ref q63, .ref q64, .ref q65, .ref q66, .ref q67, .ref q68, .ref q69, .ref q70, .ref q71, .int 0, .int 0])), (q32, .inr (11, [.ref q72, .ref q73, .ref q74, .ref q75, .ref q76, .ref q77, .ref q78, .ref q79, .int 0, .ref q80, .ref q81, .int 0])), (q33, .inr (12, [.ref q82, .ref q83, .ref q84, .ref q85, .ref q86, .ref q87, .ref q88, .ref q89, .ref q90, .ref q91, .ref q92, .ref q93, .int 0, .ref q94, .ref q95, .ref q96, .int 0, .ref q97, .ref q98, .int 0]))]) (z := 111) C kX12 dX12_init_108 0 rfl 10 (by decide) w_37 rfl rfl rfl rfl (Nat.le_of_ble_eq_true rfl) rfl rfl ?_
  refine g_aload_n (z := 112) C dX12_init_111 0 rfl rfl rfl ?_
  refine g_iconst (v := (-1)) (z := 113) C dX12_init_112 (by decide) rfl ?_
  refine g_put (w2 := [(h0, .inr (0, [.ref q1, .int 0, .ref q2, .int 0, .ref q3, .ref q15, .ref q25, .ref q26, .ref q27, .ref q28, .ref q29, .null, .int 0, .int 0, .int (-1), .int 0, .int 0])), (q1, .inl (gK X 2, 3000, .inl (fun _ => 0))), (q2, .inl (gK X 1, 200, .inr (.inl (fun _ => 0)))), (q3, .inr (1, [.ref q4, .ref q5, .ref q6, .ref q7, .ref q8, .ref q9, .ref q10, .ref q11, .ref q12, .ref q13, .ref q14, .int 1])), (q4, .inl (gK X 0, 3016, .inl (fun _ => 0))), (q5, .inl (gK X 0, 3016, .inl (fun _ => 0))), (q6, .inl (gK X 0, 3016, .inl (fun _ => 0))), (q7, .inl (gK X 0, 3016, .inl (fun _ => 0))), (q8, .inl (gK X 0, 3016, .inl (fun _ => 0))), (q9, .inl (gK X 0, 3016, .inl (fun _ => 0))), (q10, .inl (gK X 0, 3016, .inl (fun _ => 0))), (q11, .inl (gK X 0, 3016, .inl (fun _ => 0))), (q12, .inl (gK X 1, 3016, .inr (.inl (fun _ => 0)))), (q13, .inl (gK X 0, 3016, .inl (fun _ => 0))), (q14, .inl (gK X 0, 3016, .inl (fun _ => 0))), (q15, .inr (2, [.ref q3, .ref q16, .ref q17, .ref q18, .ref q19, .ref q20, .int 0, .int 0, .int 0, .ref q21, .ref q22, .ref q23, .int 0, .int 0, .int 0, .int 0, .int 0, .int 0])), (q16, .inl (gK X 2, 3157, .inl (f24))), (q17, .inl (gK X 0, 1544, .inl (fun _ => 0))), (q18, .inl (gK X 0, 1544, .inl (fun _ => 0))), (q19, .inl (gK X 0, 1544, .inl (fun _ => 0))), (q20, .inl (gK X 0, 256, .inl (fun _ => 0))), (q21, .inl (gK X 0, 3001, .inl (fun _ => 0))), (q22, .inl (gK X 0, 3001, .inl (fun _ => 0))), (q25, .inr (3, [.ref q3, .null, .null, .null, .null, .int 0, .int 0, .int 0, .int 0, .int 0, .int 0])), (q26, .inr (4, [.ref q3, .null, .null, .null, .null, .null, .int 0, .int 0, .int 0, .int 0])), (q29, .inr (8, [.ref q30, .ref q31, .ref q32, .ref q33, .ref q34, .ref q35, .ref q36, .ref q37, .ref q38, .ref q39, .int 0, .int 0, .int 0, .ref q40, .int 0])), (q30, .inr (9, [.ref q41, .ref q42, .int 0, .ref q43, .ref q44, .ref q45, .ref q46, .ref q47, .ref q48, .ref q49, .int 0, .ref q50, .ref q51, .ref q52, .int 0, .ref q53, .ref q54, .ref q55, .int 0])), (q41, .inl (gK X 0, 1504, .inl (fun _ => 0))), (q31, .inr (10, [.ref q56, .ref q57, .ref q58, .ref q59, .ref q60, .ref q61, .ref q62, .int 0, .ref q63, .ref q64, .ref q65, .ref q66, .ref q67, .ref q68, .ref q69, .ref q70, .ref q71, .int 0, .int 0])), (q32, .inr (11, [.ref q72, .ref q73, .ref q74, .ref q75, .ref q76, .ref q77, .ref q78, .ref q79, .int 0, .ref q80, .ref q81, .int 0])), (q33, .inr (12, [.ref q82, .ref q83, .ref q84, .ref q85, .ref q86, .ref q87, .ref q88, .ref q89, .ref q90, .ref q91, .ref q92, .ref q93, .int 0, .ref q94, .ref q95, .ref q96, .int 0, .ref q97, .ref q98, .int 0]))]) (z := 116) C kX12 dX12_init_113 0 rfl 14 (by decide) w_38 rfl rfl rfl rfl (Nat.le_of_ble_eq_true rfl) rfl rfl ?_
  refine g_aload_n (z := 117) C dX12_init_116 0 rfl rfl rfl ?_
  refine g_iconst (v := (-1)) (z := 118) C dX12_init_117 (by decide) rfl ?_
  refine g_put (w2 := [(h0, .inr (0, [.ref q1, .int 0, .ref q2, .int 0, .ref q3, .ref q15, .ref q25, .ref q26, .ref q27, .ref q28, .ref q29, .null, .int 0, .int 0, .int (-1), .int (-1), .int 0])), (q1, .inl (gK X 2, 3000, .inl (fun _ => 0))), (q2, .inl (gK X 1, 200, .inr (.inl (fun _ => 0)))), (q3, .inr (1, [.ref q4, .ref q5, .ref q6, .ref q7, .ref q8, .ref q9, .ref q10, .ref q11, .ref q12, .ref q13, .ref q14, .int 1])), (q4, .inl (gK X 0, 3016, .inl (fun _ => 0))), (q5, .inl (gK X 0, 3016, .inl (fun _ => 0))), (q6, .inl (gK X 0, 3016, .inl (fun _ => 0))), (q7, .inl (gK X 0, 3016, .inl (fun _ => 0))), (q8, .inl (gK X 0, 3016, .inl (fun _ => 0))), (q9, .inl (gK X 0, 3016, .inl (fun _ => 0))), (q10, .inl (gK X 0, 3016, .inl (fun _ => 0))), (q11, .inl (gK X 0, 3016, .inl (fun _ => 0))), (q12, .inl (gK X 1, 3016, .inr (.inl (fun _ => 0)))), (q13, .inl (gK X 0, 3016, .inl (fun _ => 0))), (q14, .inl (gK X 0, 3016, .inl (fun _ => 0))), (q15, .inr (2, [.ref q3, .ref q16, .ref q17, .ref q18, .ref q19, .ref q20, .int 0, .int 0, .int 0, .ref q21, .ref q22, .ref q23, .int 0, .int 0, .int 0, .int 0, .int 0, .int 0])), (q16, .inl (gK X 2, 3157, .inl (f24))), (q17, .inl (gK X 0, 1544, .inl (fun _ => 0))), (q18, .inl (gK X 0, 1544, .inl (fun _ => 0))), (q19, .inl (gK X 0, 1544, .inl (fun _ => 0))), (q20, .inl (gK X 0, 256, .inl (fun _ => 0))), (q21, .inl (gK X 0, 3001, .inl (fun _ => 0))), (q22, .inl (gK X 0, 3001, .inl (fun _ => 0))), (q25, .inr (3, [.ref q3, .null, .null, .null, .null, .int 0, .int 0, .int 0, .int 0, .int 0, .int 0])), (q26, .inr (4, [.ref q3, .null, .null, .null, .null, .null, .int 0, .int 0, .int 0, .int 0])), (q29, .inr (8, [.ref q30, .ref q31, .ref q32, .ref q33, .ref q34, .ref q35, .ref q36, .ref q37, .ref q38, .ref q39, .int 0, .int 0, .int 0, .ref q40, .int 0])), (q30, .inr (9, [.ref q41, .ref q42, .int 0, .ref q43, .ref q44, .ref q45, .ref q46, .ref q47, .ref q48, .ref q49, .int 0, .ref q50, .ref q51, .ref q52, .int 0, .ref q53, .ref q54, .ref q55, .int 0])), (q41, .inl (gK X 0, 1504, .inl (fun _ => 0))), (q31, .inr (10, [.ref q56, .ref q57, .ref q58, .ref q59, .ref q60, .ref q61, .ref q62, .int 0, .ref q63, .ref q64, .ref q65, .ref q66, .ref q67, .ref q68, .ref q69, .ref q70, .ref q71, .int 0, .int 0])), (q32, .inr (11, [.ref q72, .ref q73, .ref q74, .ref q75, .ref q76, .ref q77, .ref q78, .ref q79, .int 0, .ref q80, .ref q81, .int 0])), (q33, .inr (12, [.ref q82, .ref q83, .ref q84, .ref q85, .ref q86, .ref q87, .ref q88, .ref q89, .ref q90, .ref q91, .ref q92, .ref q93, .int 0, .ref q94, .ref q95, .ref q96, .int 0, .ref q97, .ref q98, .int 0]))]) (z := 121) C kX12 dX12_init_118 0 rfl 15 (by decide) w_39 rfl rfl rfl rfl (Nat.le_of_ble_eq_true rfl) rfl rfl ?_
  refine g_aload_n (z := 122) C dX12_init_121 0 rfl rfl rfl ?_
  refine g_iconst (v := (-1)) (z := 123) C dX12_init_122 (by decide) rfl ?_
  refine g_put (w2 := [(h0, .inr (0, [.ref q1, .int 0, .ref q2, .int 0, .ref q3, .ref q15, .ref q25, .ref q26, .ref q27, .ref q28, .ref q29, .null, .int 0, .int 0, .int (-1), .int (-1), .int (-1)])), (q1, .inl (gK X 2, 3000, .inl (fun _ => 0))), (q2, .inl (gK X 1, 200, .inr (.inl (fun _ => 0)))), (q3, .inr (1, [.ref q4, .ref q5, .ref q6, .ref q7, .ref q8, .ref q9, .ref q10, .ref q11, .ref q12, .ref q13, .ref q14, .int 1])), (q4, .inl (gK X 0, 3016, .inl (fun _ => 0))), (q5, .inl (gK X 0, 3016, .inl (fun _ => 0))), (q6, .inl (gK X 0, 3016, .inl (fun _ => 0))), (q7, .inl (gK X 0, 3016, .inl (fun _ => 0))), (q8, .inl (gK X 0, 3016, .inl (fun _ => 0))), (q9, .inl (gK X 0, 3016, .inl (fun _ => 0))), (q10, .inl (gK X 0, 3016, .inl (fun _ => 0))), (q11, .inl (gK X 0, 3016, .inl (fun _ => 0))), (q12, .inl (gK X 1, 3016, .inr (.inl (fun _ => 0)))), (q13, .inl (gK X 0, 3016, .inl (fun _ => 0))), (q14, .inl (gK X 0, 3016, .inl (fun _ => 0))), (q15, .inr (2, [.ref q3, .ref q16, .ref q17, .ref q18, .ref q19, .ref q20, .int 0, .int 0, .int 0, .ref q21, .ref q22, .ref q23, .int 0, .int 0, .int 0, .int 0, .int 0, .int 0])), (q16, .inl (gK X 2, 3157, .inl (f24))), (q17, .inl (gK X 0, 1544, .inl (fun _ => 0))), (q18, .inl (gK X 0, 1544, .inl (fun _ => 0))), (q19, .inl (gK X 0, 1544, .inl (fun _ => 0))), (q20, .inl (gK X 0, 256, .inl (fun _ => 0))), (q21, .inl (gK X 0, 3001, .inl (fun _ => 0))), (q22, .inl (gK X 0, 3001, .inl (fun _ => 0))), (q25, .inr (3, [.ref q3, .null, .null, .null, .null, .int 0, .int 0, .int 0, .int 0, .int 0, .int 0])), (q26, .inr (4, [.ref q3, .null, .null, .null, .null, .null, .int 0, .int 0, .int 0, .int 0])), (q29, .inr (8, [.ref q30, .ref q31, .ref q32, .ref q33, .ref q34, .ref q35, .ref q36, .ref q37, .ref q38, .ref q39, .int 0, .int 0, .int 0, .ref q40, .int 0])), (q30, .inr (9, [.ref q41, .ref q42, .int 0, .ref q43, .ref q44, .ref q45, .ref q46, .ref q47, .ref q48, .ref q49, .int 0, .ref q50, .ref q51, .ref q52, .int 0, .ref q53, .ref q54, .ref q55, .int 0])), (q41, .inl (gK X 0, 1504, .inl (fun _ => 0))), (q31, .inr (10, [.ref q56, .ref q57, .ref q58, .ref q59, .ref q60, .ref q61, .ref q62, .int 0, .ref q63, .ref q64, .ref q65, .ref q66, .ref q67, .ref q68, .ref q69, .ref q70, .ref q71, .int 0, .int 0])), (q32, .inr (11, [.ref q72, .ref q73, .ref q74, .ref q75, .ref q76, .ref q77, .ref q78, .ref q79, .int 0, .ref q80, .ref q81, .int 0])), (q33, .inr (12, [.ref q82, .ref q83, .ref q84, .ref q85, .ref q86, .ref q87, .ref q88, .ref q89, .ref q90, .ref q91, .ref q92, .ref q93, .int 0, .ref q94, .ref q95, .ref q96, .int 0, .ref q97, .ref q98, .int 0]))]) (z := 126) C kX12 dX12_init_123 0 rfl 16 (by decide) w_40 rfl rfl rfl rfl (Nat.le_of_ble_eq_true rfl) rfl rfl ?_
  exact g_vret C hQ dX12_init_126 (Nat.le_of_ble_eq_true rfl) (Nat.le_of_ble_eq_true rfl) ⟨rfl, f24, q1, q2, q3, q15, q25, q26, q27, q28, q29, q4, q5, q6, q7, q8, q9, q10, q11, q12, q13, q14, q16, q17, q18, q19, q20, q21, q22, q23, q30, q31, q32, q33, q34, q35, q36, q37, q38, q39, q40, q41, q42, q43, q44, q45, q46, q47, q48, q49, q50, q51, q52, q53, q54, q55, q56, q57, q58, q59, q60, q61, q62, q63, q64, q65, q66, q67, q68, q69, q70, q71, q72, q73, q74, q75, q76, q77, q78, q79, q80, q81, q82, q83, q84, q85, q86, q87, q88, q89, q90, q91, q92, q93, q94, q95, q96, q97, q98, rfl⟩
end
section
theorem dX0_broken_0 : decode cX0_broken 0 = .ok (.aload_n 0, 1) := by decide +kernel
theorem dX0_broken_1 : decode cX0_broken 1 = .ok (.aload_n 0, 1) := by decide +kernel
theorem dX0_broken_2 : decode cX0_broken 2 = .ok (.getfield 38, 3) := by decide +kernel
theorem dX0_broken_5 : decode cX0_broken 5 = .ok (.iload_n 1, 1) := by decide +kernel
theorem dX0_broken_6 : decode cX0_broken 6 = .ok (.invokestatic 84, 3) := by decide +kernel
theorem dX0_broken_9 : decode cX0_broken 9 = .ok (.putfield 38, 3) := by decide +kernel
theorem dX0_broken_12 : decode cX0_broken 12 = .ok (.return_, 1) := by decide +kernel
theorem dX0_check_0 : decode cX0_check 0 = .ok (.aload_n 0, 1) := by decide +kernel
theorem dX0_check_1 : decode cX0_check 1 = .ok (.aload_n 1, 1) := by decide +kernel
theorem dX0_check_2 : decode cX0_check 2 = .ok (.getfield 15, 3) := by decide +kernel
theorem dX0_check_5 : decode cX0_check 5 = .ok (.putfield 21, 3) := by decide +kernel
theorem dX0_check_8 : decode cX0_check 8 = .ok (.aload_n 0, 1) := by decide +kernel
theorem dX0_check_9 : decode cX0_check 9 = .ok (.aload_n 1, 1) := by decide +kernel
theorem dX0_check_10 : decode cX0_check 10 = .ok (.getfield 22, 3) := by decide +kernel
theorem dX0_check_13 : decode cX0_check 13 = .ok (.putfield 26, 3) := by decide +kernel
theorem dX0_check_16 : decode cX0_check 16 = .ok (.aload_n 0, 1) := by decide +kernel
theorem dX0_check_17 : decode cX0_check 17 = .ok (.aload_n 1, 1) := by decide +kernel
theorem dX0_check_18 : decode cX0_check 18 = .ok (.getfield 27, 3) := by decide +kernel
theorem dX0_check_21 : decode cX0_check 21 = .ok (.putfield 31, 3) := by decide +kernel
theorem dX0_check_24 : decode cX0_check 24 = .ok (.aload_n 0, 1) := by decide +kernel
theorem dX0_check_25 : decode cX0_check 25 = .ok (.aload_n 1, 1) := by decide +kernel
theorem dX0_check_26 : decode cX0_check 26 = .ok (.getfield 32, 3) := by decide +kernel
theorem dX0_check_29 : decode cX0_check 29 = .ok (.putfield 36, 3) := by decide +kernel
theorem dX0_check_32 : decode cX0_check 32 = .ok (.aload_n 0, 1) := by decide +kernel
theorem dX0_check_33 : decode cX0_check 33 = .ok (.ldc 37, 2) := by decide +kernel
theorem dX0_check_35 : decode cX0_check 35 = .ok (.putfield 38, 3) := by decide +kernel
theorem dX0_check_38 : decode cX0_check 38 = .ok (.aload_n 0, 1) := by decide +kernel
theorem dX0_check_39 : decode cX0_check 39 = .ok (.getfield 9, 3) := by decide +kernel
theorem dX0_check_42 : decode cX0_check 42 = .ok (.getfield 42, 3) := by decide +kernel
theorem dX0_check_45 : decode cX0_check 45 = .ok (.iconst 1, 1) := by decide +kernel
theorem dX0_check_46 : decode cX0_check 46 = .ok (.iaload, 1) := by decide +kernel
theorem dX0_check_47 : decode cX0_check 47 = .ok (.istore_n 3, 1) := by decide +kernel
theorem dX0_check_48 : decode cX0_check 48 = .ok (.aload_n 0, 1) := by decide +kernel
theorem dX0_check_49 : decode cX0_check 49 = .ok (.iload_n 3, 1) := by decide +kernel
theorem dX0_check_50 : decode cX0_check 50 = .ok (.invokevirtual 48, 3) := by decide +kernel
theorem dX0_check_53 : decode cX0_check 53 = .ok (.iconst 0, 1) := by decide +kernel
theorem dX0_check_54 : decode cX0_check 54 = .ok (.istore 4, 2) := by decide +kernel
theorem dX0_check_56 : decode cX0_check 56 = .ok (.iload_n 3, 1) := by decide +kernel
theorem dX0_check_57 : decode cX0_check 57 = .ok (.istore 5, 2) := by decide +kernel
theorem dX0_check_59 : decode cX0_check 59 = .ok (.iload 5, 2) := by decide +kernel
theorem dX0_check_61 : decode cX0_check 61 = .ok (.ifCond .eq 45, 3) := by decide +kernel
theorem dX0_check_106 : decode cX0_check 106 = .ok (.aload_n 0, 1) := by decide +kernel
theorem dX0_check_107 : decode cX0_check 107 = .ok (.getfield 21, 3) := by decide +kernel
theorem dX0_check_110 : decode cX0_check 110 = .ok (.invokevirtual 62, 3) := by decide +kernel
theorem dX0_check_113 : decode cX0_check 113 = .ok (.aload_n 0, 1) := by decide +kernel
theorem dX0_check_114 : decode cX0_check 114 = .ok (.iload_n 3, 1) := by decide +kernel
theorem dX0_check_115 : decode cX0_check 115 = .ok (.invokevirtual 67, 3) := by decide +kernel
theorem dX0_check_118 : decode cX0_check 118 = .ok (.iconst 0, 1) := by decide +kernel
theorem dX0_check_119 : decode cX0_check 119 = .ok (.istore 5, 2) := by decide +kernel
theorem dX0_check_121 : decode cX0_check 121 = .ok (.iload 5, 2) := by decide +kernel
theorem dX0_check_123 : decode cX0_check 123 = .ok (.aload_n 0, 1) := by decide +kernel
theorem dX0_check_124 : decode cX0_check 124 = .ok (.getfield 26, 3) := by decide +kernel
theorem dX0_check_127 : decode cX0_check 127 = .ok (.getfield 70, 3) := by decide +kernel
theorem dX0_check_130 : decode cX0_check 130 = .ok (.if_icmp .ge 15, 3) := by decide +kernel
theorem dX0_check_145 : decode cX0_check 145 = .ok (.iconst 0, 1) := by decide +kernel
theorem dX0_check_146 : decode cX0_check 146 = .ok (.istore 5, 2) := by decide +kernel
theorem dX0_check_148 : decode cX0_check 148 = .ok (.iload 5, 2) := by decide +kernel
theorem dX0_check_150 : decode cX0_check 150 = .ok (.aload_n 0, 1) := by decide +kernel
theorem dX0_check_151 : decode cX0_check 151 = .ok (.getfield 26, 3) := by decide +kernel
theorem dX0_check_154 : decode cX0_check 154 = .ok (.getfield 70, 3) := by decide +kernel
theorem dX0_check_157 : decode cX0_check 157 = .ok (.if_icmp .ge 15, 3) := by decide +kernel
theorem dX0_check_172 : decode cX0_check 172 = .ok (.aload_n 0, 1) := by decide +kernel
theorem dX0_check_173 : decode cX0_check 173 = .ok (.iload_n 2, 1) := by decide +kernel
theorem dX0_check_174 : decode cX0_check 174 = .ok (.invokevirtual 81, 3) := by decide +kernel
theorem dX0_check_177 : decode cX0_check 177 = .ok (.aload_n 0, 1) := by decide +kernel
theorem dX0_check_178 : decode cX0_check 178 = .ok (.getfield 38, 3) := by decide +kernel
theorem dX0_check_181 : decode cX0_check 181 = .ok (.ldc 37, 2) := by decide +kernel
theorem dX0_check_183 : decode cX0_check 183 = .ok (.if_icmp .ne 7, 3) := by decide +kernel
theorem dX0_check_190 : decode cX0_check 190 = .ok (.aload_n 0, 1) := by decide +kernel
theorem dX0_check_191 : decode cX0_check 191 = .ok (.getfield 38, 3) := by decide +kernel
theorem dX0_check_194 : decode cX0_check 194 = .ok (.ireturn, 1) := by decide +kernel
theorem dX0_declareAll_0 : decode cX0_declareAll 0 = .ok (.iload_n 1, 1) := by decide +kernel
theorem dX0_declareAll_1 : decode cX0_declareAll 1 = .ok (.istore_n 2, 1) := by decide +kernel
theorem dX0_declareAll_2 : decode cX0_declareAll 2 = .ok (.iload_n 2, 1) := by decide +kernel
theorem dX0_declareAll_3 : decode cX0_declareAll 3 = .ok (.ifCond .eq 160, 3) := by decide +kernel
theorem dX0_declareAll_163 : decode cX0_declareAll 163 = .ok (.return_, 1) := by decide +kernel
theorem dX0_mainFunction_0 : decode cX0_mainFunction 0 = .ok (.iconst 0, 1) := by decide +kernel
theorem dX0_mainFunction_1 : decode cX0_mainFunction 1 = .ok (.istore_n 2, 1) := by decide +kernel
theorem dX0_mainFunction_2 : decode cX0_mainFunction 2 = .ok (.iload_n 2, 1) := by decide +kernel
theorem dX0_mainFunction_3 : decode cX0_mainFunction 3 = .ok (.aload_n 0, 1) := by decide +kernel
theorem dX0_mainFunction_4 : decode cX0_mainFunction 4 = .ok (.getfield 26, 3) := by decide +kernel
theorem dX0_mainFunction_7 : decode cX0_mainFunction 7 = .ok (.getfield 70, 3) := by decide +kernel
theorem dX0_mainFunction_10 : decode cX0_mainFunction 10 = .ok (.if_icmp .ge 66, 3) := by decide +kernel
theorem dX0_mainFunction_76 : decode cX0_mainFunction 76 = .ok (.aload_n 0, 1) := by decide +kernel
theorem dX0_mainFunction_77 : decode cX0_mainFunction 77 = .ok (.iload_n 1, 1) := by decide +kernel
theorem dX0_mainFunction_78 : decode cX0_mainFunction 78 = .ok (.invokevirtual 126, 3) := by decide +kernel
theorem dX0_mainFunction_81 : decode cX0_mainFunction 81 = .ok (.return_, 1) := by decide +kernel
theorem dX0_measures_0 : decode cX0_measures 0 = .ok (.iconst 0, 1) := by decide +kernel
theorem dX0_measures_1 : decode cX0_measures 1 = .ok (.istore_n 2, 1) := by decide +kernel
theorem dX0_measures_2 : decode cX0_measures 2 = .ok (.iload_n 1, 1) := by decide +kernel
theorem dX0_measures_3 : decode cX0_measures 3 = .ok (.istore_n 3, 1) := by decide +kernel
theorem dX0_measures_4 : decode cX0_measures 4 = .ok (.iload_n 3, 1) := by decide +kernel
theorem dX0_measures_5 : decode cX0_measures 5 = .ok (.ifCond .eq 98, 3) := by decide +kernel
theorem dX0_measures_103 : decode cX0_measures 103 = .ok (.return_, 1) := by decide +kernel
theorem dX10_clear_0 : decode cX10_clear 0 = .ok (.aload_n 0, 1) := by decide +kernel
theorem dX10_clear_1 : decode cX10_clear 1 = .ok (.iconst 0, 1) := by decide +kernel
theorem dX10_clear_2 : decode cX10_clear 2 = .ok (.putfield 43, 3) := by decide +kernel
theorem dX10_clear_5 : decode cX10_clear 5 = .ok (.aload_n 0, 1) := by decide +kernel
theorem dX10_clear_6 : decode cX10_clear 6 = .ok (.iconst 0, 1) := by decide +kernel
theorem dX10_clear_7 : decode cX10_clear 7 = .ok (.putfield 47, 3) := by decide +kernel
theorem dX10_clear_10 : decode cX10_clear 10 = .ok (.return_, 1) := by decide +kernel
theorem dX12_judge_0 : decode cX12_judge 0 = .ok (.iload_n 1, 1) := by decide +kernel
theorem dX12_judge_1 : decode cX12_judge 1 = .ok (.ifCond .lt 11, 3) := by decide +kernel
theorem dX12_judge_4 : decode cX12_judge 4 = .ok (.iload_n 1, 1) := by decide +kernel
theorem dX12_judge_5 : decode cX12_judge 5 = .ok (.aload_n 0, 1) := by decide +kernel
theorem dX12_judge_6 : decode cX12_judge 6 = .ok (.getfield 78, 3) := by decide +kernel
theorem dX12_judge_9 : decode cX12_judge 9 = .ok (.if_icmp .le 5, 3) := by decide +kernel
theorem dX12_judge_12 : decode cX12_judge 12 = .ok (.iconst (-1), 1) := by decide +kernel
theorem dX12_judge_13 : decode cX12_judge 13 = .ok (.ireturn, 1) := by decide +kernel
theorem dX12_judge_14 : decode cX12_judge 14 = .ok (.aload_n 0, 1) := by decide +kernel
theorem dX12_judge_15 : decode cX12_judge 15 = .ok (.iconst 0, 1) := by decide +kernel
theorem dX12_judge_16 : decode cX12_judge 16 = .ok (.putfield 78, 3) := by decide +kernel
theorem dX12_judge_19 : decode cX12_judge 19 = .ok (.aload_n 0, 1) := by decide +kernel
theorem dX12_judge_20 : decode cX12_judge 20 = .ok (.iconst (-1), 1) := by decide +kernel
theorem dX12_judge_21 : decode cX12_judge 21 = .ok (.putfield 75, 3) := by decide +kernel
theorem dX12_judge_24 : decode cX12_judge 24 = .ok (.aload_n 0, 1) := by decide +kernel
theorem dX12_judge_25 : decode cX12_judge 25 = .ok (.aload_n 0, 1) := by decide +kernel
theorem dX12_judge_26 : decode cX12_judge 26 = .ok (.getfield 29, 3) := by decide +kernel
theorem dX12_judge_29 : decode cX12_judge 29 = .ok (.aload_n 0, 1) := by decide +kernel
theorem dX12_judge_30 : decode cX12_judge 30 = .ok (.getfield 9, 3) := by decide +kernel
theorem dX12_judge_33 : decode cX12_judge 33 = .ok (.iload_n 1, 1) := by decide +kernel
theorem dX12_judge_34 : decode cX12_judge 34 = .ok (.invokevirtual 85, 3) := by decide +kernel
theorem dX12_judge_37 : decode cX12_judge 37 = .ok (.putfield 72, 3) := by decide +kernel
theorem dX12_judge_40 : decode cX12_judge 40 = .ok (.aload_n 0, 1) := by decide +kernel
theorem dX12_judge_41 : decode cX12_judge 41 = .ok (.aload_n 0, 1) := by decide +kernel
theorem dX12_judge_42 : decode cX12_judge 42 = .ok (.getfield 72, 3) := by decide +kernel
theorem dX12_judge_45 : decode cX12_judge 45 = .ok (.ifCond .lt 7, 3) := by decide +kernel
theorem dX12_judge_52 : decode cX12_judge 52 = .ok (.aload_n 0, 1) := by decide +kernel
theorem dX12_judge_53 : decode cX12_judge 53 = .ok (.iload_n 1, 1) := by decide +kernel
theorem dX12_judge_54 : decode cX12_judge 54 = .ok (.invokevirtual 89, 3) := by decide +kernel
theorem dX12_judge_57 : decode cX12_judge 57 = .ok (.putfield 68, 3) := by decide +kernel
theorem dX12_judge_60 : decode cX12_judge 60 = .ok (.aload_n 0, 1) := by decide +kernel
theorem dX12_judge_61 : decode cX12_judge 61 = .ok (.getfield 68, 3) := by decide +kernel
theorem dX12_judge_64 : decode cX12_judge 64 = .ok (.ifCond .ne 12, 3) := by decide +kernel
theorem dX12_judge_76 : decode cX12_judge 76 = .ok (.aload_n 0, 1) := by decide +kernel
theorem dX12_judge_77 : decode cX12_judge 77 = .ok (.getfield 68, 3) := by decide +kernel
theorem dX12_judge_80 : decode cX12_judge 80 = .ok (.ireturn, 1) := by decide +kernel
theorem dX12_judgeTree_0 : decode cX12_judgeTree 0 = .ok (.aload_n 0, 1) := by decide +kernel
theorem dX12_judgeTree_1 : decode cX12_judgeTree 1 = .ok (.getfield 96, 3) := by decide +kernel
theorem dX12_judgeTree_4 : decode cX12_judgeTree 4 = .ok (.ifCond .eq 21, 3) := by decide +kernel
theorem dX12_judgeTree_25 : decode cX12_judgeTree 25 = .ok (.aload_n 0, 1) := by decide +kernel
theorem dX12_judgeTree_26 : decode cX12_judgeTree 26 = .ok (.getfield 96, 3) := by decide +kernel
theorem dX12_judgeTree_29 : decode cX12_judgeTree 29 = .ok (.ifCond .eq 10, 3) := by decide +kernel
theorem dX12_judgeTree_39 : decode cX12_judgeTree 39 = .ok (.aload_n 0, 1) := by decide +kernel
theorem dX12_judgeTree_40 : decode cX12_judgeTree 40 = .ok (.getfield 64, 3) := by decide +kernel
theorem dX12_judgeTree_43 : decode cX12_judgeTree 43 = .ok (.astore_n 2, 1) := by decide +kernel
theorem dX12_judgeTree_44 : decode cX12_judgeTree 44 = .ok (.aload_n 2, 1) := by decide +kernel
theorem dX12_judgeTree_45 : decode cX12_judgeTree 45 = .ok (.invokevirtual 106, 3) := by decide +kernel
theorem dX12_judgeTree_48 : decode cX12_judgeTree 48 = .ok (.aload_n 0, 1) := by decide +kernel
theorem dX12_judgeTree_49 : decode cX12_judgeTree 49 = .ok (.aload_n 0, 1) := by decide +kernel
theorem dX12_judgeTree_50 : decode cX12_judgeTree 50 = .ok (.getfield 36, 3) := by decide +kernel
theorem dX12_judgeTree_53 : decode cX12_judgeTree 53 = .ok (.aload_n 2, 1) := by decide +kernel
theorem dX12_judgeTree_54 : decode cX12_judgeTree 54 = .ok (.iload_n 1, 1) := by decide +kernel
theorem dX12_judgeTree_55 : decode cX12_judgeTree 55 = .ok (.invokevirtual 109, 3) := by decide +kernel
theorem dX12_judgeTree_58 : decode cX12_judgeTree 58 = .ok (.putfield 72, 3) := by decide +kernel
theorem dX12_judgeTree_61 : decode cX12_judgeTree 61 = .ok (.aload_n 0, 1) := by decide +kernel
theorem dX12_judgeTree_62 : decode cX12_judgeTree 62 = .ok (.getfield 72, 3) := by decide +kernel
theorem dX12_judgeTree_65 : decode cX12_judgeTree 65 = .ok (.ifCond .lt 5, 3) := by decide +kernel
theorem dX12_judgeTree_68 : decode cX12_judgeTree 68 = .ok (.iconst 2, 1) := by decide +kernel
theorem dX12_judgeTree_69 : decode cX12_judgeTree 69 = .ok (.ireturn, 1) := by decide +kernel
theorem dX2_clear_0 : decode cX2_clear 0 = .ok (.aload_n 0, 1) := by decide +kernel
theorem dX2_clear_1 : decode cX2_clear 1 = .ok (.iconst 0, 1) := by decide +kernel
theorem dX2_clear_2 : decode cX2_clear 2 = .ok (.putfield 61, 3) := by decide +kernel
theorem dX2_clear_5 : decode cX2_clear 5 = .ok (.aload_n 0, 1) := by decide +kernel
theorem dX2_clear_6 : decode cX2_clear 6 = .ok (.iconst 0, 1) := by decide +kernel
theorem dX2_clear_7 : decode cX2_clear 7 = .ok (.putfield 65, 3) := by decide +kernel
theorem dX2_clear_10 : decode cX2_clear 10 = .ok (.aload_n 0, 1) := by decide +kernel
theorem dX2_clear_11 : decode cX2_clear 11 = .ok (.iconst (-1), 1) := by decide +kernel
theorem dX2_clear_12 : decode cX2_clear 12 = .ok (.putfield 68, 3) := by decide +kernel
theorem dX2_clear_15 : decode cX2_clear 15 = .ok (.return_, 1) := by decide +kernel
theorem dX4_clear_0 : decode cX4_clear 0 = .ok (.aload_n 0, 1) := by decide +kernel
theorem dX4_clear_1 : decode cX4_clear 1 = .ok (.iconst 0, 1) := by decide +kernel
theorem dX4_clear_2 : decode cX4_clear 2 = .ok (.putfield 65, 3) := by decide +kernel
theorem dX4_clear_5 : decode cX4_clear 5 = .ok (.aload_n 0, 1) := by decide +kernel
theorem dX4_clear_6 : decode cX4_clear 6 = .ok (.iconst 0, 1) := by decide +kernel
theorem dX4_clear_7 : decode cX4_clear 7 = .ok (.putfield 69, 3) := by decide +kernel
theorem dX4_clear_10 : decode cX4_clear 10 = .ok (.aload_n 0, 1) := by decide +kernel
theorem dX4_clear_11 : decode cX4_clear 11 = .ok (.iconst 0, 1) := by decide +kernel
theorem dX4_clear_12 : decode cX4_clear 12 = .ok (.putfield 72, 3) := by decide +kernel
theorem dX4_clear_15 : decode cX4_clear 15 = .ok (.return_, 1) := by decide +kernel
theorem dX5_clear_0 : decode cX5_clear 0 = .ok (.aload_n 0, 1) := by decide +kernel
theorem dX5_clear_1 : decode cX5_clear 1 = .ok (.getfield 12, 3) := by decide +kernel
theorem dX5_clear_4 : decode cX5_clear 4 = .ok (.invokevirtual 61, 3) := by decide +kernel
theorem dX5_clear_7 : decode cX5_clear 7 = .ok (.aload_n 0, 1) := by decide +kernel
theorem dX5_clear_8 : decode cX5_clear 8 = .ok (.getfield 21, 3) := by decide +kernel
theorem dX5_clear_11 : decode cX5_clear 11 = .ok (.invokevirtual 64, 3) := by decide +kernel
theorem dX5_clear_14 : decode cX5_clear 14 = .ok (.aload_n 0, 1) := by decide +kernel
theorem dX5_clear_15 : decode cX5_clear 15 = .ok (.getfield 28, 3) := by decide +kernel
theorem dX5_clear_18 : decode cX5_clear 18 = .ok (.invokevirtual 65, 3) := by decide +kernel
theorem dX5_clear_21 : decode cX5_clear 21 = .ok (.aload_n 0, 1) := by decide +kernel
theorem dX5_clear_22 : decode cX5_clear 22 = .ok (.getfield 35, 3) := by decide +kernel
theorem dX5_clear_25 : decode cX5_clear 25 = .ok (.invokevirtual 66, 3) := by decide +kernel
theorem dX5_clear_28 : decode cX5_clear 28 = .ok (.aload_n 0, 1) := by decide +kernel
theorem dX5_clear_29 : decode cX5_clear 29 = .ok (.iconst 0, 1) := by decide +kernel
theorem dX5_clear_30 : decode cX5_clear 30 = .ok (.putfield 67, 3) := by decide +kernel
theorem dX5_clear_33 : decode cX5_clear 33 = .ok (.aload_n 0, 1) := by decide +kernel
theorem dX5_clear_34 : decode cX5_clear 34 = .ok (.iconst 0, 1) := by decide +kernel
theorem dX5_clear_35 : decode cX5_clear 35 = .ok (.putfield 71, 3) := by decide +kernel
theorem dX5_clear_38 : decode cX5_clear 38 = .ok (.aload_n 0, 1) := by decide +kernel
theorem dX5_clear_39 : decode cX5_clear 39 = .ok (.iconst 0, 1) := by decide +kernel
theorem dX5_clear_40 : decode cX5_clear 40 = .ok (.putfield 74, 3) := by decide +kernel
theorem dX5_clear_43 : decode cX5_clear 43 = .ok (.aload_n 0, 1) := by decide +kernel
theorem dX5_clear_44 : decode cX5_clear 44 = .ok (.iconst 0, 1) := by decide +kernel
theorem dX5_clear_45 : decode cX5_clear 45 = .ok (.putfield 77, 3) := by decide +kernel
theorem dX5_clear_48 : decode cX5_clear 48 = .ok (.return_, 1) := by decide +kernel
theorem dX9_clear_0 : decode cX9_clear 0 = .ok (.aload_n 0, 1) := by decide +kernel
theorem dX9_clear_1 : decode cX9_clear 1 = .ok (.iconst 0, 1) := by decide +kernel
theorem dX9_clear_2 : decode cX9_clear 2 = .ok (.putfield 57, 3) := by decide +kernel
theorem dX9_clear_5 : decode cX9_clear 5 = .ok (.aload_n 0, 1) := by decide +kernel
theorem dX9_clear_6 : decode cX9_clear 6 = .ok (.iconst 0, 1) := by decide +kernel
theorem dX9_clear_7 : decode cX9_clear 7 = .ok (.putfield 61, 3) := by decide +kernel
theorem dX9_clear_10 : decode cX9_clear 10 = .ok (.aload_n 0, 1) := by decide +kernel
theorem dX9_clear_11 : decode cX9_clear 11 = .ok (.iconst 0, 1) := by decide +kernel
theorem dX9_clear_12 : decode cX9_clear 12 = .ok (.putfield 64, 3) := by decide +kernel
theorem dX9_clear_15 : decode cX9_clear 15 = .ok (.aload_n 0, 1) := by decide +kernel
theorem dX9_clear_16 : decode cX9_clear 16 = .ok (.iconst 3, 1) := by decide +kernel
theorem dX9_clear_17 : decode cX9_clear 17 = .ok (.putfield 67, 3) := by decide +kernel
theorem dX9_clear_20 : decode cX9_clear 20 = .ok (.aload_n 0, 1) := by decide +kernel
theorem dX9_clear_21 : decode cX9_clear 21 = .ok (.getfield 9, 3) := by decide +kernel
theorem dX9_clear_24 : decode cX9_clear 24 = .ok (.iconst 0, 1) := by decide +kernel
theorem dX9_clear_25 : decode cX9_clear 25 = .ok (.iconst 0, 1) := by decide +kernel
theorem dX9_clear_26 : decode cX9_clear 26 = .ok (.iastore, 1) := by decide +kernel
theorem dX9_clear_27 : decode cX9_clear 27 = .ok (.aload_n 0, 1) := by decide +kernel
theorem dX9_clear_28 : decode cX9_clear 28 = .ok (.getfield 9, 3) := by decide +kernel
theorem dX9_clear_31 : decode cX9_clear 31 = .ok (.iconst 1, 1) := by decide +kernel
theorem dX9_clear_32 : decode cX9_clear 32 = .ok (.iconst 1, 1) := by decide +kernel
theorem dX9_clear_33 : decode cX9_clear 33 = .ok (.iastore, 1) := by decide +kernel
theorem dX9_clear_34 : decode cX9_clear 34 = .ok (.aload_n 0, 1) := by decide +kernel
theorem dX9_clear_35 : decode cX9_clear 35 = .ok (.getfield 9, 3) := by decide +kernel
theorem dX9_clear_38 : decode cX9_clear 38 = .ok (.iconst 2, 1) := by decide +kernel
theorem dX9_clear_39 : decode cX9_clear 39 = .ok (.iconst 2, 1) := by decide +kernel
theorem dX9_clear_40 : decode cX9_clear 40 = .ok (.iastore, 1) := by decide +kernel
theorem dX9_clear_41 : decode cX9_clear 41 = .ok (.return_, 1) := by decide +kernel
theorem dX9_measure_0 : decode cX9_measure 0 = .ok (.iconst 1, 1) := by decide +kernel
theorem dX9_measure_1 : decode cX9_measure 1 = .ok (.istore_n 1, 1) := by decide +kernel
theorem dX9_measure_2 : decode cX9_measure 2 = .ok (.iconst 0, 1) := by decide +kernel
theorem dX9_measure_3 : decode cX9_measure 3 = .ok (.istore_n 2, 1) := by decide +kernel
theorem dX9_measure_4 : decode cX9_measure 4 = .ok (.iload_n 2, 1) := by decide +kernel
theorem dX9_measure_5 : decode cX9_measure 5 = .ok (.aload_n 0, 1) := by decide +kernel
theorem dX9_measure_6 : decode cX9_measure 6 = .ok (.getfield 57, 3) := by decide +kernel
theorem dX9_measure_9 : decode cX9_measure 9 = .ok (.if_icmp .gt 55, 3) := by decide +kernel
theorem dX9_measure_12 : decode cX9_measure 12 = .ok (.iload_n 1, 1) := by decide +kernel
theorem dX9_measure_13 : decode cX9_measure 13 = .ok (.ifCond .eq 51, 3) := by decide +kernel
theorem dX9_measure_16 : decode cX9_measure 16 = .ok (.iconst 0, 1) := by decide +kernel
theorem dX9_measure_17 : decode cX9_measure 17 = .ok (.istore_n 1, 1) := by decide +kernel
theorem dX9_measure_18 : decode cX9_measure 18 = .ok (.iconst 0, 1) := by decide +kernel
theorem dX9_measure_19 : decode cX9_measure 19 = .ok (.istore_n 3, 1) := by decide +kernel
theorem dX9_measure_20 : decode cX9_measure 20 = .ok (.iload_n 3, 1) := by decide +kernel
theorem dX9_measure_21 : decode cX9_measure 21 = .ok (.aload_n 0, 1) := by decide +kernel
theorem dX9_measure_22 : decode cX9_measure 22 = .ok (.getfield 57, 3) := by decide +kernel
theorem dX9_measure_25 : decode cX9_measure 25 = .ok (.if_icmp .ge 33, 3) := by decide +kernel
theorem dX9_measure_58 : decode cX9_measure 58 = .ok (.iinc 2 1, 3) := by decide +kernel
theorem dX9_measure_61 : decode cX9_measure 61 = .ok (.goto (-57), 3) := by decide +kernel
theorem dX9_measure_64 : decode cX9_measure 64 = .ok (.return_, 1) := by decide +kernel
set_option maxHeartbeats 4000000 in
set_option maxRecDepth 100000 in
/-- Types.clear -/
theorem k_X9_clear (l : Launch) (D : va_G) (K : KS) (q30 q41 q42 q43 q44 q45 q46 q47 q48 q49 q50 q51 q52 q53 q54 q55 : Nat) : Con l D K yX9_clear cX9_clear 1 none 0 0 0 0 [.ref q30] [(q30, .inr (9, [.ref q41, .ref q42, .int 0, .ref q43, .ref q44, .ref q45, .ref q46, .ref q47, .ref q48, .ref q49, .int 0, .ref q50, .ref q51, .ref q52, .int 0, .ref q53, .ref q54, .ref q55, .int 0])), (q41, .inl (K 0, 1504, .inl (fun _ => 0)))] (fun v w => v = none ∧ w = [(q30, .inr (9, [.ref q41, .ref q42, .int 3, .ref q43, .ref q44, .ref q45, .ref q46, .ref q47, .ref q48, .ref q49, .int 0, .ref q50, .ref q51, .ref q52, .int 0, .ref q53, .ref q54, .ref q55, .int 0])), (q41, .inl (K 0, 1504, .inl (upd (upd (upd (fun _ => 0) (0 : Int32).toNatClampNeg 0) (1 : Int32).toNatClampNeg 1) (2 : Int32).toNatClampNeg 2)))]) := by
  refine Con.of (by decide +kernel) (Nat.le_of_ble_eq_true rfl) ?_
  intro X hXl hXD hXK C hR hQ hnm
  subst hXl; subst hXD; subst hXK
  refine g_lv (l2 := [(0, .ref q30)]) [0] rfl ?_
  refine g_aload_n (z := 1) C dX9_clear_0 0 rfl rfl rfl ?_
  refine g_iconst (v := 0) (z := 2) C dX9_clear_1 (by decide) rfl ?_
  refine g_put (w2 := [(q30, .inr (9, [.ref q41, .ref q42, .int 0, .ref q43, .ref q44, .ref q45, .ref q46, .ref q47, .ref q48, .ref q49, .int 0, .ref q50, .ref q51, .ref q52, .int 0, .ref q53, .ref q54, .ref q55, .int 0])), (q41, .inl (gK X 0, 1504, .inl (fun _ => 0)))]) (z := 5) C kX9 dX9_clear_2 0 rfl 10 (by decide) w_305 rfl rfl rfl rfl (Nat.le_of_ble_eq_true rfl) rfl rfl ?_
  refine g_aload_n (z := 6) C dX9_clear_5 0 rfl rfl rfl ?_
  refine g_iconst (v := 0) (z := 7) C dX9_clear_6 (by decide) rfl ?_
  refine g_put (w2 := [(q30, .inr (9, [.ref q41, .ref q42, .int 0, .ref q43, .ref q44, .ref q45, .ref q46, .ref q47, .ref q48, .ref q49, .int 0, .ref q50, .ref q51, .ref q52, .int 0, .ref q53, .ref q54, .ref q55, .int 0])), (q41, .inl (gK X 0, 1504, .inl (fun _ => 0)))]) (z := 10) C kX9 dX9_clear_7 0 rfl 14 (by decide) w_306 rfl rfl rfl rfl (Nat.le_of_ble_eq_true rfl) rfl rfl ?_
  refine g_aload_n (z := 11) C dX9_clear_10 0 rfl rfl rfl ?_
  refine g_iconst (v := 0) (z := 12) C dX9_clear_11 (by decide) rfl ?_
  refine g_put (w2 := [(q30, .inr (9, [.ref q41, .ref q42, .int 0, .ref q43, .ref q44, .ref q45, .ref q46, .ref q47, .ref q48, .ref q49, .int 0, .ref q50, .ref q51, .ref q52, .int 0, .ref q53, .ref q54, .ref q55, .int 0])), (q41, .inl (gK X 0, 1504, .inl (fun _ => 0)))]) (z := 15) C kX9 dX9_clear_12 0 rfl 18 (by decide) w_307 rfl rfl rfl rfl (Nat.le_of_ble_eq_true rfl) rfl rfl ?_
  refine g_aload_n (z := 16) C dX9_clear_15 0 rfl rfl rfl ?_
  refine g_iconst (v := 3) (z := 17) C dX9_clear_16 (by decide) rfl ?_
  refine g_put (w2 := [(q30, .inr (9, [.ref q41, .ref q42, .int 3, .ref q43, .ref q44, .ref q45, .ref q46, .ref q47, .ref q48, .ref q49, .int 0, .ref q50, .ref q51, .ref q52, .int 0, .ref q53, .ref q54, .ref q55, .int 0])), (q41, .inl (gK X 0, 1504, .inl (fun _ => 0)))]) (z := 20) C kX9 dX9_clear_17 0 rfl 2 (by decide) w_308 rfl rfl rfl rfl (Nat.le_of_ble_eq_true rfl) rfl rfl ?_
  refine g_aload_n (z := 21) C dX9_clear_20 0 rfl rfl rfl ?_
  refine g_get (z := 24) C kX9 dX9_clear_21 0 rfl 0 (by decide) w_287 rfl rfl rfl ?_
  refine g_iconst (v := 0) (z := 25) C dX9_clear_24 (by decide) rfl ?_
  refine g_iconst (v := 0) (z := 26) C dX9_clear_25 (by decide) rfl ?_
  refine g_iast (w2 := [(q30, .inr (9, [.ref q41, .ref q42, .int 3, .ref q43, .ref q44, .ref q45, .ref q46, .ref q47, .ref q48, .ref q49, .int 0, .ref q50, .ref q51, .ref q52, .int 0, .ref q53, .ref q54, .ref q55, .int 0])), (q41, .inl (gK X 0, 1504, .inl (upd (fun _ => 0) (0 : Int32).toNatClampNeg 0)))]) (z := 27) C dX9_clear_26 1 rfl (by unfold vp_in; decide) rfl rfl ?_
  refine g_aload_n (z := 28) C dX9_clear_27 0 rfl rfl rfl ?_
  refine g_get (z := 31) C kX9 dX9_clear_28 0 rfl 0 (by decide) w_287 rfl rfl rfl ?_
  refine g_iconst (v := 1) (z := 32) C dX9_clear_31 (by decide) rfl ?_
  refine g_iconst (v := 1) (z := 33) C dX9_clear_32 (by decide) rfl ?_
  refine g_iast (w2 := [(q30, .inr (9, [.ref q41, .ref q42, .int 3, .ref q43, .ref q44, .ref q45, .ref q46, .ref q47, .ref q48, .ref q49, .int 0, .ref q50, .ref q51, .ref q52, .int 0, .ref q53, .ref q54, .ref q55, .int 0])), (q41, .inl (gK X 0, 1504, .inl (upd (upd (fun _ => 0) (0 : Int32).toNatClampNeg 0) (1 : Int32).toNatClampNeg 1)))]) (z := 34) C dX9_clear_33 1 rfl (by unfold vp_in; decide) rfl rfl ?_
  refine g_aload_n (z := 35) C dX9_clear_34 0 rfl rfl rfl ?_
  refine g_get (z := 38) C kX9 dX9_clear_35 0 rfl 0 (by decide) w_287 rfl rfl rfl ?_
  refine g_iconst (v := 2) (z := 39) C dX9_clear_38 (by decide) rfl ?_
  refine g_iconst (v := 2) (z := 40) C dX9_clear_39 (by decide) rfl ?_
  refine g_iast (w2 := [(q30, .inr (9, [.ref q41, .ref q42, .int 3, .ref q43, .ref q44, .ref q45, .ref q46, .ref q47, .ref q48, .ref q49, .int 0, .ref q50, .ref q51, .ref q52, .int 0, .ref q53, .ref q54, .ref q55, .int 0])), (q41, .inl (gK X 0, 1504, .inl (upd (upd (upd (fun _ => 0) (0 : Int32).toNatClampNeg 0) (1 : Int32).toNatClampNeg 1) (2 : Int32).toNatClampNeg 2)))]) (z := 41) C dX9_clear_40 1 rfl (by unfold vp_in; decide) rfl rfl ?_
  exact g_vret C hQ dX9_clear_41 (Nat.le_of_ble_eq_true rfl) (Nat.le_of_ble_eq_true rfl) ⟨rfl, rfl⟩
set_option maxHeartbeats 4000000 in
set_option maxRecDepth 100000 in
/-- Functions.clear -/
theorem k_X2_clear (l : Launch) (D : va_G) (K : KS) (q31 q56 q57 q58 q59 q60 q61 q62 q63 q64 q65 q66 q67 q68 q69 q70 q71 : Nat) : Con l D K yX2_clear cX2_clear 1 none 0 0 0 0 [.ref q31] [(q31, .inr (10, [.ref q56, .ref q57, .ref q58, .ref q59, .ref q60, .ref q61, .ref q62, .int 0, .ref q63, .ref q64, .ref q65, .ref q66, .ref q67, .ref q68, .ref q69, .ref q70, .ref q71, .int 0, .int 0]))] (fun v w => v = none ∧ w = [(q31, .inr (10, [.ref q56, .ref q57, .ref q58, .ref q59, .ref q60, .ref q61, .ref q62, .int 0, .ref q63, .ref q64, .ref q65, .ref q66, .ref q67, .ref q68, .ref q69, .ref q70, .ref q71, .int 0, .int (-1)]))]) := by
  refine Con.of (by decide +kernel) (Nat.le_of_ble_eq_true rfl) ?_
  intro X hXl hXD hXK C hR hQ hnm
  subst hXl; subst hXD; subst hXK
  refine g_lv (l2 := [(0, .ref q31)]) [0] rfl ?_
  refine g_aload_n (z := 1) C dX2_clear_0 0 rfl rfl rfl ?_
  refine g_iconst (v := 0) (z := 2) C dX2_clear_1 (by decide) rfl ?_
  refine g_put (w2 := [(q31, .inr (10, [.ref q56, .ref q57, .ref q58, .ref q59, .ref q60, .ref q61, .ref q62, .int 0, .ref q63, .ref q64, .ref q65, .ref q66, .ref q67, .ref q68, .ref q69, .ref q70, .ref q71, .int 0, .int 0]))]) (z := 5) C kX2 dX2_clear_2 0 rfl 17 (by decide) w_334 rfl rfl rfl rfl (Nat.le_of_ble_eq_true rfl) rfl rfl ?_
  refine g_aload_n (z := 6) C dX2_clear_5 0 rfl rfl rfl ?_
  refine g_iconst (v := 0) (z := 7) C dX2_clear_6 (by decide) rfl ?_
  refine g_put (w2 := [(q31, .inr (10, [.ref q56, .ref q57, .ref q58, .ref q59, .ref q60, .ref q61, .ref q62, .int 0, .ref q63, .ref q64, .ref q65, .ref q66, .ref q67, .ref q68, .ref q69, .ref q70, .ref q71, .int 0, .int 0]))]) (z := 10) C kX2 dX2_clear_7 0 rfl 7 (by decide) w_335 rfl rfl rfl rfl (Nat.le_of_ble_eq_true rfl) rfl rfl ?_
  refine g_aload_n (z := 11) C dX2_clear_10 0 rfl rfl rfl ?_
  refine g_iconst (v := (-1)) (z := 12) C dX2_clear_11 (by decide) rfl ?_
  refine g_put (w2 := [(q31, .inr (10, [.ref q56, .ref q57, .ref q58, .ref q59, .ref q60, .ref q61, .ref q62, .int 0, .ref q63, .ref q64, .ref q65, .ref q66, .ref q67, .ref q68, .ref q69, .ref q70, .ref q71, .int 0, .int (-1)]))]) (z := 15) C kX2 dX2_clear_12 0 rfl 18 (by decide) w_336 rfl rfl rfl rfl (Nat.le_of_ble_eq_true rfl) rfl rfl ?_
  exact g_vret C hQ dX2_clear_15 (Nat.le_of_ble_eq_true rfl) (Nat.le_of_ble_eq_true rfl) ⟨rfl, rfl⟩
set_option maxHeartbeats 4000000 in
set_option maxRecDepth 100000 in
/-- Variables.clear -/
theorem k_X10_clear (l : Launch) (D : va_G) (K : KS) (q32 q72 q73 q74 q75 q76 q77 q78 q79 q80 q81 : Nat) : Con l D K yX10_clear cX10_clear 1 none 0 0 0 0 [.ref q32] [(q32, .inr (11, [.ref q72, .ref q73, .ref q74, .ref q75, .ref q76, .ref q77, .ref q78, .ref q79, .int 0, .ref q80, .ref q81, .int 0]))] (fun v w => v = none ∧ w = [(q32, .inr (11, [.ref q72, .ref q73, .ref q74, .ref q75, .ref q76, .ref q77, .ref q78, .ref q79, .int 0, .ref q80, .ref q81, .int 0]))]) := by
  refine Con.of (by decide +kernel) (Nat.le_of_ble_eq_true rfl) ?_
  intro X hXl hXD hXK C hR hQ hnm
  subst hXl; subst hXD; subst hXK
  refine g_lv (l2 := [(0, .ref q32)]) [0] rfl ?_
  refine g_aload_n (z := 1) C dX10_clear_0 0 rfl rfl rfl ?_
  refine g_iconst (v := 0) (z := 2) C dX10_clear_1 (by decide) rfl ?_
  refine g_put (w2 := [(q32, .inr (11, [.ref q72, .ref q73, .ref q74, .ref q75, .ref q76, .ref q77, .ref q78, .ref q79, .int 0, .ref q80, .ref q81, .int 0]))]) (z := 5) C kX10 dX10_clear_2 0 rfl 8 (by decide) w_353 rfl rfl rfl rfl (Nat.le_of_ble_eq_true rfl) rfl rfl ?_
  refine g_aload_n (z := 6) C dX10_clear_5 0 rfl rfl rfl ?_
  refine g_iconst (v := 0) (z := 7) C dX10_clear_6 (by decide) rfl ?_
  refine g_put (w2 := [(q32, .inr (11, [.ref q72, .ref q73, .ref q74, .ref q75, .ref q76, .ref q77, .ref q78, .ref q79, .int 0, .ref q80, .ref q81, .int 0]))]) (z := 10) C kX10 dX10_clear_7 0 rfl 11 (by decide) w_354 rfl rfl rfl rfl (Nat.le_of_ble_eq_true rfl) rfl rfl ?_
  exact g_vret C hQ dX10_clear_10 (Nat.le_of_ble_eq_true rfl) (Nat.le_of_ble_eq_true rfl) ⟨rfl, rfl⟩
set_option maxHeartbeats 4000000 in
set_option maxRecDepth 100000 in
/-- Places.clear -/
theorem k_X4_clear (l : Launch) (D : va_G) (K : KS) (q33 q82 q83 q84 q85 q86 q87 q88 q89 q90 q91 q92 q93 q94 q95 q96 q97 q98 : Nat) : Con l D K yX4_clear cX4_clear 1 none 0 0 0 0 [.ref q33] [(q33, .inr (12, [.ref q82, .ref q83, .ref q84, .ref q85, .ref q86, .ref q87, .ref q88, .ref q89, .ref q90, .ref q91, .ref q92, .ref q93, .int 0, .ref q94, .ref q95, .ref q96, .int 0, .ref q97, .ref q98, .int 0]))] (fun v w => v = none ∧ w = [(q33, .inr (12, [.ref q82, .ref q83, .ref q84, .ref q85, .ref q86, .ref q87, .ref q88, .ref q89, .ref q90, .ref q91, .ref q92, .ref q93, .int 0, .ref q94, .ref q95, .ref q96, .int 0, .ref q97, .ref q98, .int 0]))]) := by
  refine Con.of (by decide +kernel) (Nat.le_of_ble_eq_true rfl) ?_
  intro X hXl hXD hXK C hR hQ hnm
  subst hXl; subst hXD; subst hXK
  refine g_lv (l2 := [(0, .ref q33)]) [0] rfl ?_
  refine g_aload_n (z := 1) C dX4_clear_0 0 rfl rfl rfl ?_
  refine g_iconst (v := 0) (z := 2) C dX4_clear_1 (by decide) rfl ?_
  refine g_put (w2 := [(q33, .inr (12, [.ref q82, .ref q83, .ref q84, .ref q85, .ref q86, .ref q87, .ref q88, .ref q89, .ref q90, .ref q91, .ref q92, .ref q93, .int 0, .ref q94, .ref q95, .ref q96, .int 0, .ref q97, .ref q98, .int 0]))]) (z := 5) C kX4 dX4_clear_2 0 rfl 12 (by decide) w_378 rfl rfl rfl rfl (Nat.le_of_ble_eq_true rfl) rfl rfl ?_
  refine g_aload_n (z := 6) C dX4_clear_5 0 rfl rfl rfl ?_
  refine g_iconst (v := 0) (z := 7) C dX4_clear_6 (by decide) rfl ?_
  refine g_put (w2 := [(q33, .inr (12, [.ref q82, .ref q83, .ref q84, .ref q85, .ref q86, .ref q87, .ref q88, .ref q89, .ref q90, .ref q91, .ref q92, .ref q93, .int 0, .ref q94, .ref q95, .ref q96, .int 0, .ref q97, .ref q98, .int 0]))]) (z := 10) C kX4 dX4_clear_7 0 rfl 16 (by decide) w_379 rfl rfl rfl rfl (Nat.le_of_ble_eq_true rfl) rfl rfl ?_
  refine g_aload_n (z := 11) C dX4_clear_10 0 rfl rfl rfl ?_
  refine g_iconst (v := 0) (z := 12) C dX4_clear_11 (by decide) rfl ?_
  refine g_put (w2 := [(q33, .inr (12, [.ref q82, .ref q83, .ref q84, .ref q85, .ref q86, .ref q87, .ref q88, .ref q89, .ref q90, .ref q91, .ref q92, .ref q93, .int 0, .ref q94, .ref q95, .ref q96, .int 0, .ref q97, .ref q98, .int 0]))]) (z := 15) C kX4 dX4_clear_12 0 rfl 19 (by decide) w_380 rfl rfl rfl rfl (Nat.le_of_ble_eq_true rfl) rfl rfl ?_
  exact g_vret C hQ dX4_clear_15 (Nat.le_of_ble_eq_true rfl) (Nat.le_of_ble_eq_true rfl) ⟨rfl, rfl⟩
set_option maxHeartbeats 4000000 in
set_option maxRecDepth 100000 in
/-- Program.clear -/
theorem k_X5_clear (l : Launch) (D : va_G) (K : KS) (q29 q30 q31 q32 q33 q34 q35 q36 q37 q38 q39 q40 q41 q42 q43 q44 q45 q46 q47 q48 q49 q50 q51 q52 q53 q54 q55 q56 q57 q58 q59 q60 q61 q62 q63 q64 q65 q66 q67 q68 q69 q70 q71 q72 q73 q74 q75 q76 q77 q78 q79 q80 q81 q82 q83 q84 q85 q86 q87 q88 q89 q90 q91 q92 q93 q94 q95 q96 q97 q98 : Nat) : Con l D K yX5_clear cX5_clear 1 none 1 20 0 0 [.ref q29] [(q29, .inr (8, [.ref q30, .ref q31, .ref q32, .ref q33, .ref q34, .ref q35, .ref q36, .ref q37, .ref q38, .ref q39, .int 0, .int 0, .int 0, .ref q40, .int 0])), (q30, .inr (9, [.ref q41, .ref q42, .int 0, .ref q43, .ref q44, .ref q45, .ref q46, .ref q47, .ref q48, .ref q49, .int 0, .ref q50, .ref q51, .ref q52, .int 0, .ref q53, .ref q54, .ref q55, .int 0])), (q41, .inl (K 0, 1504, .inl (fun _ => 0))), (q31, .inr (10, [.ref q56, .ref q57, .ref q58, .ref q59, .ref q60, .ref q61, .ref q62, .int 0, .ref q63, .ref q64, .ref q65, .ref q66, .ref q67, .ref q68, .ref q69, .ref q70, .ref q71, .int 0, .int 0])), (q32, .inr (11, [.ref q72, .ref q73, .ref q74, .ref q75, .ref q76, .ref q77, .ref q78, .ref q79, .int 0, .ref q80, .ref q81, .int 0])), (q33, .inr (12, [.ref q82, .ref q83, .ref q84, .ref q85, .ref q86, .ref q87, .ref q88, .ref q89, .ref q90, .ref q91, .ref q92, .ref q93, .int 0, .ref q94, .ref q95, .ref q96, .int 0, .ref q97, .ref q98, .int 0]))] (fun v w => v = none ∧ w = [(q29, .inr (8, [.ref q30, .ref q31, .ref q32, .ref q33, .ref q34, .ref q35, .ref q36, .ref q37, .ref q38, .ref q39, .int 0, .int 0, .int 0, .ref q40, .int 0])), (q30, .inr (9, [.ref q41, .ref q42, .int 3, .ref q43, .ref q44, .ref q45, .ref q46, .ref q47, .ref q48, .ref q49, .int 0, .ref q50, .ref q51, .ref q52, .int 0, .ref q53, .ref q54, .ref q55, .int 0])), (q41, .inl (K 0, 1504, .inl (upd (upd (upd (fun _ => 0) (0 : Int32).toNatClampNeg 0) (1 : Int32).toNatClampNeg 1) (2 : Int32).toNatClampNeg 2))), (q31, .inr (10, [.ref q56, .ref q57, .ref q58, .ref q59, .ref q60, .ref q61, .ref q62, .int 0, .ref q63, .ref q64, .ref q65, .ref q66, .ref q67, .ref q68, .ref q69, .ref q70, .ref q71, .int 0, .int (-1)])), (q32, .inr (11, [.ref q72, .ref q73, .ref q74, .ref q75, .ref q76, .ref q77, .ref q78, .ref q79, .int 0, .ref q80, .ref q81, .int 0])), (q33, .inr (12, [.ref q82, .ref q83, .ref q84, .ref q85, .ref q86, .ref q87, .ref q88, .ref q89, .ref q90, .ref q91, .ref q92, .ref q93, .int 0, .ref q94, .ref q95, .ref q96, .int 0, .ref q97, .ref q98, .int 0]))]) := by
  refine Con.of (by decide +kernel) (Nat.le_of_ble_eq_true rfl) ?_
  intro X hXl hXD hXK C hR hQ hnm
  subst hXl; subst hXD; subst hXK
  refine g_lv (l2 := [(0, .ref q29)]) [0] rfl ?_
  refine g_aload_n (z := 1) C dX5_clear_0 0 rfl rfl rfl ?_
  refine g_get (z := 4) C kX5 dX5_clear_1 0 rfl 0 (by decide) w_257 rfl rfl rfl ?_
  refine g_callVN (n := 0) (As := []) (rest := []) (wr := [(q29, .inr (8, [.ref q30, .ref q31, .ref q32, .ref q33, .ref q34, .ref q35, .ref q36, .ref q37, .ref q38, .ref q39, .int 0, .int 0, .int 0, .ref q40, .int 0])), (q31, .inr (10, [.ref q56, .ref q57, .ref q58, .ref q59, .ref q60, .ref q61, .ref q62, .int 0, .ref q63, .ref q64, .ref q65, .ref q66, .ref q67, .ref q68, .ref q69, .ref q70, .ref q71, .int 0, .int 0])), (q32, .inr (11, [.ref q72, .ref q73, .ref q74, .ref q75, .ref q76, .ref q77, .ref q78, .ref q79, .int 0, .ref q80, .ref q81, .int 0])), (q33, .inr (12, [.ref q82, .ref q83, .ref q84, .ref q85, .ref q86, .ref q87, .ref q88, .ref q89, .ref q90, .ref q91, .ref q92, .ref q93, .int 0, .ref q94, .ref q95, .ref q96, .int 0, .ref q97, .ref q98, .int 0]))]) (a2 := 0) (b2 := 0) (z := 7) C hR (k_X9_clear (gl X) (gD X) (gK X) q30 q41 q42 q43 q44 q45 q46 q47 q48 q49 q50 q51 q52 q53 q54 q55) dX5_clear_4 nw_67 w_303 w_304 w_302 w_256 ⟨by decide +kernel, by decide +kernel, by decide +kernel⟩ [1, 2] [0, 3, 4, 5] rfl rfl rfl rfl rfl (by decide) ⟨(Nat.le_of_ble_eq_true rfl), (Nat.le_of_ble_eq_true rfl)⟩ rfl rfl (Nat.le_of_ble_eq_true rfl) (Nat.le_of_ble_eq_true rfl) (Nat.le_of_ble_eq_true rfl) rfl rfl 1 kX9 rfl rfl rfl rfl (fun v ws' hp => ?_)
  obtain ⟨rfl, rfl⟩ := hp
  refine g_ws (w2 := [(q29, .inr (8, [.ref q30, .ref q31, .ref q32, .ref q33, .ref q34, .ref q35, .ref q36, .ref q37, .ref q38, .ref q39, .int 0, .int 0, .int 0, .ref q40, .int 0])), (q31, .inr (10, [.ref q56, .ref q57, .ref q58, .ref q59, .ref q60, .ref q61, .ref q62, .int 0, .ref q63, .ref q64, .ref q65, .ref q66, .ref q67, .ref q68, .ref q69, .ref q70, .ref q71, .int 0, .int 0])), (q32, .inr (11, [.ref q72, .ref q73, .ref q74, .ref q75, .ref q76, .ref q77, .ref q78, .ref q79, .int 0, .ref q80, .ref q81, .int 0])), (q33, .inr (12, [.ref q82, .ref q83, .ref q84, .ref q85, .ref q86, .ref q87, .ref q88, .ref q89, .ref q90, .ref q91, .ref q92, .ref q93, .int 0, .ref q94, .ref q95, .ref q96, .int 0, .ref q97, .ref q98, .int 0])), (q30, .inr (9, [.ref q41, .ref q42, .int 3, .ref q43, .ref q44, .ref q45, .ref q46, .ref q47, .ref q48, .ref q49, .int 0, .ref q50, .ref q51, .ref q52, .int 0, .ref q53, .ref q54, .ref q55, .int 0])), (q41, .inl (gK X 0, 1504, .inl (upd (upd (upd (fun _ => 0) (0 : Int32).toNatClampNeg 0) (1 : Int32).toNatClampNeg 1) (2 : Int32).toNatClampNeg 2)))]) rfl ?_
  refine g_st (s2 := []) rfl ?_
  refine g_aload_n (z := 8) C dX5_clear_7 0 rfl rfl rfl ?_
  refine g_get (z := 11) C kX5 dX5_clear_8 0 rfl 1 (by decide) w_261 rfl rfl rfl ?_
  refine g_callVN (n := 0) (As := []) (rest := []) (wr := [(q29, .inr (8, [.ref q30, .ref q31, .ref q32, .ref q33, .ref q34, .ref q35, .ref q36, .ref q37, .ref q38, .ref q39, .int 0, .int 0, .int 0, .ref q40, .int 0])), (q32, .inr (11, [.ref q72, .ref q73, .ref q74, .ref q75, .ref q76, .ref q77, .ref q78, .ref q79, .int 0, .ref q80, .ref q81, .int 0])), (q33, .inr (12, [.ref q82, .ref q83, .ref q84, .ref q85, .ref q86, .ref q87, .ref q88, .ref q89, .ref q90, .ref q91, .ref q92, .ref q93, .int 0, .ref q94, .ref q95, .ref q96, .int 0, .ref q97, .ref q98, .int 0])), (q30, .inr (9, [.ref q41, .ref q42, .int 3, .ref q43, .ref q44, .ref q45, .ref q46, .ref q47, .ref q48, .ref q49, .int 0, .ref q50, .ref q51, .ref q52, .int 0, .ref q53, .ref q54, .ref q55, .int 0])), (q41, .inl (gK X 0, 1504, .inl (upd (upd (upd (fun _ => 0) (0 : Int32).toNatClampNeg 0) (1 : Int32).toNatClampNeg 1) (2 : Int32).toNatClampNeg 2)))]) (a2 := 0) (b2 := 0) (z := 14) C hR (k_X2_clear (gl X) (gD X) (gK X) q31 q56 q57 q58 q59 q60 q61 q62 q63 q64 q65 q66 q67 q68 q69 q70 q71) dX5_clear_11 nw_68 w_332 w_333 w_331 w_260 ⟨by decide +kernel, by decide +kernel, by decide +kernel⟩ [1] [0, 2, 3, 4, 5] rfl rfl rfl rfl rfl (by decide) ⟨(Nat.le_of_ble_eq_true rfl), (Nat.le_of_ble_eq_true rfl)⟩ rfl rfl (Nat.le_of_ble_eq_true rfl) (Nat.le_of_ble_eq_true rfl) (Nat.le_of_ble_eq_true rfl) rfl rfl 1 kX2 rfl rfl rfl rfl (fun v ws' hp => ?_)
  obtain ⟨rfl, rfl⟩ := hp
  refine g_ws (w2 := [(q29, .inr (8, [.ref q30, .ref q31, .ref q32, .ref q33, .ref q34, .ref q35, .ref q36, .ref q37, .ref q38, .ref q39, .int 0, .int 0, .int 0, .ref q40, .int 0])), (q32, .inr (11, [.ref q72, .ref q73, .ref q74, .ref q75, .ref q76, .ref q77, .ref q78, .ref q79, .int 0, .ref q80, .ref q81, .int 0])), (q33, .inr (12, [.ref q82, .ref q83, .ref q84, .ref q85, .ref q86, .ref q87, .ref q88, .ref q89, .ref q90, .ref q91, .ref q92, .ref q93, .int 0, .ref q94, .ref q95, .ref q96, .int 0, .ref q97, .ref q98, .int 0])), (q30, .inr (9, [.ref q41, .ref q42, .int 3, .ref q43, .ref q44, .ref q45, .ref q46, .ref q47, .ref q48, .ref q49, .int 0, .ref q50, .ref q51, .ref q52, .int 0, .ref q53, .ref q54, .ref q55, .int 0])), (q41, .inl (gK X 0, 1504, .inl (upd (upd (upd (fun _ => 0) (0 : Int32).toNatClampNeg 0) (1 : Int32).toNatClampNeg 1) (2 : Int32).toNatClampNeg 2))), (q31, .inr (10, [.ref q56, .ref q57, .ref q58, .ref q59, .ref q60, .ref q61, .ref q62, .int 0, .ref q63, .ref q64, .ref q65, .ref q66, .ref q67, .ref q68, .ref q69, .ref q70, .ref q71, .int 0, .int (-1)]))]) rfl ?_
  refine g_st (s2 := []) rfl ?_
  refine g_aload_n (z := 15) C dX5_clear_14 0 rfl rfl rfl ?_
  refine g_get (z := 18) C kX5 dX5_clear_15 0 rfl 2 (by decide) w_265 rfl rfl rfl ?_
  refine g_callVN (n := 0) (As := []) (rest := []) (wr := [(q29, .inr (8, [.ref q30, .ref q31, .ref q32, .ref q33, .ref q34, .ref q35, .ref q36, .ref q37, .ref q38, .ref q39, .int 0, .int 0, .int 0, .ref q40, .int 0])), (q33, .inr (12, [.ref q82, .ref q83, .ref q84, .ref q85, .ref q86, .ref q87, .ref q88, .ref q89, .ref q90, .ref q91, .ref q92, .ref q93, .int 0, .ref q94, .ref q95, .ref q96, .int 0, .ref q97, .ref q98, .int 0])), (q30, .inr (9, [.ref q41, .ref q42, .int 3, .ref q43, .ref q44, .ref q45, .ref q46, .ref q47, .ref q48, .ref q49, .int 0, .ref q50, .ref q51, .ref q52, .int 0, .ref q53, .ref q54, .ref q55, .int 0])), (q41, .inl (gK X 0, 1504, .inl (upd (upd (upd (fun _ => 0) (0 : Int32).toNatClampNeg 0) (1 : Int32).toNatClampNeg 1) (2 : Int32).toNatClampNeg 2))), (q31, .inr (10, [.ref q56, .ref q57, .ref q58, .ref q59, .ref q60, .ref q61, .ref q62, .int 0, .ref q63, .ref q64, .ref q65, .ref q66, .ref q67, .ref q68, .ref q69, .ref q70, .ref q71, .int 0, .int (-1)]))]) (a2 := 0) (b2 := 0) (z := 21) C hR (k_X10_clear (gl X) (gD X) (gK X) q32 q72 q73 q74 q75 q76 q77 q78 q79 q80 q81) dX5_clear_18 nw_69 w_351 w_352 w_350 w_264 ⟨by decide +kernel, by decide +kernel, by decide +kernel⟩ [1] [0, 2, 3, 4, 5] rfl rfl rfl rfl rfl (by decide) ⟨(Nat.le_of_ble_eq_true rfl), (Nat.le_of_ble_eq_true rfl)⟩ rfl rfl (Nat.le_of_ble_eq_true rfl) (Nat.le_of_ble_eq_true rfl) (Nat.le_of_ble_eq_true rfl) rfl rfl 1 kX10 rfl rfl rfl rfl (fun v ws' hp => ?_)
  obtain ⟨rfl, rfl⟩ := hp
  refine g_ws (w2 := [(q29, .inr (8, [.ref q30, .ref q31, .ref q32, .ref q33, .ref q34, .ref q35, .ref q36, .ref q37, .ref q38, .ref q39, .int 0, .int 0, .int 0, .ref q40, .int 0])), (q33, .inr (12, [.ref q82, .ref q83, .ref q84, .ref q85, .ref q86, .ref q87, .ref q88, .ref q89, .ref q90, .ref q91, .ref q92, .ref q93, .int 0, .ref q94, .ref q95, .ref q96, .int 0, .ref q97, .ref q98, .int 0])), (q30, .inr (9, [.ref q41, .ref q42, .int 3, .ref q43, .ref q44, .ref q45, .ref q46, .ref q47, .ref q48, .ref q49, .int 0, .ref q50, .ref q51, .ref q52, .int 0, .ref q53, .ref q54, .ref q55, .int 0])), (q41, .inl (gK X 0, 1504, .inl (upd (upd (upd (fun _ => 0) (0 : Int32).toNatClampNeg 0) (1 : Int32).toNatClampNeg 1) (2 : Int32).toNatClampNeg 2))), (q31, .inr (10, [.ref q56, .ref q57, .ref q58, .ref q59, .ref q60, .ref q61, .ref q62, .int 0, .ref q63, .ref q64, .ref q65, .ref q66, .ref q67, .ref q68, .ref q69, .ref q70, .ref q71, .int 0, .int (-1)])), (q32, .inr (11, [.ref q72, .ref q73, .ref q74, .ref q75, .ref q76, .ref q77, .ref q78, .ref q79, .int 0, .ref q80, .ref q81, .int 0]))]) rfl ?_
  refine g_st (s2 := []) rfl ?_
  refine g_aload_n (z := 22) C dX5_clear_21 0 rfl rfl rfl ?_
  refine g_get (z := 25) C kX5 dX5_clear_22 0 rfl 3 (by decide) w_269 rfl rfl rfl ?_
  refine g_callVN (n := 0) (As := []) (rest := []) (wr := [(q29, .inr (8, [.ref q30, .ref q31, .ref q32, .ref q33, .ref q34, .ref q35, .ref q36, .ref q37, .ref q38, .ref q39, .int 0, .int 0, .int 0, .ref q40, .int 0])), (q30, .inr (9, [.ref q41, .ref q42, .int 3, .ref q43, .ref q44, .ref q45, .ref q46, .ref q47, .ref q48, .ref q49, .int 0, .ref q50, .ref q51, .ref q52, .int 0, .ref q53, .ref q54, .ref q55, .int 0])), (q41, .inl (gK X 0, 1504, .inl (upd (upd (upd (fun _ => 0) (0 : Int32).toNatClampNeg 0) (1 : Int32).toNatClampNeg 1) (2 : Int32).toNatClampNeg 2))), (q31, .inr (10, [.ref q56, .ref q57, .ref q58, .ref q59, .ref q60, .ref q61, .ref q62, .int 0, .ref q63, .ref q64, .ref q65, .ref q66, .ref q67, .ref q68, .ref q69, .ref q70, .ref q71, .int 0, .int (-1)])), (q32, .inr (11, [.ref q72, .ref q73, .ref q74, .ref q75, .ref q76, .ref q77, .ref q78, .ref q79, .int 0, .ref q80, .ref q81, .int 0]))]) (a2 := 0) (b2 := 0) (z := 28) C hR (k_X4_clear (gl X) (gD X) (gK X) q33 q82 q83 q84 q85 q86 q87 q88 q89 q90 q91 q92 q93 q94 q95 q96 q97 q98) dX5_clear_25 nw_70 w_376 w_377 w_375 w_268 ⟨by decide +kernel, by decide +kernel, by decide +kernel⟩ [1] [0, 2, 3, 4, 5] rfl rfl rfl rfl rfl (by decide) ⟨(Nat.le_of_ble_eq_true rfl), (Nat.le_of_ble_eq_true rfl)⟩ rfl rfl (Nat.le_of_ble_eq_true rfl) (Nat.le_of_ble_eq_true rfl) (Nat.le_of_ble_eq_true rfl) rfl rfl 1 kX4 rfl rfl rfl rfl (fun v ws' hp => ?_)
  obtain ⟨rfl, rfl⟩ := hp
  refine g_ws (w2 := [(q29, .inr (8, [.ref q30, .ref q31, .ref q32, .ref q33, .ref q34, .ref q35, .ref q36, .ref q37, .ref q38, .ref q39, .int 0, .int 0, .int 0, .ref q40, .int 0])), (q30, .inr (9, [.ref q41, .ref q42, .int 3, .ref q43, .ref q44, .ref q45, .ref q46, .ref q47, .ref q48, .ref q49, .int 0, .ref q50, .ref q51, .ref q52, .int 0, .ref q53, .ref q54, .ref q55, .int 0])), (q41, .inl (gK X 0, 1504, .inl (upd (upd (upd (fun _ => 0) (0 : Int32).toNatClampNeg 0) (1 : Int32).toNatClampNeg 1) (2 : Int32).toNatClampNeg 2))), (q31, .inr (10, [.ref q56, .ref q57, .ref q58, .ref q59, .ref q60, .ref q61, .ref q62, .int 0, .ref q63, .ref q64, .ref q65, .ref q66, .ref q67, .ref q68, .ref q69, .ref q70, .ref q71, .int 0, .int (-1)])), (q32, .inr (11, [.ref q72, .ref q73, .ref q74, .ref q75, .ref q76, .ref q77, .ref q78, .ref q79, .int 0, .ref q80, .ref q81, .int 0])), (q33, .inr (12, [.ref q82, .ref q83, .ref q84, .ref q85, .ref q86, .ref q87, .ref q88, .ref q89, .ref q90, .ref q91, .ref q92, .ref q93, .int 0, .ref q94, .ref q95, .ref q96, .int 0, .ref q97, .ref q98, .int 0]))]) rfl ?_
  refine g_st (s2 := []) rfl ?_
  refine g_aload_n (z := 29) C dX5_clear_28 0 rfl rfl rfl ?_
  refine g_iconst (v := 0) (z := 30) C dX5_clear_29 (by decide) rfl ?_
  refine g_put (w2 := [(q29, .inr (8, [.ref q30, .ref q31, .ref q32, .ref q33, .ref q34, .ref q35, .ref q36, .ref q37, .ref q38, .ref q39, .int 0, .int 0, .int 0, .ref q40, .int 0])), (q30, .inr (9, [.ref q41, .ref q42, .int 3, .ref q43, .ref q44, .ref q45, .ref q46, .ref q47, .ref q48, .ref q49, .int 0, .ref q50, .ref q51, .ref q52, .int 0, .ref q53, .ref q54, .ref q55, .int 0])), (q41, .inl (gK X 0, 1504, .inl (upd (upd (upd (fun _ => 0) (0 : Int32).toNatClampNeg 0) (1 : Int32).toNatClampNeg 1) (2 : Int32).toNatClampNeg 2))), (q31, .inr (10, [.ref q56, .ref q57, .ref q58, .ref q59, .ref q60, .ref q61, .ref q62, .int 0, .ref q63, .ref q64, .ref q65, .ref q66, .ref q67, .ref q68, .ref q69, .ref q70, .ref q71, .int 0, .int (-1)])), (q32, .inr (11, [.ref q72, .ref q73, .ref q74, .ref q75, .ref q76, .ref q77, .ref q78, .ref q79, .int 0, .ref q80, .ref q81, .int 0])), (q33, .inr (12, [.ref q82, .ref q83, .ref q84, .ref q85, .ref q86, .ref q87, .ref q88, .ref q89, .ref q90, .ref q91, .ref q92, .ref q93, .int 0, .ref q94, .ref q95, .ref q96, .int 0, .ref q97, .ref q98, .int 0]))]) (z := 33) C kX5 dX5_clear_30 0 rfl 10 (by decide) w_280 rfl rfl rfl rfl (Nat.le_of_ble_eq_true rfl) rfl rfl ?_
  refine g_aload_n (z := 34) C dX5_clear_33 0 rfl rfl rfl ?_
  refine g_iconst (v := 0) (z := 35) C dX5_clear_34 (by decide) rfl ?_
  refine g_put (w2 := [(q29, .inr (8, [.ref q30, .ref q31, .ref q32, .ref q33, .ref q34, .ref q35, .ref q36, .ref q37, .ref q38, .ref q39, .int 0, .int 0, .int 0, .ref q40, .int 0])), (q30, .inr (9, [.ref q41, .ref q42, .int 3, .ref q43, .ref q44, .ref q45, .ref q46, .ref q47, .ref q48, .ref q49, .int 0, .ref q50, .ref q51, .ref q52, .int 0, .ref q53, .ref q54, .ref q55, .int 0])), (q41, .inl (gK X 0, 1504, .inl (upd (upd (upd (fun _ => 0) (0 : Int32).toNatClampNeg 0) (1 : Int32).toNatClampNeg 1) (2 : Int32).toNatClampNeg 2))), (q31, .inr (10, [.ref q56, .ref q57, .ref q58, .ref q59, .ref q60, .ref q61, .ref q62, .int 0, .ref q63, .ref q64, .ref q65, .ref q66, .ref q67, .ref q68, .ref q69, .ref q70, .ref q71, .int 0, .int (-1)])), (q32, .inr (11, [.ref q72, .ref q73, .ref q74, .ref q75, .ref q76, .ref q77, .ref q78, .ref q79, .int 0, .ref q80, .ref q81, .int 0])), (q33, .inr (12, [.ref q82, .ref q83, .ref q84, .ref q85, .ref q86, .ref q87, .ref q88, .ref q89, .ref q90, .ref q91, .ref q92, .ref q93, .int 0, .ref q94, .ref q95, .ref q96, .int 0, .ref q97, .ref q98, .int 0]))]) (z := 38) C kX5 dX5_clear_35 0 rfl 11 (by decide) w_281 rfl rfl rfl rfl (Nat.le_of_ble_eq_true rfl) rfl rfl ?_
  refine g_aload_n (z := 39) C dX5_clear_38 0 rfl rfl rfl ?_
  refine g_iconst (v := 0) (z := 40) C dX5_clear_39 (by decide) rfl ?_
  refine g_put (w2 := [(q29, .inr (8, [.ref q30, .ref q31, .ref q32, .ref q33, .ref q34, .ref q35, .ref q36, .ref q37, .ref q38, .ref q39, .int 0, .int 0, .int 0, .ref q40, .int 0])), (q30, .inr (9, [.ref q41, .ref q42, .int 3, .ref q43, .ref q44, .ref q45, .ref q46, .ref q47, .ref q48, .ref q49, .int 0, .ref q50, .ref q51, .ref q52, .int 0, .ref q53, .ref q54, .ref q55, .int 0])), (q41, .inl (gK X 0, 1504, .inl (upd (upd (upd (fun _ => 0) (0 : Int32).toNatClampNeg 0) (1 : Int32).toNatClampNeg 1) (2 : Int32).toNatClampNeg 2))), (q31, .inr (10, [.ref q56, .ref q57, .ref q58, .ref q59, .ref q60, .ref q61, .ref q62, .int 0, .ref q63, .ref q64, .ref q65, .ref q66, .ref q67, .ref q68, .ref q69, .ref q70, .ref q71, .int 0, .int (-1)])), (q32, .inr (11, [.ref q72, .ref q73, .ref q74, .ref q75, .ref q76, .ref q77, .ref q78, .ref q79, .int 0, .ref q80, .ref q81, .int 0])), (q33, .inr (12, [.ref q82, .ref q83, .ref q84, .ref q85, .ref q86, .ref q87, .ref q88, .ref q89, .ref q90, .ref q91, .ref q92, .ref q93, .int 0, .ref q94, .ref q95, .ref q96, .int 0, .ref q97, .ref q98, .int 0]))]) (z := 43) C kX5 dX5_clear_40 0 rfl 12 (by decide) w_282 rfl rfl rfl rfl (Nat.le_of_ble_eq_true rfl) rfl rfl ?_
  refine g_aload_n (z := 44) C dX5_clear_43 0 rfl rfl rfl ?_
  refine g_iconst (v := 0) (z := 45) C dX5_clear_44 (by decide) rfl ?_
  refine g_put (w2 := [(q29, .inr (8, [.ref q30, .ref q31, .ref q32, .ref q33, .ref q34, .ref q35, .ref q36, .ref q37, .ref q38, .ref q39, .int 0, .int 0, .int 0, .ref q40, .int 0])), (q30, .inr (9, [.ref q41, .ref q42, .int 3, .ref q43, .ref q44, .ref q45, .ref q46, .ref q47, .ref q48, .ref q49, .int 0, .ref q50, .ref q51, .ref q52, .int 0, .ref q53, .ref q54, .ref q55, .int 0])), (q41, .inl (gK X 0, 1504, .inl (upd (upd (upd (fun _ => 0) (0 : Int32).toNatClampNeg 0) (1 : Int32).toNatClampNeg 1) (2 : Int32).toNatClampNeg 2))), (q31, .inr (10, [.ref q56, .ref q57, .ref q58, .ref q59, .ref q60, .ref q61, .ref q62, .int 0, .ref q63, .ref q64, .ref q65, .ref q66, .ref q67, .ref q68, .ref q69, .ref q70, .ref q71, .int 0, .int (-1)])), (q32, .inr (11, [.ref q72, .ref q73, .ref q74, .ref q75, .ref q76, .ref q77, .ref q78, .ref q79, .int 0, .ref q80, .ref q81, .int 0])), (q33, .inr (12, [.ref q82, .ref q83, .ref q84, .ref q85, .ref q86, .ref q87, .ref q88, .ref q89, .ref q90, .ref q91, .ref q92, .ref q93, .int 0, .ref q94, .ref q95, .ref q96, .int 0, .ref q97, .ref q98, .int 0]))]) (z := 48) C kX5 dX5_clear_45 0 rfl 14 (by decide) w_283 rfl rfl rfl rfl (Nat.le_of_ble_eq_true rfl) rfl rfl ?_
  refine g_sub (w2 := [(q29, .inr (8, [.ref q30, .ref q31, .ref q32, .ref q33, .ref q34, .ref q35, .ref q36, .ref q37, .ref q38, .ref q39, .int 0, .int 0, .int 0, .ref q40, .int 0])), (q30, .inr (9, [.ref q41, .ref q42, .int 3, .ref q43, .ref q44, .ref q45, .ref q46, .ref q47, .ref q48, .ref q49, .int 0, .ref q50, .ref q51, .ref q52, .int 0, .ref q53, .ref q54, .ref q55, .int 0])), (q41, .inl (gK X 0, 1504, .inl (upd (upd (upd (fun _ => 0) (0 : Int32).toNatClampNeg 0) (1 : Int32).toNatClampNeg 1) (2 : Int32).toNatClampNeg 2))), (q31, .inr (10, [.ref q56, .ref q57, .ref q58, .ref q59, .ref q60, .ref q61, .ref q62, .int 0, .ref q63, .ref q64, .ref q65, .ref q66, .ref q67, .ref q68, .ref q69, .ref q70, .ref q71, .int 0, .int (-1)])), (q32, .inr (11, [.ref q72, .ref q73, .ref q74, .ref q75, .ref q76, .ref q77, .ref q78, .ref q79, .int 0, .ref q80, .ref q81, .int 0])), (q33, .inr (12, [.ref q82, .ref q83, .ref q84, .ref q85, .ref q86, .ref q87, .ref q88, .ref q89, .ref q90, .ref q91, .ref q92, .ref q93, .int 0, .ref q94, .ref q95, .ref q96, .int 0, .ref q97, .ref q98, .int 0]))]) [0, 1, 2, 3, 4, 5] rfl rfl rfl ?_
  exact g_vret C hQ dX5_clear_48 (Nat.le_of_ble_eq_true rfl) (Nat.le_of_ble_eq_true rfl) ⟨rfl, rfl⟩
set_option maxHeartbeats 4000000 in
set_option maxRecDepth 100000 in
/-- Types.measure of nothing -/
theorem k_X9_measure (l : Launch) (D : va_G) (K : KS) (q30 q41 q42 q43 q44 q45 q46 q47 q48 q49 q50 q51 q52 q53 q54 q55 : Nat) : Con l D K yX9_measure cX9_measure 4 none 0 0 0 0 [.ref q30] [(q30, .inr (9, [.ref q41, .ref q42, .int 3, .ref q43, .ref q44, .ref q45, .ref q46, .ref q47, .ref q48, .ref q49, .int 0, .ref q50, .ref q51, .ref q52, .int 0, .ref q53, .ref q54, .ref q55, .int 0]))] (fun v w => v = none ∧ w = [(q30, .inr (9, [.ref q41, .ref q42, .int 3, .ref q43, .ref q44, .ref q45, .ref q46, .ref q47, .ref q48, .ref q49, .int 0, .ref q50, .ref q51, .ref q52, .int 0, .ref q53, .ref q54, .ref q55, .int 0]))]) := by
  refine Con.of (by decide +kernel) (Nat.le_of_ble_eq_true rfl) ?_
  intro X hXl hXD hXK C hR hQ hnm
  subst hXl; subst hXD; subst hXK
  refine g_lv (l2 := [(0, .ref q30)]) [0] rfl ?_
  refine g_iconst (v := 1) (z := 1) C dX9_measure_0 (by decide) rfl ?_
  refine g_istore_n (l2 := [(1, .int 1), (0, .ref q30)]) (z := 2) C dX9_measure_1 rfl (by decide) rfl rfl ?_
  refine g_iconst (v := 0) (z := 3) C dX9_measure_2 (by decide) rfl ?_
  refine g_istore_n (l2 := [(2, .int 0), (1, .int 1), (0, .ref q30)]) (z := 4) C dX9_measure_3 rfl (by decide) rfl rfl ?_
  refine g_iload_n (z := 5) C dX9_measure_4 0 rfl rfl rfl ?_
  refine g_aload_n (z := 6) C dX9_measure_5 2 rfl rfl rfl ?_
  refine g_get (z := 9) C kX9 dX9_measure_6 0 rfl 10 (by decide) w_305 rfl rfl rfl ?_
  refine g_icmp_gt_f (z := 12) 64 C dX9_measure_9 (by decide) (by decide) rfl ?_
  refine g_iload_n (z := 13) C dX9_measure_12 1 rfl rfl rfl ?_
  refine g_if_eq_f (z := 16) 64 C dX9_measure_13 (by decide) (by decide) rfl ?_
  refine g_iconst (v := 0) (z := 17) C dX9_measure_16 (by decide) rfl ?_
  refine g_istore_n (l2 := [(1, .int 0), (2, .int 0), (0, .ref q30)]) (z := 18) C dX9_measure_17 rfl (by decide) rfl rfl ?_
  refine g_iconst (v := 0) (z := 19) C dX9_measure_18 (by decide) rfl ?_
  refine g_istore_n (l2 := [(3, .int 0), (1, .int 0), (2, .int 0), (0, .ref q30)]) (z := 20) C dX9_measure_19 rfl (by decide) rfl rfl ?_
  refine g_iload_n (z := 21) C dX9_measure_20 0 rfl rfl rfl ?_
  refine g_aload_n (z := 22) C dX9_measure_21 3 rfl rfl rfl ?_
  refine g_get (z := 25) C kX9 dX9_measure_22 0 rfl 10 (by decide) w_305 rfl rfl rfl ?_
  refine g_icmp_ge_t (z := 58) C dX9_measure_25 (by decide) (by decide) ?_
  refine g_iinc (v := 1) (l2 := [(2, .int 1), (3, .int 0), (1, .int 0), (0, .ref q30)]) (z := 61) C dX9_measure_58 2 rfl (by decide) (by decide) rfl rfl ?_
  refine g_goto (z := 4) C dX9_measure_61 (by decide) ?_
  refine g_iload_n (z := 5) C dX9_measure_4 0 rfl rfl rfl ?_
  refine g_aload_n (z := 6) C dX9_measure_5 3 rfl rfl rfl ?_
  refine g_get (z := 9) C kX9 dX9_measure_6 0 rfl 10 (by decide) w_305 rfl rfl rfl ?_
  refine g_icmp_gt_t (z := 64) C dX9_measure_9 (by decide) (by decide) ?_
  exact g_vret C hQ dX9_measure_64 (Nat.le_of_ble_eq_true rfl) (Nat.le_of_ble_eq_true rfl) ⟨rfl, rfl⟩
set_option maxHeartbeats 4000000 in
set_option maxRecDepth 100000 in
/-- declareAll of nothing -/
theorem k_declareAll (l : Launch) (D : va_G) (K : KS) (h0 : Nat) : Con l D K yX0_declareAll cX0_declareAll 4 none 0 0 0 0 [.ref h0, .int 0] [] (fun v w => v = none ∧ w = []) := by
  refine Con.of (by decide +kernel) (Nat.le_of_ble_eq_true rfl) ?_
  intro X hXl hXD hXK C hR hQ hnm
  subst hXl; subst hXD; subst hXK
  refine g_lv (l2 := [(0, .ref h0), (1, .int 0)]) [0, 1] rfl ?_
  refine g_iload_n (z := 1) C dX0_declareAll_0 1 rfl rfl rfl ?_
  refine g_istore_n (l2 := [(2, .int 0), (0, .ref h0), (1, .int 0)]) (z := 2) C dX0_declareAll_1 rfl (by decide) rfl rfl ?_
  refine g_iload_n (z := 3) C dX0_declareAll_2 0 rfl rfl rfl ?_
  refine g_if_eq_t (z := 163) C dX0_declareAll_3 (by decide) (by decide) ?_
  exact g_vret C hQ dX0_declareAll_163 (Nat.le_of_ble_eq_true rfl) (Nat.le_of_ble_eq_true rfl) ⟨rfl, rfl⟩
set_option maxHeartbeats 4000000 in
set_option maxRecDepth 100000 in
/-- measures of nothing -/
theorem k_measures (l : Launch) (D : va_G) (K : KS) (h0 : Nat) : Con l D K yX0_measures cX0_measures 5 none 0 0 0 0 [.ref h0, .int 0] [] (fun v w => v = none ∧ w = []) := by
  refine Con.of (by decide +kernel) (Nat.le_of_ble_eq_true rfl) ?_
  intro X hXl hXD hXK C hR hQ hnm
  subst hXl; subst hXD; subst hXK
  refine g_lv (l2 := [(0, .ref h0), (1, .int 0)]) [0, 1] rfl ?_
  refine g_iconst (v := 0) (z := 1) C dX0_measures_0 (by decide) rfl ?_
  refine g_istore_n (l2 := [(2, .int 0), (0, .ref h0), (1, .int 0)]) (z := 2) C dX0_measures_1 rfl (by decide) rfl rfl ?_
  refine g_iload_n (z := 3) C dX0_measures_2 2 rfl rfl rfl ?_
  refine g_istore_n (l2 := [(3, .int 0), (2, .int 0), (0, .ref h0), (1, .int 0)]) (z := 4) C dX0_measures_3 rfl (by decide) rfl rfl ?_
  refine g_iload_n (z := 5) C dX0_measures_4 0 rfl rfl rfl ?_
  refine g_if_eq_t (z := 103) C dX0_measures_5 (by decide) (by decide) ?_
  exact g_vret C hQ dX0_measures_103 (Nat.le_of_ble_eq_true rfl) (Nat.le_of_ble_eq_true rfl) ⟨rfl, rfl⟩
set_option maxHeartbeats 4000000 in
set_option maxRecDepth 100000 in
/-- broken(0) -/
theorem k_broken (l : Launch) (D : va_G) (K : KS) (q25 q3 q30 q31 q32 q33 : Nat) : Con l D K yX0_broken cX0_broken 2 none 1 14 0 0 [.ref q25, .int 0] [(q25, .inr (3, [.ref q3, .ref q30, .ref q31, .ref q32, .ref q33, .int 1073741824, .int 0, .int 0, .int 0, .int 0, .int 0]))] (fun v w => v = none ∧ w = [(q25, .inr (3, [.ref q3, .ref q30, .ref q31, .ref q32, .ref q33, .int 0, .int 0, .int 0, .int 0, .int 0, .int 0]))]) := by
  refine Con.of (by decide +kernel) (Nat.le_of_ble_eq_true rfl) ?_
  intro X hXl hXD hXK C hR hQ hnm
  subst hXl; subst hXD; subst hXK
  refine g_lv (l2 := [(0, .ref q25), (1, .int 0)]) [0, 1] rfl ?_
  refine g_aload_n (z := 1) C dX0_broken_0 0 rfl rfl rfl ?_
  refine g_aload_n (z := 2) C dX0_broken_1 0 rfl rfl rfl ?_
  refine g_get (z := 5) C kX0 dX0_broken_2 0 rfl 5 (by decide) w_194 rfl rfl rfl ?_
  refine g_iload_n (z := 6) C dX0_broken_5 1 rfl rfl rfl ?_
  refine g_min (v := 0) (z := 9) C hR dX0_broken_6 w_211 w_212 w_214 w_213 (Nat.le_of_ble_eq_true rfl) (Nat.le_of_ble_eq_true rfl) (Nat.le_of_ble_eq_true rfl) (Nat.le_of_ble_eq_true rfl) (by decide) rfl ?_
  refine g_put (w2 := [(q25, .inr (3, [.ref q3, .ref q30, .ref q31, .ref q32, .ref q33, .int 0, .int 0, .int 0, .int 0, .int 0, .int 0]))]) (z := 12) C kX0 dX0_broken_9 0 rfl 5 (by decide) w_194 rfl rfl rfl rfl (Nat.le_of_ble_eq_true rfl) rfl rfl ?_
  exact g_vret C hQ dX0_broken_12 (Nat.le_of_ble_eq_true rfl) (Nat.le_of_ble_eq_true rfl) ⟨rfl, rfl⟩
set_option maxHeartbeats 4000000 in
set_option maxRecDepth 100000 in
/-- no fn main: the end -/
theorem k_mainFunction (l : Launch) (D : va_G) (K : KS) (q25 q3 q30 q31 q32 q33 q56 q57 q58 q59 q60 q61 q62 q63 q64 q65 q66 q67 q68 q69 q70 q71 : Nat) : Con l D K yX0_mainFunction cX0_mainFunction 4 none 2 35 0 0 [.ref q25, .int 0] [(q25, .inr (3, [.ref q3, .ref q30, .ref q31, .ref q32, .ref q33, .int 1073741824, .int 0, .int 0, .int 0, .int 0, .int 0])), (q31, .inr (10, [.ref q56, .ref q57, .ref q58, .ref q59, .ref q60, .ref q61, .ref q62, .int 0, .ref q63, .ref q64, .ref q65, .ref q66, .ref q67, .ref q68, .ref q69, .ref q70, .ref q71, .int 0, .int (-1)]))] (fun v w => v = none ∧ w = [(q25, .inr (3, [.ref q3, .ref q30, .ref q31, .ref q32, .ref q33, .int 0, .int 0, .int 0, .int 0, .int 0, .int 0])), (q31, .inr (10, [.ref q56, .ref q57, .ref q58, .ref q59, .ref q60, .ref q61, .ref q62, .int 0, .ref q63, .ref q64, .ref q65, .ref q66, .ref q67, .ref q68, .ref q69, .ref q70, .ref q71, .int 0, .int (-1)]))]) := by
  refine Con.of (by decide +kernel) (Nat.le_of_ble_eq_true rfl) ?_
  intro X hXl hXD hXK C hR hQ hnm
  subst hXl; subst hXD; subst hXK
  refine g_lv (l2 := [(0, .ref q25), (1, .int 0)]) [0, 1] rfl ?_
  refine g_iconst (v := 0) (z := 1) C dX0_mainFunction_0 (by decide) rfl ?_
  refine g_istore_n (l2 := [(2, .int 0), (0, .ref q25), (1, .int 0)]) (z := 2) C dX0_mainFunction_1 rfl (by decide) rfl rfl ?_
  refine g_iload_n (z := 3) C dX0_mainFunction_2 0 rfl rfl rfl ?_
  refine g_aload_n (z := 4) C dX0_mainFunction_3 1 rfl rfl rfl ?_
  refine g_get (z := 7) C kX0 dX0_mainFunction_4 0 rfl 2 (by decide) w_190 rfl rfl rfl ?_
  refine g_getN (z := 10) C kX2 dX0_mainFunction_7 1 rfl 17 (by decide) nw_47 rfl rfl rfl ?_
  refine g_icmp_ge_t (z := 76) C dX0_mainFunction_10 (by decide) (by decide) ?_
  refine g_aload_n (z := 77) C dX0_mainFunction_76 1 rfl rfl rfl ?_
  refine g_iload_n (z := 78) C dX0_mainFunction_77 2 rfl rfl rfl ?_
  refine g_callV (n := 1) (As := [.int 0]) (rest := []) (wr := [(q31, .inr (10, [.ref q56, .ref q57, .ref q58, .ref q59, .ref q60, .ref q61, .ref q62, .int 0, .ref q63, .ref q64, .ref q65, .ref q66, .ref q67, .ref q68, .ref q69, .ref q70, .ref q71, .int 0, .int (-1)]))]) (a2 := 0) (b2 := 0) (z := 81) C hR (k_broken (gl X) (gD X) (gK X) q25 q3 q30 q31 q32 q33) dX0_mainFunction_78 w_204 w_209 w_210 w_208 w_20 ⟨by decide +kernel, by decide +kernel, by decide +kernel⟩ [0] [1] rfl rfl rfl rfl rfl (by decide) ⟨(Nat.le_of_ble_eq_true rfl), (Nat.le_of_ble_eq_true rfl)⟩ rfl rfl (Nat.le_of_ble_eq_true rfl) (Nat.le_of_ble_eq_true rfl) (Nat.le_of_ble_eq_true rfl) rfl rfl 0 kX0 rfl rfl rfl rfl (fun v ws' hp => ?_)
  obtain ⟨rfl, rfl⟩ := hp
  refine g_ws (w2 := [(q31, .inr (10, [.ref q56, .ref q57, .ref q58, .ref q59, .ref q60, .ref q61, .ref q62, .int 0, .ref q63, .ref q64, .ref q65, .ref q66, .ref q67, .ref q68, .ref q69, .ref q70, .ref q71, .int 0, .int (-1)])), (q25, .inr (3, [.ref q3, .ref q30, .ref q31, .ref q32, .ref q33, .int 0, .int 0, .int 0, .int 0, .int 0, .int 0]))]) rfl ?_
  refine g_st (s2 := []) rfl ?_
  refine g_sub (w2 := [(q25, .inr (3, [.ref q3, .ref q30, .ref q31, .ref q32, .ref q33, .int 0, .int 0, .int 0, .int 0, .int 0, .int 0])), (q31, .inr (10, [.ref q56, .ref q57, .ref q58, .ref q59, .ref q60, .ref q61, .ref q62, .int 0, .ref q63, .ref q64, .ref q65, .ref q66, .ref q67, .ref q68, .ref q69, .ref q70, .ref q71, .int 0, .int (-1)]))]) [1, 0] rfl rfl rfl ?_
  exact g_vret C hQ dX0_mainFunction_81 (Nat.le_of_ble_eq_true rfl) (Nat.le_of_ble_eq_true rfl) ⟨rfl, rfl⟩
set_option maxHeartbeats 4000000 in
set_option maxRecDepth 100000 in
/-- check of a text without a fn main: its place is 0 -/
theorem k_check (l : Launch) (D : va_G) (K : KS) (q25 q3 q29 q30 q31 q32 q33 q34 q35 q36 q37 q38 q39 q40 q4 q5 q6 q7 q8 q9 q10 q11 q12 q13 q14 q41 q42 q43 q44 q45 q46 q47 q48 q49 q50 q51 q52 q53 q54 q55 q56 q57 q58 q59 q60 q61 q62 q63 q64 q65 q66 q67 q68 q69 q70 q71 : Nat) : Con l D K yX0_check cX0_check 6 (some .int) 3 58 0 0 [.ref q25, .ref q29, .int 0] [(q25, .inr (3, [.ref q3, .null, .null, .null, .null, .int 0, .int 0, .int 0, .int 0, .int 0, .int 0])), (q29, .inr (8, [.ref q30, .ref q31, .ref q32, .ref q33, .ref q34, .ref q35, .ref q36, .ref q37, .ref q38, .ref q39, .int 0, .int 0, .int 0, .ref q40, .int 0])), (q3, .inr (1, [.ref q4, .ref q5, .ref q6, .ref q7, .ref q8, .ref q9, .ref q10, .ref q11, .ref q12, .ref q13, .ref q14, .int 2])), (q8, .inl (K 0, 3016, .inl (upd (fun _ => 0) (1 : Int32).toNatClampNeg 0))), (q30, .inr (9, [.ref q41, .ref q42, .int 3, .ref q43, .ref q44, .ref q45, .ref q46, .ref q47, .ref q48, .ref q49, .int 0, .ref q50, .ref q51, .ref q52, .int 0, .ref q53, .ref q54, .ref q55, .int 0])), (q31, .inr (10, [.ref q56, .ref q57, .ref q58, .ref q59, .ref q60, .ref q61, .ref q62, .int 0, .ref q63, .ref q64, .ref q65, .ref q66, .ref q67, .ref q68, .ref q69, .ref q70, .ref q71, .int 0, .int (-1)]))] (fun v w => v = some (.int 0) ∧ w = [(q25, .inr (3, [.ref q3, .ref q30, .ref q31, .ref q32, .ref q33, .int 0, .int 0, .int 0, .int 0, .int 0, .int 0])), (q29, .inr (8, [.ref q30, .ref q31, .ref q32, .ref q33, .ref q34, .ref q35, .ref q36, .ref q37, .ref q38, .ref q39, .int 0, .int 0, .int 0, .ref q40, .int 0])), (q3, .inr (1, [.ref q4, .ref q5, .ref q6, .ref q7, .ref q8, .ref q9, .ref q10, .ref q11, .ref q12, .ref q13, .ref q14, .int 2])), (q8, .inl (K 0, 3016, .inl (upd (fun _ => 0) (1 : Int32).toNatClampNeg 0))), (q30, .inr (9, [.ref q41, .ref q42, .int 3, .ref q43, .ref q44, .ref q45, .ref q46, .ref q47, .ref q48, .ref q49, .int 0, .ref q50, .ref q51, .ref q52, .int 0, .ref q53, .ref q54, .ref q55, .int 0])), (q31, .inr (10, [.ref q56, .ref q57, .ref q58, .ref q59, .ref q60, .ref q61, .ref q62, .int 0, .ref q63, .ref q64, .ref q65, .ref q66, .ref q67, .ref q68, .ref q69, .ref q70, .ref q71, .int 0, .int (-1)]))]) := by
  refine Con.of (by decide +kernel) (Nat.le_of_ble_eq_true rfl) ?_
  intro X hXl hXD hXK C hR hQ hnm
  subst hXl; subst hXD; subst hXK
  refine g_lv (l2 := [(0, .ref q25), (1, .ref q29), (2, .int 0)]) [0, 1, 2] rfl ?_
  refine g_aload_n (z := 1) C dX0_check_0 0 rfl rfl rfl ?_
  refine g_aload_n (z := 2) C dX0_check_1 1 rfl rfl rfl ?_
  refine g_getN (z := 5) C kX5 dX0_check_2 1 rfl 0 (by decide) nw_39 rfl rfl rfl ?_
  refine g_put (w2 := [(q25, .inr (3, [.ref q3, .ref q30, .null, .null, .null, .int 0, .int 0, .int 0, .int 0, .int 0, .int 0])), (q29, .inr (8, [.ref q30, .ref q31, .ref q32, .ref q33, .ref q34, .ref q35, .ref q36, .ref q37, .ref q38, .ref q39, .int 0, .int 0, .int 0, .ref q40, .int 0])), (q3, .inr (1, [.ref q4, .ref q5, .ref q6, .ref q7, .ref q8, .ref q9, .ref q10, .ref q11, .ref q12, .ref q13, .ref q14, .int 2])), (q8, .inl (gK X 0, 3016, .inl (upd (fun _ => 0) (1 : Int32).toNatClampNeg 0))), (q30, .inr (9, [.ref q41, .ref q42, .int 3, .ref q43, .ref q44, .ref q45, .ref q46, .ref q47, .ref q48, .ref q49, .int 0, .ref q50, .ref q51, .ref q52, .int 0, .ref q53, .ref q54, .ref q55, .int 0])), (q31, .inr (10, [.ref q56, .ref q57, .ref q58, .ref q59, .ref q60, .ref q61, .ref q62, .int 0, .ref q63, .ref q64, .ref q65, .ref q66, .ref q67, .ref q68, .ref q69, .ref q70, .ref q71, .int 0, .int (-1)]))]) (z := 8) C kX0 dX0_check_5 0 rfl 1 (by decide) w_189 rfl rfl rfl rfl (Nat.le_of_ble_eq_true rfl) rfl rfl ?_
  refine g_aload_n (z := 9) C dX0_check_8 0 rfl rfl rfl ?_
  refine g_aload_n (z := 10) C dX0_check_9 1 rfl rfl rfl ?_
  refine g_getN (z := 13) C kX5 dX0_check_10 1 rfl 1 (by decide) nw_40 rfl rfl rfl ?_
  refine g_put (w2 := [(q25, .inr (3, [.ref q3, .ref q30, .ref q31, .null, .null, .int 0, .int 0, .int 0, .int 0, .int 0, .int 0])), (q29, .inr (8, [.ref q30, .ref q31, .ref q32, .ref q33, .ref q34, .ref q35, .ref q36, .ref q37, .ref q38, .ref q39, .int 0, .int 0, .int 0, .ref q40, .int 0])), (q3, .inr (1, [.ref q4, .ref q5, .ref q6, .ref q7, .ref q8, .ref q9, .ref q10, .ref q11, .ref q12, .ref q13, .ref q14, .int 2])), (q8, .inl (gK X 0, 3016, .inl (upd (fun _ => 0) (1 : Int32).toNatClampNeg 0))), (q30, .inr (9, [.ref q41, .ref q42, .int 3, .ref q43, .ref q44, .ref q45, .ref q46, .ref q47, .ref q48, .ref q49, .int 0, .ref q50, .ref q51, .ref q52, .int 0, .ref q53, .ref q54, .ref q55, .int 0])), (q31, .inr (10, [.ref q56, .ref q57, .ref q58, .ref q59, .ref q60, .ref q61, .ref q62, .int 0, .ref q63, .ref q64, .ref q65, .ref q66, .ref q67, .ref q68, .ref q69, .ref q70, .ref q71, .int 0, .int (-1)]))]) (z := 16) C kX0 dX0_check_13 0 rfl 2 (by decide) w_190 rfl rfl rfl rfl (Nat.le_of_ble_eq_true rfl) rfl rfl ?_
  refine g_aload_n (z := 17) C dX0_check_16 0 rfl rfl rfl ?_
  refine g_aload_n (z := 18) C dX0_check_17 1 rfl rfl rfl ?_
  refine g_getN (z := 21) C kX5 dX0_check_18 1 rfl 2 (by decide) nw_41 rfl rfl rfl ?_
  refine g_put (w2 := [(q25, .inr (3, [.ref q3, .ref q30, .ref q31, .ref q32, .null, .int 0, .int 0, .int 0, .int 0, .int 0, .int 0])), (q29, .inr (8, [.ref q30, .ref q31, .ref q32, .ref q33, .ref q34, .ref q35, .ref q36, .ref q37, .ref q38, .ref q39, .int 0, .int 0, .int 0, .ref q40, .int 0])), (q3, .inr (1, [.ref q4, .ref q5, .ref q6, .ref q7, .ref q8, .ref q9, .ref q10, .ref q11, .ref q12, .ref q13, .ref q14, .int 2])), (q8, .inl (gK X 0, 3016, .inl (upd (fun _ => 0) (1 : Int32).toNatClampNeg 0))), (q30, .inr (9, [.ref q41, .ref q42, .int 3, .ref q43, .ref q44, .ref q45, .ref q46, .ref q47, .ref q48, .ref q49, .int 0, .ref q50, .ref q51, .ref q52, .int 0, .ref q53, .ref q54, .ref q55, .int 0])), (q31, .inr (10, [.ref q56, .ref q57, .ref q58, .ref q59, .ref q60, .ref q61, .ref q62, .int 0, .ref q63, .ref q64, .ref q65, .ref q66, .ref q67, .ref q68, .ref q69, .ref q70, .ref q71, .int 0, .int (-1)]))]) (z := 24) C kX0 dX0_check_21 0 rfl 3 (by decide) w_191 rfl rfl rfl rfl (Nat.le_of_ble_eq_true rfl) rfl rfl ?_
  refine g_aload_n (z := 25) C dX0_check_24 0 rfl rfl rfl ?_
  refine g_aload_n (z := 26) C dX0_check_25 1 rfl rfl rfl ?_
  refine g_getN (z := 29) C kX5 dX0_check_26 1 rfl 3 (by decide) nw_42 rfl rfl rfl ?_
  refine g_put (w2 := [(q25, .inr (3, [.ref q3, .ref q30, .ref q31, .ref q32, .ref q33, .int 0, .int 0, .int 0, .int 0, .int 0, .int 0])), (q29, .inr (8, [.ref q30, .ref q31, .ref q32, .ref q33, .ref q34, .ref q35, .ref q36, .ref q37, .ref q38, .ref q39, .int 0, .int 0, .int 0, .ref q40, .int 0])), (q3, .inr (1, [.ref q4, .ref q5, .ref q6, .ref q7, .ref q8, .ref q9, .ref q10, .ref q11, .ref q12, .ref q13, .ref q14, .int 2])), (q8, .inl (gK X 0, 3016, .inl (upd (fun _ => 0) (1 : Int32).toNatClampNeg 0))), (q30, .inr (9, [.ref q41, .ref q42, .int 3, .ref q43, .ref q44, .ref q45, .ref q46, .ref q47, .ref q48, .ref q49, .int 0, .ref q50, .ref q51, .ref q52, .int 0, .ref q53, .ref q54, .ref q55, .int 0])), (q31, .inr (10, [.ref q56, .ref q57, .ref q58, .ref q59, .ref q60, .ref q61, .ref q62, .int 0, .ref q63, .ref q64, .ref q65, .ref q66, .ref q67, .ref q68, .ref q69, .ref q70, .ref q71, .int 0, .int (-1)]))]) (z := 32) C kX0 dX0_check_29 0 rfl 4 (by decide) w_192 rfl rfl rfl rfl (Nat.le_of_ble_eq_true rfl) rfl rfl ?_
  refine g_aload_n (z := 33) C dX0_check_32 0 rfl rfl rfl ?_
  refine g_ldc (v := 1073741824) (z := 35) C dX0_check_33 w_193 rfl ?_
  refine g_put (w2 := [(q25, .inr (3, [.ref q3, .ref q30, .ref q31, .ref q32, .ref q33, .int 1073741824, .int 0, .int 0, .int 0, .int 0, .int 0])), (q29, .inr (8, [.ref q30, .ref q31, .ref q32, .ref q33, .ref q34, .ref q35, .ref q36, .ref q37, .ref q38, .ref q39, .int 0, .int 0, .int 0, .ref q40, .int 0])), (q3, .inr (1, [.ref q4, .ref q5, .ref q6, .ref q7, .ref q8, .ref q9, .ref q10, .ref q11, .ref q12, .ref q13, .ref q14, .int 2])), (q8, .inl (gK X 0, 3016, .inl (upd (fun _ => 0) (1 : Int32).toNatClampNeg 0))), (q30, .inr (9, [.ref q41, .ref q42, .int 3, .ref q43, .ref q44, .ref q45, .ref q46, .ref q47, .ref q48, .ref q49, .int 0, .ref q50, .ref q51, .ref q52, .int 0, .ref q53, .ref q54, .ref q55, .int 0])), (q31, .inr (10, [.ref q56, .ref q57, .ref q58, .ref q59, .ref q60, .ref q61, .ref q62, .int 0, .ref q63, .ref q64, .ref q65, .ref q66, .ref q67, .ref q68, .ref q69, .ref q70, .ref q71, .int 0, .int (-1)]))]) (z := 38) C kX0 dX0_check_35 0 rfl 5 (by decide) w_194 rfl rfl rfl rfl (Nat.le_of_ble_eq_true rfl) rfl rfl ?_
  refine g_aload_n (z := 39) C dX0_check_38 0 rfl rfl rfl ?_
  refine g_get (z := 42) C kX0 dX0_check_39 0 rfl 0 (by decide) w_185 rfl rfl rfl ?_
  refine g_getN (z := 45) C kX8 dX0_check_42 2 rfl 4 (by decide) nw_43 rfl rfl rfl ?_
  refine g_iconst (v := 1) (z := 46) C dX0_check_45 (by decide) rfl ?_
  refine g_iald (v := 0) (z := 47) C dX0_check_46 3 rfl (by unfold vp_in; decide) pk_us rfl ?_
  refine g_istore_n (l2 := [(3, .int 0), (0, .ref q25), (1, .ref q29), (2, .int 0)]) (z := 48) C dX0_check_47 rfl (by decide) rfl rfl ?_
  refine g_aload_n (z := 49) C dX0_check_48 1 rfl rfl rfl ?_
  refine g_iload_n (z := 50) C dX0_check_49 0 rfl rfl rfl ?_
  refine g_callV (n := 1) (As := [.int 0]) (rest := []) (wr := [(q25, .inr (3, [.ref q3, .ref q30, .ref q31, .ref q32, .ref q33, .int 1073741824, .int 0, .int 0, .int 0, .int 0, .int 0])), (q29, .inr (8, [.ref q30, .ref q31, .ref q32, .ref q33, .ref q34, .ref q35, .ref q36, .ref q37, .ref q38, .ref q39, .int 0, .int 0, .int 0, .ref q40, .int 0])), (q3, .inr (1, [.ref q4, .ref q5, .ref q6, .ref q7, .ref q8, .ref q9, .ref q10, .ref q11, .ref q12, .ref q13, .ref q14, .int 2])), (q8, .inl (gK X 0, 3016, .inl (upd (fun _ => 0) (1 : Int32).toNatClampNeg 0))), (q30, .inr (9, [.ref q41, .ref q42, .int 3, .ref q43, .ref q44, .ref q45, .ref q46, .ref q47, .ref q48, .ref q49, .int 0, .ref q50, .ref q51, .ref q52, .int 0, .ref q53, .ref q54, .ref q55, .int 0])), (q31, .inr (10, [.ref q56, .ref q57, .ref q58, .ref q59, .ref q60, .ref q61, .ref q62, .int 0, .ref q63, .ref q64, .ref q65, .ref q66, .ref q67, .ref q68, .ref q69, .ref q70, .ref q71, .int 0, .int (-1)]))]) (a2 := 0) (b2 := 0) (z := 53) C hR (k_declareAll (gl X) (gD X) (gK X) q25) dX0_check_50 w_195 w_199 w_200 w_198 w_20 ⟨by decide +kernel, by decide +kernel, by decide +kernel⟩ [] [0, 1, 2, 3, 4, 5] rfl rfl rfl rfl rfl (by decide) ⟨(Nat.le_of_ble_eq_true rfl), (Nat.le_of_ble_eq_true rfl)⟩ rfl rfl (Nat.le_of_ble_eq_true rfl) (Nat.le_of_ble_eq_true rfl) (Nat.le_of_ble_eq_true rfl) rfl rfl 0 kX0 rfl rfl rfl rfl (fun v ws' hp => ?_)
  obtain ⟨rfl, rfl⟩ := hp
  refine g_ws (w2 := [(q25, .inr (3, [.ref q3, .ref q30, .ref q31, .ref q32, .ref q33, .int 1073741824, .int 0, .int 0, .int 0, .int 0, .int 0])), (q29, .inr (8, [.ref q30, .ref q31, .ref q32, .ref q33, .ref q34, .ref q35, .ref q36, .ref q37, .ref q38, .ref q39, .int 0, .int 0, .int 0, .ref q40, .int 0])), (q3, .inr (1, [.ref q4, .ref q5, .ref q6, .ref q7, .ref q8, .ref q9, .ref q10, .ref q11, .ref q12, .ref q13, .ref q14, .int 2])), (q8, .inl (gK X 0, 3016, .inl (upd (fun _ => 0) (1 : Int32).toNatClampNeg 0))), (q30, .inr (9, [.ref q41, .ref q42, .int 3, .ref q43, .ref q44, .ref q45, .ref q46, .ref q47, .ref q48, .ref q49, .int 0, .ref q50, .ref q51, .ref q52, .int 0, .ref q53, .ref q54, .ref q55, .int 0])), (q31, .inr (10, [.ref q56, .ref q57, .ref q58, .ref q59, .ref q60, .ref q61, .ref q62, .int 0, .ref q63, .ref q64, .ref q65, .ref q66, .ref q67, .ref q68, .ref q69, .ref q70, .ref q71, .int 0, .int (-1)]))]) rfl ?_
  refine g_st (s2 := []) rfl ?_
  refine g_iconst (v := 0) (z := 54) C dX0_check_53 (by decide) rfl ?_
  refine g_istore (l2 := [(4, .int 0), (3, .int 0), (0, .ref q25), (1, .ref q29), (2, .int 0)]) (z := 56) C dX0_check_54 (by decide) rfl rfl ?_
  refine g_iload_n (z := 57) C dX0_check_56 1 rfl rfl rfl ?_
  refine g_istore (l2 := [(5, .int 0), (4, .int 0), (3, .int 0), (0, .ref q25), (1, .ref q29), (2, .int 0)]) (z := 59) C dX0_check_57 (by decide) rfl rfl ?_
  refine g_iload (z := 61) C dX0_check_59 0 rfl rfl ?_
  refine g_if_eq_t (z := 106) C dX0_check_61 (by decide) (by decide) ?_
  refine g_aload_n (z := 107) C dX0_check_106 3 rfl rfl rfl ?_
  refine g_get (z := 110) C kX0 dX0_check_107 0 rfl 1 (by decide) w_189 rfl rfl rfl ?_
  refine g_callVN (n := 0) (As := []) (rest := []) (wr := [(q25, .inr (3, [.ref q3, .ref q30, .ref q31, .ref q32, .ref q33, .int 1073741824, .int 0, .int 0, .int 0, .int 0, .int 0])), (q29, .inr (8, [.ref q30, .ref q31, .ref q32, .ref q33, .ref q34, .ref q35, .ref q36, .ref q37, .ref q38, .ref q39, .int 0, .int 0, .int 0, .ref q40, .int 0])), (q3, .inr (1, [.ref q4, .ref q5, .ref q6, .ref q7, .ref q8, .ref q9, .ref q10, .ref q11, .ref q12, .ref q13, .ref q14, .int 2])), (q8, .inl (gK X 0, 3016, .inl (upd (fun _ => 0) (1 : Int32).toNatClampNeg 0))), (q31, .inr (10, [.ref q56, .ref q57, .ref q58, .ref q59, .ref q60, .ref q61, .ref q62, .int 0, .ref q63, .ref q64, .ref q65, .ref q66, .ref q67, .ref q68, .ref q69, .ref q70, .ref q71, .int 0, .int (-1)]))]) (a2 := 0) (b2 := 0) (z := 113) C hR (k_X9_measure (gl X) (gD X) (gK X) q30 q41 q42 q43 q44 q45 q46 q47 q48 q49 q50 q51 q52 q53 q54 q55) dX0_check_110 nw_46 w_310 w_311 w_309 w_256 ⟨by decide +kernel, by decide +kernel, by decide +kernel⟩ [4] [0, 1, 2, 3, 5] rfl rfl rfl rfl rfl (by decide) ⟨(Nat.le_of_ble_eq_true rfl), (Nat.le_of_ble_eq_true rfl)⟩ rfl rfl (Nat.le_of_ble_eq_true rfl) (Nat.le_of_ble_eq_true rfl) (Nat.le_of_ble_eq_true rfl) rfl rfl 4 kX9 rfl rfl rfl rfl (fun v ws' hp => ?_)
  obtain ⟨rfl, rfl⟩ := hp
  refine g_ws (w2 := [(q25, .inr (3, [.ref q3, .ref q30, .ref q31, .ref q32, .ref q33, .int 1073741824, .int 0, .int 0, .int 0, .int 0, .int 0])), (q29, .inr (8, [.ref q30, .ref q31, .ref q32, .ref q33, .ref q34, .ref q35, .ref q36, .ref q37, .ref q38, .ref q39, .int 0, .int 0, .int 0, .ref q40, .int 0])), (q3, .inr (1, [.ref q4, .ref q5, .ref q6, .ref q7, .ref q8, .ref q9, .ref q10, .ref q11, .ref q12, .ref q13, .ref q14, .int 2])), (q8, .inl (gK X 0, 3016, .inl (upd (fun _ => 0) (1 : Int32).toNatClampNeg 0))), (q31, .inr (10, [.ref q56, .ref q57, .ref q58, .ref q59, .ref q60, .ref q61, .ref q62, .int 0, .ref q63, .ref q64, .ref q65, .ref q66, .ref q67, .ref q68, .ref q69, .ref q70, .ref q71, .int 0, .int (-1)])), (q30, .inr (9, [.ref q41, .ref q42, .int 3, .ref q43, .ref q44, .ref q45, .ref q46, .ref q47, .ref q48, .ref q49, .int 0, .ref q50, .ref q51, .ref q52, .int 0, .ref q53, .ref q54, .ref q55, .int 0]))]) rfl ?_
  refine g_st (s2 := []) rfl ?_
  refine g_aload_n (z := 114) C dX0_check_113 3 rfl rfl rfl ?_
  refine g_iload_n (z := 115) C dX0_check_114 2 rfl rfl rfl ?_
  refine g_callV (n := 1) (As := [.int 0]) (rest := []) (wr := [(q25, .inr (3, [.ref q3, .ref q30, .ref q31, .ref q32, .ref q33, .int 1073741824, .int 0, .int 0, .int 0, .int 0, .int 0])), (q29, .inr (8, [.ref q30, .ref q31, .ref q32, .ref q33, .ref q34, .ref q35, .ref q36, .ref q37, .ref q38, .ref q39, .int 0, .int 0, .int 0, .ref q40, .int 0])), (q3, .inr (1, [.ref q4, .ref q5, .ref q6, .ref q7, .ref q8, .ref q9, .ref q10, .ref q11, .ref q12, .ref q13, .ref q14, .int 2])), (q8, .inl (gK X 0, 3016, .inl (upd (fun _ => 0) (1 : Int32).toNatClampNeg 0))), (q31, .inr (10, [.ref q56, .ref q57, .ref q58, .ref q59, .ref q60, .ref q61, .ref q62, .int 0, .ref q63, .ref q64, .ref q65, .ref q66, .ref q67, .ref q68, .ref q69, .ref q70, .ref q71, .int 0, .int (-1)])), (q30, .inr (9, [.ref q41, .ref q42, .int 3, .ref q43, .ref q44, .ref q45, .ref q46, .ref q47, .ref q48, .ref q49, .int 0, .ref q50, .ref q51, .ref q52, .int 0, .ref q53, .ref q54, .ref q55, .int 0]))]) (a2 := 0) (b2 := 0) (z := 118) C hR (k_measures (gl X) (gD X) (gK X) q25) dX0_check_115 w_196 w_202 w_203 w_201 w_20 ⟨by decide +kernel, by decide +kernel, by decide +kernel⟩ [] [0, 1, 2, 3, 4, 5] rfl rfl rfl rfl rfl (by decide) ⟨(Nat.le_of_ble_eq_true rfl), (Nat.le_of_ble_eq_true rfl)⟩ rfl rfl (Nat.le_of_ble_eq_true rfl) (Nat.le_of_ble_eq_true rfl) (Nat.le_of_ble_eq_true rfl) rfl rfl 0 kX0 rfl rfl rfl rfl (fun v ws' hp => ?_)
  obtain ⟨rfl, rfl⟩ := hp
  refine g_ws (w2 := [(q25, .inr (3, [.ref q3, .ref q30, .ref q31, .ref q32, .ref q33, .int 1073741824, .int 0, .int 0, .int 0, .int 0, .int 0])), (q29, .inr (8, [.ref q30, .ref q31, .ref q32, .ref q33, .ref q34, .ref q35, .ref q36, .ref q37, .ref q38, .ref q39, .int 0, .int 0, .int 0, .ref q40, .int 0])), (q3, .inr (1, [.ref q4, .ref q5, .ref q6, .ref q7, .ref q8, .ref q9, .ref q10, .ref q11, .ref q12, .ref q13, .ref q14, .int 2])), (q8, .inl (gK X 0, 3016, .inl (upd (fun _ => 0) (1 : Int32).toNatClampNeg 0))), (q31, .inr (10, [.ref q56, .ref q57, .ref q58, .ref q59, .ref q60, .ref q61, .ref q62, .int 0, .ref q63, .ref q64, .ref q65, .ref q66, .ref q67, .ref q68, .ref q69, .ref q70, .ref q71, .int 0, .int (-1)])), (q30, .inr (9, [.ref q41, .ref q42, .int 3, .ref q43, .ref q44, .ref q45, .ref q46, .ref q47, .ref q48, .ref q49, .int 0, .ref q50, .ref q51, .ref q52, .int 0, .ref q53, .ref q54, .ref q55, .int 0]))]) rfl ?_
  refine g_st (s2 := []) rfl ?_
  refine g_iconst (v := 0) (z := 119) C dX0_check_118 (by decide) rfl ?_
  refine g_istore (l2 := [(5, .int 0), (4, .int 0), (3, .int 0), (0, .ref q25), (1, .ref q29), (2, .int 0)]) (z := 121) C dX0_check_119 (by decide) rfl rfl ?_
  refine g_iload (z := 123) C dX0_check_121 0 rfl rfl ?_
  refine g_aload_n (z := 124) C dX0_check_123 3 rfl rfl rfl ?_
  refine g_get (z := 127) C kX0 dX0_check_124 0 rfl 2 (by decide) w_190 rfl rfl rfl ?_
  refine g_getN (z := 130) C kX2 dX0_check_127 4 rfl 17 (by decide) nw_47 rfl rfl rfl ?_
  refine g_icmp_ge_t (z := 145) C dX0_check_130 (by decide) (by decide) ?_
  refine g_iconst (v := 0) (z := 146) C dX0_check_145 (by decide) rfl ?_
  refine g_istore (l2 := [(5, .int 0), (4, .int 0), (3, .int 0), (0, .ref q25), (1, .ref q29), (2, .int 0)]) (z := 148) C dX0_check_146 (by decide) rfl rfl ?_
  refine g_iload (z := 150) C dX0_check_148 0 rfl rfl ?_
  refine g_aload_n (z := 151) C dX0_check_150 3 rfl rfl rfl ?_
  refine g_get (z := 154) C kX0 dX0_check_151 0 rfl 2 (by decide) w_190 rfl rfl rfl ?_
  refine g_getN (z := 157) C kX2 dX0_check_154 4 rfl 17 (by decide) nw_47 rfl rfl rfl ?_
  refine g_icmp_ge_t (z := 172) C dX0_check_157 (by decide) (by decide) ?_
  refine g_aload_n (z := 173) C dX0_check_172 3 rfl rfl rfl ?_
  refine g_iload_n (z := 174) C dX0_check_173 5 rfl rfl rfl ?_
  refine g_callV (n := 1) (As := [.int 0]) (rest := []) (wr := [(q29, .inr (8, [.ref q30, .ref q31, .ref q32, .ref q33, .ref q34, .ref q35, .ref q36, .ref q37, .ref q38, .ref q39, .int 0, .int 0, .int 0, .ref q40, .int 0])), (q3, .inr (1, [.ref q4, .ref q5, .ref q6, .ref q7, .ref q8, .ref q9, .ref q10, .ref q11, .ref q12, .ref q13, .ref q14, .int 2])), (q8, .inl (gK X 0, 3016, .inl (upd (fun _ => 0) (1 : Int32).toNatClampNeg 0))), (q30, .inr (9, [.ref q41, .ref q42, .int 3, .ref q43, .ref q44, .ref q45, .ref q46, .ref q47, .ref q48, .ref q49, .int 0, .ref q50, .ref q51, .ref q52, .int 0, .ref q53, .ref q54, .ref q55, .int 0]))]) (a2 := 0) (b2 := 0) (z := 177) C hR (k_mainFunction (gl X) (gD X) (gK X) q25 q3 q30 q31 q32 q33 q56 q57 q58 q59 q60 q61 q62 q63 q64 q65 q66 q67 q68 q69 q70 q71) dX0_check_174 w_197 w_206 w_207 w_205 w_20 ⟨by decide +kernel, by decide +kernel, by decide +kernel⟩ [0, 4] [1, 2, 3, 5] rfl rfl rfl rfl rfl (by decide) ⟨(Nat.le_of_ble_eq_true rfl), (Nat.le_of_ble_eq_true rfl)⟩ rfl rfl (Nat.le_of_ble_eq_true rfl) (Nat.le_of_ble_eq_true rfl) (Nat.le_of_ble_eq_true rfl) rfl rfl 0 kX0 rfl rfl rfl rfl (fun v ws' hp => ?_)
  obtain ⟨rfl, rfl⟩ := hp
  refine g_ws (w2 := [(q29, .inr (8, [.ref q30, .ref q31, .ref q32, .ref q33, .ref q34, .ref q35, .ref q36, .ref q37, .ref q38, .ref q39, .int 0, .int 0, .int 0, .ref q40, .int 0])), (q3, .inr (1, [.ref q4, .ref q5, .ref q6, .ref q7, .ref q8, .ref q9, .ref q10, .ref q11, .ref q12, .ref q13, .ref q14, .int 2])), (q8, .inl (gK X 0, 3016, .inl (upd (fun _ => 0) (1 : Int32).toNatClampNeg 0))), (q30, .inr (9, [.ref q41, .ref q42, .int 3, .ref q43, .ref q44, .ref q45, .ref q46, .ref q47, .ref q48, .ref q49, .int 0, .ref q50, .ref q51, .ref q52, .int 0, .ref q53, .ref q54, .ref q55, .int 0])), (q25, .inr (3, [.ref q3, .ref q30, .ref q31, .ref q32, .ref q33, .int 0, .int 0, .int 0, .int 0, .int 0, .int 0])), (q31, .inr (10, [.ref q56, .ref q57, .ref q58, .ref q59, .ref q60, .ref q61, .ref q62, .int 0, .ref q63, .ref q64, .ref q65, .ref q66, .ref q67, .ref q68, .ref q69, .ref q70, .ref q71, .int 0, .int (-1)]))]) rfl ?_
  refine g_st (s2 := []) rfl ?_
  refine g_aload_n (z := 178) C dX0_check_177 3 rfl rfl rfl ?_
  refine g_get (z := 181) C kX0 dX0_check_178 4 rfl 5 (by decide) w_194 rfl rfl rfl ?_
  refine g_ldc (v := 1073741824) (z := 183) C dX0_check_181 w_193 rfl ?_
  refine g_icmp_ne_t (z := 190) C dX0_check_183 (by decide) (by decide) ?_
  refine g_aload_n (z := 191) C dX0_check_190 3 rfl rfl rfl ?_
  refine g_get (z := 194) C kX0 dX0_check_191 4 rfl 5 (by decide) w_194 rfl rfl rfl ?_
  refine g_sub (w2 := [(q25, .inr (3, [.ref q3, .ref q30, .ref q31, .ref q32, .ref q33, .int 0, .int 0, .int 0, .int 0, .int 0, .int 0])), (q29, .inr (8, [.ref q30, .ref q31, .ref q32, .ref q33, .ref q34, .ref q35, .ref q36, .ref q37, .ref q38, .ref q39, .int 0, .int 0, .int 0, .ref q40, .int 0])), (q3, .inr (1, [.ref q4, .ref q5, .ref q6, .ref q7, .ref q8, .ref q9, .ref q10, .ref q11, .ref q12, .ref q13, .ref q14, .int 2])), (q8, .inl (gK X 0, 3016, .inl (upd (fun _ => 0) (1 : Int32).toNatClampNeg 0))), (q30, .inr (9, [.ref q41, .ref q42, .int 3, .ref q43, .ref q44, .ref q45, .ref q46, .ref q47, .ref q48, .ref q49, .int 0, .ref q50, .ref q51, .ref q52, .int 0, .ref q53, .ref q54, .ref q55, .int 0])), (q31, .inr (10, [.ref q56, .ref q57, .ref q58, .ref q59, .ref q60, .ref q61, .ref q62, .int 0, .ref q63, .ref q64, .ref q65, .ref q66, .ref q67, .ref q68, .ref q69, .ref q70, .ref q71, .int 0, .int (-1)]))]) [4, 0, 1, 2, 3, 5] rfl rfl rfl ?_
  exact g_iret C hQ dX0_check_194 rfl (Nat.le_of_ble_eq_true rfl) (Nat.le_of_ble_eq_true rfl) ⟨rfl, rfl⟩
set_option maxHeartbeats 4000000 in
set_option maxRecDepth 100000 in
/-- judgeTree(0): FAULT 2 -/
theorem k_judgeTree (l : Launch) (D : va_G) (K : KS) (h0 q1 q2 q3 q15 q25 q26 q27 q28 q29 q30 q31 q32 q33 q34 q35 q36 q37 q38 q39 q40 q4 q5 q6 q7 q8 q9 q10 q11 q12 q13 q14 q41 q42 q43 q44 q45 q46 q47 q48 q49 q50 q51 q52 q53 q54 q55 q56 q57 q58 q59 q60 q61 q62 q63 q64 q65 q66 q67 q68 q69 q70 q71 q72 q73 q74 q75 q76 q77 q78 q79 q80 q81 q82 q83 q84 q85 q86 q87 q88 q89 q90 q91 q92 q93 q94 q95 q96 q97 q98 : Nat) : Con l D K yX12_judgeTree cX12_judgeTree 3 (some .int) 4 83 0 0 [.ref h0, .int 0] [(h0, .inr (0, [.ref q1, .int 0, .ref q2, .int 0, .ref q3, .ref q15, .ref q25, .ref q26, .ref q27, .ref q28, .ref q29, .null, .int 0, .int 0, .int (-1), .int (-1), .int (-1)])), (q25, .inr (3, [.ref q3, .null, .null, .null, .null, .int 0, .int 0, .int 0, .int 0, .int 0, .int 0])), (q29, .inr (8, [.ref q30, .ref q31, .ref q32, .ref q33, .ref q34, .ref q35, .ref q36, .ref q37, .ref q38, .ref q39, .int 0, .int 0, .int 0, .ref q40, .int 0])), (q3, .inr (1, [.ref q4, .ref q5, .ref q6, .ref q7, .ref q8, .ref q9, .ref q10, .ref q11, .ref q12, .ref q13, .ref q14, .int 2])), (q8, .inl (K 0, 3016, .inl (upd (fun _ => 0) (1 : Int32).toNatClampNeg 0))), (q30, .inr (9, [.ref q41, .ref q42, .int 0, .ref q43, .ref q44, .ref q45, .ref q46, .ref q47, .ref q48, .ref q49, .int 0, .ref q50, .ref q51, .ref q52, .int 0, .ref q53, .ref q54, .ref q55, .int 0])), (q41, .inl (K 0, 1504, .inl (fun _ => 0))), (q31, .inr (10, [.ref q56, .ref q57, .ref q58, .ref q59, .ref q60, .ref q61, .ref q62, .int 0, .ref q63, .ref q64, .ref q65, .ref q66, .ref q67, .ref q68, .ref q69, .ref q70, .ref q71, .int 0, .int 0])), (q32, .inr (11, [.ref q72, .ref q73, .ref q74, .ref q75, .ref q76, .ref q77, .ref q78, .ref q79, .int 0, .ref q80, .ref q81, .int 0])), (q33, .inr (12, [.ref q82, .ref q83, .ref q84, .ref q85, .ref q86, .ref q87, .ref q88, .ref q89, .ref q90, .ref q91, .ref q92, .ref q93, .int 0, .ref q94, .ref q95, .ref q96, .int 0, .ref q97, .ref q98, .int 0]))] (fun v w => v = some (.int 2) ∧ w = [(h0, .inr (0, [.ref q1, .int 0, .ref q2, .int 0, .ref q3, .ref q15, .ref q25, .ref q26, .ref q27, .ref q28, .ref q29, .null, .int 0, .int 0, .int (-1), .int 0, .int (-1)])), (q25, .inr (3, [.ref q3, .ref q30, .ref q31, .ref q32, .ref q33, .int 0, .int 0, .int 0, .int 0, .int 0, .int 0])), (q29, .inr (8, [.ref q30, .ref q31, .ref q32, .ref q33, .ref q34, .ref q35, .ref q36, .ref q37, .ref q38, .ref q39, .int 0, .int 0, .int 0, .ref q40, .int 0])), (q3, .inr (1, [.ref q4, .ref q5, .ref q6, .ref q7, .ref q8, .ref q9, .ref q10, .ref q11, .ref q12, .ref q13, .ref q14, .int 2])), (q8, .inl (K 0, 3016, .inl (upd (fun _ => 0) (1 : Int32).toNatClampNeg 0))), (q30, .inr (9, [.ref q41, .ref q42, .int 3, .ref q43, .ref q44, .ref q45, .ref q46, .ref q47, .ref q48, .ref q49, .int 0, .ref q50, .ref q51, .ref q52, .int 0, .ref q53, .ref q54, .ref q55, .int 0])), (q41, .inl (K 0, 1504, .inl (upd (upd (upd (fun _ => 0) (0 : Int32).toNatClampNeg 0) (1 : Int32).toNatClampNeg 1) (2 : Int32).toNatClampNeg 2))), (q31, .inr (10, [.ref q56, .ref q57, .ref q58, .ref q59, .ref q60, .ref q61, .ref q62, .int 0, .ref q63, .ref q64, .ref q65, .ref q66, .ref q67, .ref q68, .ref q69, .ref q70, .ref q71, .int 0, .int (-1)])), (q32, .inr (11, [.ref q72, .ref q73, .ref q74, .ref q75, .ref q76, .ref q77, .ref q78, .ref q79, .int 0, .ref q80, .ref q81, .int 0])), (q33, .inr (12, [.ref q82, .ref q83, .ref q84, .ref q85, .ref q86, .ref q87, .ref q88, .ref q89, .ref q90, .ref q91, .ref q92, .ref q93, .int 0, .ref q94, .ref q95, .ref q96, .int 0, .ref q97, .ref q98, .int 0]))]) := by
  refine Con.of (by decide +kernel) (Nat.le_of_ble_eq_true rfl) ?_
  intro X hXl hXD hXK C hR hQ hnm
  subst hXl; subst hXD; subst hXK
  refine g_lv (l2 := [(0, .ref h0), (1, .int 0)]) [0, 1] rfl ?_
  refine g_aload_n (z := 1) C dX12_judgeTree_0 0 rfl rfl rfl ?_
  refine g_get (z := 4) C kX12 dX12_judgeTree_1 0 rfl 12 (by decide) w_56 rfl rfl rfl ?_
  refine g_if_eq_t (z := 25) C dX12_judgeTree_4 (by decide) (by decide) ?_
  refine g_aload_n (z := 26) C dX12_judgeTree_25 0 rfl rfl rfl ?_
  refine g_get (z := 29) C kX12 dX12_judgeTree_26 0 rfl 12 (by decide) w_56 rfl rfl rfl ?_
  refine g_if_eq_t (z := 39) C dX12_judgeTree_29 (by decide) (by decide) ?_
  refine g_aload_n (z := 40) C dX12_judgeTree_39 0 rfl rfl rfl ?_
  refine g_get (z := 43) C kX12 dX12_judgeTree_40 0 rfl 10 (by decide) w_37 rfl rfl rfl ?_
  refine g_astore_n (l2 := [(2, .ref q29), (0, .ref h0), (1, .int 0)]) (z := 44) C dX12_judgeTree_43 rfl (by decide) rfl rfl ?_
  refine g_aload_n (z := 45) C dX12_judgeTree_44 0 rfl rfl rfl ?_
  refine g_callVN (n := 0) (As := []) (rest := []) (wr := [(h0, .inr (0, [.ref q1, .int 0, .ref q2, .int 0, .ref q3, .ref q15, .ref q25, .ref q26, .ref q27, .ref q28, .ref q29, .null, .int 0, .int 0, .int (-1), .int (-1), .int (-1)])), (q25, .inr (3, [.ref q3, .null, .null, .null, .null, .int 0, .int 0, .int 0, .int 0, .int 0, .int 0])), (q3, .inr (1, [.ref q4, .ref q5, .ref q6, .ref q7, .ref q8, .ref q9, .ref q10, .ref q11, .ref q12, .ref q13, .ref q14, .int 2])), (q8, .inl (gK X 0, 3016, .inl (upd (fun _ => 0) (1 : Int32).toNatClampNeg 0)))]) (a2 := 0) (b2 := 0) (z := 48) C hR (k_X5_clear (gl X) (gD X) (gK X) q29 q30 q31 q32 q33 q34 q35 q36 q37 q38 q39 q40 q41 q42 q43 q44 q45 q46 q47 q48 q49 q50 q51 q52 q53 q54 q55 q56 q57 q58 q59 q60 q61 q62 q63 q64 q65 q66 q67 q68 q69 q70 q71 q72 q73 q74 q75 q76 q77 q78 q79 q80 q81 q82 q83 q84 q85 q86 q87 q88 q89 q90 q91 q92 q93 q94 q95 q96 q97 q98) dX12_judgeTree_45 nw_8 w_278 w_279 w_277 w_36 ⟨by decide +kernel, by decide +kernel, by decide +kernel⟩ [2, 5, 6, 7, 8, 9] [0, 1, 3, 4] rfl rfl rfl rfl rfl (by decide) ⟨(Nat.le_of_ble_eq_true rfl), (Nat.le_of_ble_eq_true rfl)⟩ rfl rfl (Nat.le_of_ble_eq_true rfl) (Nat.le_of_ble_eq_true rfl) (Nat.le_of_ble_eq_true rfl) rfl rfl 2 kX5 rfl rfl rfl rfl (fun v ws' hp => ?_)
  obtain ⟨rfl, rfl⟩ := hp
  refine g_ws (w2 := [(h0, .inr (0, [.ref q1, .int 0, .ref q2, .int 0, .ref q3, .ref q15, .ref q25, .ref q26, .ref q27, .ref q28, .ref q29, .null, .int 0, .int 0, .int (-1), .int (-1), .int (-1)])), (q25, .inr (3, [.ref q3, .null, .null, .null, .null, .int 0, .int 0, .int 0, .int 0, .int 0, .int 0])), (q3, .inr (1, [.ref q4, .ref q5, .ref q6, .ref q7, .ref q8, .ref q9, .ref q10, .ref q11, .ref q12, .ref q13, .ref q14, .int 2])), (q8, .inl (gK X 0, 3016, .inl (upd (fun _ => 0) (1 : Int32).toNatClampNeg 0))), (q29, .inr (8, [.ref q30, .ref q31, .ref q32, .ref q33, .ref q34, .ref q35, .ref q36, .ref q37, .ref q38, .ref q39, .int 0, .int 0, .int 0, .ref q40, .int 0])), (q30, .inr (9, [.ref q41, .ref q42, .int 3, .ref q43, .ref q44, .ref q45, .ref q46, .ref q47, .ref q48, .ref q49, .int 0, .ref q50, .ref q51, .ref q52, .int 0, .ref q53, .ref q54, .ref q55, .int 0])), (q41, .inl (gK X 0, 1504, .inl (upd (upd (upd (fun _ => 0) (0 : Int32).toNatClampNeg 0) (1 : Int32).toNatClampNeg 1) (2 : Int32).toNatClampNeg 2))), (q31, .inr (10, [.ref q56, .ref q57, .ref q58, .ref q59, .ref q60, .ref q61, .ref q62, .int 0, .ref q63, .ref q64, .ref q65, .ref q66, .ref q67, .ref q68, .ref q69, .ref q70, .ref q71, .int 0, .int (-1)])), (q32, .inr (11, [.ref q72, .ref q73, .ref q74, .ref q75, .ref q76, .ref q77, .ref q78, .ref q79, .int 0, .ref q80, .ref q81, .int 0])), (q33, .inr (12, [.ref q82, .ref q83, .ref q84, .ref q85, .ref q86, .ref q87, .ref q88, .ref q89, .ref q90, .ref q91, .ref q92, .ref q93, .int 0, .ref q94, .ref q95, .ref q96, .int 0, .ref q97, .ref q98, .int 0]))]) rfl ?_
  refine g_st (s2 := []) rfl ?_
  refine g_aload_n (z := 49) C dX12_judgeTree_48 1 rfl rfl rfl ?_
  refine g_aload_n (z := 50) C dX12_judgeTree_49 1 rfl rfl rfl ?_
  refine g_get (z := 53) C kX12 dX12_judgeTree_50 0 rfl 6 (by decide) w_21 rfl rfl rfl ?_
  refine g_aload_n (z := 54) C dX12_judgeTree_53 0 rfl rfl rfl ?_
  refine g_iload_n (z := 55) C dX12_judgeTree_54 2 rfl rfl rfl ?_
  refine g_callVN (n := 2) (As := [.ref q29, .int 0]) (rest := [.ref h0]) (wr := [(h0, .inr (0, [.ref q1, .int 0, .ref q2, .int 0, .ref q3, .ref q15, .ref q25, .ref q26, .ref q27, .ref q28, .ref q29, .null, .int 0, .int 0, .int (-1), .int (-1), .int (-1)])), (q41, .inl (gK X 0, 1504, .inl (upd (upd (upd (fun _ => 0) (0 : Int32).toNatClampNeg 0) (1 : Int32).toNatClampNeg 1) (2 : Int32).toNatClampNeg 2))), (q32, .inr (11, [.ref q72, .ref q73, .ref q74, .ref q75, .ref q76, .ref q77, .ref q78, .ref q79, .int 0, .ref q80, .ref q81, .int 0])), (q33, .inr (12, [.ref q82, .ref q83, .ref q84, .ref q85, .ref q86, .ref q87, .ref q88, .ref q89, .ref q90, .ref q91, .ref q92, .ref q93, .int 0, .ref q94, .ref q95, .ref q96, .int 0, .ref q97, .ref q98, .int 0]))]) (a2 := 0) (b2 := 0) (z := 58) C hR (k_check (gl X) (gD X) (gK X) q25 q3 q29 q30 q31 q32 q33 q34 q35 q36 q37 q38 q39 q40 q4 q5 q6 q7 q8 q9 q10 q11 q12 q13 q14 q41 q42 q43 q44 q45 q46 q47 q48 q49 q50 q51 q52 q53 q54 q55 q56 q57 q58 q59 q60 q61 q62 q63 q64 q65 q66 q67 q68 q69 q70 q71) dX12_judgeTree_55 nw_9 w_187 w_188 w_186 w_20 ⟨by decide +kernel, by decide +kernel, by decide +kernel⟩ [1, 4, 2, 3, 5, 7] [0, 6, 8, 9] rfl rfl rfl rfl rfl (by decide) ⟨(Nat.le_of_ble_eq_true rfl), (Nat.le_of_ble_eq_true rfl)⟩ rfl rfl (Nat.le_of_ble_eq_true rfl) (Nat.le_of_ble_eq_true rfl) (Nat.le_of_ble_eq_true rfl) rfl rfl 1 kX0 rfl rfl rfl rfl (fun v ws' hp => ?_)
  obtain ⟨rfl, rfl⟩ := hp
  refine g_ws (w2 := [(h0, .inr (0, [.ref q1, .int 0, .ref q2, .int 0, .ref q3, .ref q15, .ref q25, .ref q26, .ref q27, .ref q28, .ref q29, .null, .int 0, .int 0, .int (-1), .int (-1), .int (-1)])), (q41, .inl (gK X 0, 1504, .inl (upd (upd (upd (fun _ => 0) (0 : Int32).toNatClampNeg 0) (1 : Int32).toNatClampNeg 1) (2 : Int32).toNatClampNeg 2))), (q32, .inr (11, [.ref q72, .ref q73, .ref q74, .ref q75, .ref q76, .ref q77, .ref q78, .ref q79, .int 0, .ref q80, .ref q81, .int 0])), (q33, .inr (12, [.ref q82, .ref q83, .ref q84, .ref q85, .ref q86, .ref q87, .ref q88, .ref q89, .ref q90, .ref q91, .ref q92, .ref q93, .int 0, .ref q94, .ref q95, .ref q96, .int 0, .ref q97, .ref q98, .int 0])), (q25, .inr (3, [.ref q3, .ref q30, .ref q31, .ref q32, .ref q33, .int 0, .int 0, .int 0, .int 0, .int 0, .int 0])), (q29, .inr (8, [.ref q30, .ref q31, .ref q32, .ref q33, .ref q34, .ref q35, .ref q36, .ref q37, .ref q38, .ref q39, .int 0, .int 0, .int 0, .ref q40, .int 0])), (q3, .inr (1, [.ref q4, .ref q5, .ref q6, .ref q7, .ref q8, .ref q9, .ref q10, .ref q11, .ref q12, .ref q13, .ref q14, .int 2])), (q8, .inl (gK X 0, 3016, .inl (upd (fun _ => 0) (1 : Int32).toNatClampNeg 0))), (q30, .inr (9, [.ref q41, .ref q42, .int 3, .ref q43, .ref q44, .ref q45, .ref q46, .ref q47, .ref q48, .ref q49, .int 0, .ref q50, .ref q51, .ref q52, .int 0, .ref q53, .ref q54, .ref q55, .int 0])), (q31, .inr (10, [.ref q56, .ref q57, .ref q58, .ref q59, .ref q60, .ref q61, .ref q62, .int 0, .ref q63, .ref q64, .ref q65, .ref q66, .ref q67, .ref q68, .ref q69, .ref q70, .ref q71, .int 0, .int (-1)]))]) rfl ?_
  refine g_st (s2 := [.int 0, .ref h0]) rfl ?_
  refine g_put (w2 := [(h0, .inr (0, [.ref q1, .int 0, .ref q2, .int 0, .ref q3, .ref q15, .ref q25, .ref q26, .ref q27, .ref q28, .ref q29, .null, .int 0, .int 0, .int (-1), .int 0, .int (-1)])), (q41, .inl (gK X 0, 1504, .inl (upd (upd (upd (fun _ => 0) (0 : Int32).toNatClampNeg 0) (1 : Int32).toNatClampNeg 1) (2 : Int32).toNatClampNeg 2))), (q32, .inr (11, [.ref q72, .ref q73, .ref q74, .ref q75, .ref q76, .ref q77, .ref q78, .ref q79, .int 0, .ref q80, .ref q81, .int 0])), (q33, .inr (12, [.ref q82, .ref q83, .ref q84, .ref q85, .ref q86, .ref q87, .ref q88, .ref q89, .ref q90, .ref q91, .ref q92, .ref q93, .int 0, .ref q94, .ref q95, .ref q96, .int 0, .ref q97, .ref q98, .int 0])), (q25, .inr (3, [.ref q3, .ref q30, .ref q31, .ref q32, .ref q33, .int 0, .int 0, .int 0, .int 0, .int 0, .int 0])), (q29, .inr (8, [.ref q30, .ref q31, .ref q32, .ref q33, .ref q34, .ref q35, .ref q36, .ref q37, .ref q38, .ref q39, .int 0, .int 0, .int 0, .ref q40, .int 0])), (q3, .inr (1, [.ref q4, .ref q5, .ref q6, .ref q7, .ref q8, .ref q9, .ref q10, .ref q11, .ref q12, .ref q13, .ref q14, .int 2])), (q8, .inl (gK X 0, 3016, .inl (upd (fun _ => 0) (1 : Int32).toNatClampNeg 0))), (q30, .inr (9, [.ref q41, .ref q42, .int 3, .ref q43, .ref q44, .ref q45, .ref q46, .ref q47, .ref q48, .ref q49, .int 0, .ref q50, .ref q51, .ref q52, .int 0, .ref q53, .ref q54, .ref q55, .int 0])), (q31, .inr (10, [.ref q56, .ref q57, .ref q58, .ref q59, .ref q60, .ref q61, .ref q62, .int 0, .ref q63, .ref q64, .ref q65, .ref q66, .ref q67, .ref q68, .ref q69, .ref q70, .ref q71, .int 0, .int (-1)]))]) (z := 61) C kX12 dX12_judgeTree_58 0 rfl 15 (by decide) w_39 rfl rfl rfl rfl (Nat.le_of_ble_eq_true rfl) rfl rfl ?_
  refine g_aload_n (z := 62) C dX12_judgeTree_61 1 rfl rfl rfl ?_
  refine g_get (z := 65) C kX12 dX12_judgeTree_62 0 rfl 15 (by decide) w_39 rfl rfl rfl ?_
  refine g_if_lt_f (z := 68) 70 C dX12_judgeTree_65 (by decide) (by decide) rfl ?_
  refine g_iconst (v := 2) (z := 69) C dX12_judgeTree_68 (by decide) rfl ?_
  refine g_sub (w2 := [(h0, .inr (0, [.ref q1, .int 0, .ref q2, .int 0, .ref q3, .ref q15, .ref q25, .ref q26, .ref q27, .ref q28, .ref q29, .null, .int 0, .int 0, .int (-1), .int 0, .int (-1)])), (q25, .inr (3, [.ref q3, .ref q30, .ref q31, .ref q32, .ref q33, .int 0, .int 0, .int 0, .int 0, .int 0, .int 0])), (q29, .inr (8, [.ref q30, .ref q31, .ref q32, .ref q33, .ref q34, .ref q35, .ref q36, .ref q37, .ref q38, .ref q39, .int 0, .int 0, .int 0, .ref q40, .int 0])), (q3, .inr (1, [.ref q4, .ref q5, .ref q6, .ref q7, .ref q8, .ref q9, .ref q10, .ref q11, .ref q12, .ref q13, .ref q14, .int 2])), (q8, .inl (gK X 0, 3016, .inl (upd (fun _ => 0) (1 : Int32).toNatClampNeg 0))), (q30, .inr (9, [.ref q41, .ref q42, .int 3, .ref q43, .ref q44, .ref q45, .ref q46, .ref q47, .ref q48, .ref q49, .int 0, .ref q50, .ref q51, .ref q52, .int 0, .ref q53, .ref q54, .ref q55, .int 0])), (q41, .inl (gK X 0, 1504, .inl (upd (upd (upd (fun _ => 0) (0 : Int32).toNatClampNeg 0) (1 : Int32).toNatClampNeg 1) (2 : Int32).toNatClampNeg 2))), (q31, .inr (10, [.ref q56, .ref q57, .ref q58, .ref q59, .ref q60, .ref q61, .ref q62, .int 0, .ref q63, .ref q64, .ref q65, .ref q66, .ref q67, .ref q68, .ref q69, .ref q70, .ref q71, .int 0, .int (-1)])), (q32, .inr (11, [.ref q72, .ref q73, .ref q74, .ref q75, .ref q76, .ref q77, .ref q78, .ref q79, .int 0, .ref q80, .ref q81, .int 0])), (q33, .inr (12, [.ref q82, .ref q83, .ref q84, .ref q85, .ref q86, .ref q87, .ref q88, .ref q89, .ref q90, .ref q91, .ref q92, .ref q93, .int 0, .ref q94, .ref q95, .ref q96, .int 0, .ref q97, .ref q98, .int 0]))]) [0, 4, 5, 6, 7, 8, 1, 9, 2, 3] rfl rfl rfl ?_
  exact g_iret C hQ dX12_judgeTree_69 rfl (Nat.le_of_ble_eq_true rfl) (Nat.le_of_ble_eq_true rfl) ⟨rfl, rfl⟩
def aJ (n : Int32) : Int32 := if n = 0 then 2 else -1
theorem aJ_neg {n : Int32} (h : n < 0) : aJ n = -1 := if_neg (fun e => by rw [e] at h; exact absurd h (by decide))
theorem aJ_pos {n : Int32} (h : ¬ n ≤ 0) : aJ n = -1 := if_neg (fun e => h (by rw [e]; decide))
theorem aJ_zero {n : Int32} (h0 : ¬ n < 0) (h1 : n ≤ 0) : n = 0 := by
  rw [Int32.lt_iff_toInt_lt, Int32.toInt_zero] at h0
  rw [Int32.le_iff_toInt_le, Int32.toInt_zero] at h1
  exact Int32.toInt_inj.mp (by rw [Int32.toInt_zero]; omega)
set_option maxHeartbeats 4000000 in
set_option maxRecDepth 100000 in
/-- judge(n) of a fresh house -/
theorem k_judge (l : Launch) (D : va_G) (K : KS) (f24 : Nat → Int32) (h0 q1 q2 q3 q15 q25 q26 q27 q28 q29 q4 q5 q6 q7 q8 q9 q10 q11 q12 q13 q14 q16 q17 q18 q19 q20 q21 q22 q23 q30 q31 q32 q33 q34 q35 q36 q37 q38 q39 q40 q41 q42 q43 q44 q45 q46 q47 q48 q49 q50 q51 q52 q53 q54 q55 q56 q57 q58 q59 q60 q61 q62 q63 q64 q65 q66 q67 q68 q69 q70 q71 q72 q73 q74 q75 q76 q77 q78 q79 q80 q81 q82 q83 q84 q85 q86 q87 q88 q89 q90 q91 q92 q93 q94 q95 q96 q97 q98 : Nat) (n : Int32) : Con l D K yX12_judge cX12_judge 2 (some .int) 6 134 0 0 [.ref h0, .int n] [(h0, .inr (0, [.ref q1, .int 0, .ref q2, .int 0, .ref q3, .ref q15, .ref q25, .ref q26, .ref q27, .ref q28, .ref q29, .null, .int 0, .int 0, .int (-1), .int (-1), .int (-1)])), (q1, .inl (K 2, 3000, .inl (fun _ => 0))), (q2, .inl (K 1, 200, .inr (.inl (fun _ => 0)))), (q3, .inr (1, [.ref q4, .ref q5, .ref q6, .ref q7, .ref q8, .ref q9, .ref q10, .ref q11, .ref q12, .ref q13, .ref q14, .int 1])), (q4, .inl (K 0, 3016, .inl (fun _ => 0))), (q5, .inl (K 0, 3016, .inl (fun _ => 0))), (q6, .inl (K 0, 3016, .inl (fun _ => 0))), (q7, .inl (K 0, 3016, .inl (fun _ => 0))), (q8, .inl (K 0, 3016, .inl (fun _ => 0))), (q9, .inl (K 0, 3016, .inl (fun _ => 0))), (q10, .inl (K 0, 3016, .inl (fun _ => 0))), (q11, .inl (K 0, 3016, .inl (fun _ => 0))), (q12, .inl (K 1, 3016, .inr (.inl (fun _ => 0)))), (q13, .inl (K 0, 3016, .inl (fun _ => 0))), (q14, .inl (K 0, 3016, .inl (fun _ => 0))), (q15, .inr (2, [.ref q3, .ref q16, .ref q17, .ref q18, .ref q19, .ref q20, .int 0, .int 0, .int 0, .ref q21, .ref q22, .ref q23, .int 0, .int 0, .int 0, .int 0, .int 0, .int 0])), (q16, .inl (K 2, 3157, .inl (f24))), (q17, .inl (K 0, 1544, .inl (fun _ => 0))), (q18, .inl (K 0, 1544, .inl (fun _ => 0))), (q19, .inl (K 0, 1544, .inl (fun _ => 0))), (q20, .inl (K 0, 256, .inl (fun _ => 0))), (q21, .inl (K 0, 3001, .inl (fun _ => 0))), (q22, .inl (K 0, 3001, .inl (fun _ => 0))), (q25, .inr (3, [.ref q3, .null, .null, .null, .null, .int 0, .int 0, .int 0, .int 0, .int 0, .int 0])), (q26, .inr (4, [.ref q3, .null, .null, .null, .null, .null, .int 0, .int 0, .int 0, .int 0])), (q29, .inr (8, [.ref q30, .ref q31, .ref q32, .ref q33, .ref q34, .ref q35, .ref q36, .ref q37, .ref q38, .ref q39, .int 0, .int 0, .int 0, .ref q40, .int 0])), (q30, .inr (9, [.ref q41, .ref q42, .int 0, .ref q43, .ref q44, .ref q45, .ref q46, .ref q47, .ref q48, .ref q49, .int 0, .ref q50, .ref q51, .ref q52, .int 0, .ref q53, .ref q54, .ref q55, .int 0])), (q41, .inl (K 0, 1504, .inl (fun _ => 0))), (q31, .inr (10, [.ref q56, .ref q57, .ref q58, .ref q59, .ref q60, .ref q61, .ref q62, .int 0, .ref q63, .ref q64, .ref q65, .ref q66, .ref q67, .ref q68, .ref q69, .ref q70, .ref q71, .int 0, .int 0])), (q32, .inr (11, [.ref q72, .ref q73, .ref q74, .ref q75, .ref q76, .ref q77, .ref q78, .ref q79, .int 0, .ref q80, .ref q81, .int 0])), (q33, .inr (12, [.ref q82, .ref q83, .ref q84, .ref q85, .ref q86, .ref q87, .ref q88, .ref q89, .ref q90, .ref q91, .ref q92, .ref q93, .int 0, .ref q94, .ref q95, .ref q96, .int 0, .ref q97, .ref q98, .int 0]))] (fun v _ => v = some (.int (aJ n))) := by
  refine Con.of (by decide +kernel) (Nat.le_of_ble_eq_true rfl) ?_
  intro X hXl hXD hXK C hR hQ hnm
  subst hXl; subst hXD; subst hXK
  refine g_lv (l2 := [(0, .ref h0), (1, .int n)]) [0, 1] rfl ?_
  refine g_iload_n (z := 1) C dX12_judge_0 1 rfl rfl rfl ?_
  refine g_if_lt (z2 := 12) (z := 4) C dX12_judge_1 (by decide) rfl (fun h0n => ?_) (fun h0n => ?_)
  · refine g_iconst (v := (-1)) (z := 13) C dX12_judge_12 (by decide) rfl ?_
    exact g_iret C hQ dX12_judge_13 rfl (Nat.le_of_ble_eq_true rfl) (Nat.le_of_ble_eq_true rfl) (by rw [aJ_neg h0n])
  · refine g_iload_n (z := 5) C dX12_judge_4 1 rfl rfl rfl ?_
    refine g_aload_n (z := 6) C dX12_judge_5 0 rfl rfl rfl ?_
    refine g_get (z := 9) C kX12 dX12_judge_6 0 rfl 1 (by decide) w_44 rfl rfl rfl ?_
    refine g_icmp_le (z2 := 14) (z := 12) C dX12_judge_9 (by decide) rfl (fun h1n => ?_) (fun h1n => ?_)
    · have e0 : n = 0 := aJ_zero h0n h1n
      subst e0
      refine g_aload_n (z := 15) C dX12_judge_14 0 rfl rfl rfl ?_
      refine g_iconst (v := 0) (z := 16) C dX12_judge_15 (by decide) rfl ?_
      refine g_put (w2 := [(h0, .inr (0, [.ref q1, .int 0, .ref q2, .int 0, .ref q3, .ref q15, .ref q25, .ref q26, .ref q27, .ref q28, .ref q29, .null, .int 0, .int 0, .int (-1), .int (-1), .int (-1)])), (q1, .inl (gK X 2, 3000, .inl (fun _ => 0))), (q2, .inl (gK X 1, 200, .inr (.inl (fun _ => 0)))), (q3, .inr (1, [.ref q4, .ref q5, .ref q6, .ref q7, .ref q8, .ref q9, .ref q10, .ref q11, .ref q12, .ref q13, .ref q14, .int 1])), (q4, .inl (gK X 0, 3016, .inl (fun _ => 0))), (q5, .inl (gK X 0, 3016, .inl (fun _ => 0))), (q6, .inl (gK X 0, 3016, .inl (fun _ => 0))), (q7, .inl (gK X 0, 3016, .inl (fun _ => 0))), (q8, .inl (gK X 0, 3016, .inl (fun _ => 0))), (q9, .inl (gK X 0, 3016, .inl (fun _ => 0))), (q10, .inl (gK X 0, 3016, .inl (fun _ => 0))), (q11, .inl (gK X 0, 3016, .inl (fun _ => 0))), (q12, .inl (gK X 1, 3016, .inr (.inl (fun _ => 0)))), (q13, .inl (gK X 0, 3016, .inl (fun _ => 0))), (q14, .inl (gK X 0, 3016, .inl (fun _ => 0))), (q15, .inr (2, [.ref q3, .ref q16, .ref q17, .ref q18, .ref q19, .ref q20, .int 0, .int 0, .int 0, .ref q21, .ref q22, .ref q23, .int 0, .int 0, .int 0, .int 0, .int 0, .int 0])), (q16, .inl (gK X 2, 3157, .inl (f24))), (q17, .inl (gK X 0, 1544, .inl (fun _ => 0))), (q18, .inl (gK X 0, 1544, .inl (fun _ => 0))), (q19, .inl (gK X 0, 1544, .inl (fun _ => 0))), (q20, .inl (gK X 0, 256, .inl (fun _ => 0))), (q21, .inl (gK X 0, 3001, .inl (fun _ => 0))), (q22, .inl (gK X 0, 3001, .inl (fun _ => 0))), (q25, .inr (3, [.ref q3, .null, .null, .null, .null, .int 0, .int 0, .int 0, .int 0, .int 0, .int 0])), (q26, .inr (4, [.ref q3, .null, .null, .null, .null, .null, .int 0, .int 0, .int 0, .int 0])), (q29, .inr (8, [.ref q30, .ref q31, .ref q32, .ref q33, .ref q34, .ref q35, .ref q36, .ref q37, .ref q38, .ref q39, .int 0, .int 0, .int 0, .ref q40, .int 0])), (q30, .inr (9, [.ref q41, .ref q42, .int 0, .ref q43, .ref q44, .ref q45, .ref q46, .ref q47, .ref q48, .ref q49, .int 0, .ref q50, .ref q51, .ref q52, .int 0, .ref q53, .ref q54, .ref q55, .int 0])), (q41, .inl (gK X 0, 1504, .inl (fun _ => 0))), (q31, .inr (10, [.ref q56, .ref q57, .ref q58, .ref q59, .ref q60, .ref q61, .ref q62, .int 0, .ref q63, .ref q64, .ref q65, .ref q66, .ref q67, .ref q68, .ref q69, .ref q70, .ref q71, .int 0, .int 0])), (q32, .inr (11, [.ref q72, .ref q73, .ref q74, .ref q75, .ref q76, .ref q77, .ref q78, .ref q79, .int 0, .ref q80, .ref q81, .int 0])), (q33, .inr (12, [.ref q82, .ref q83, .ref q84, .ref q85, .ref q86, .ref q87, .ref q88, .ref q89, .ref q90, .ref q91, .ref q92, .ref q93, .int 0, .ref q94, .ref q95, .ref q96, .int 0, .ref q97, .ref q98, .int 0]))]) (z := 19) C kX12 dX12_judge_16 0 rfl 1 (by decide) w_44 rfl rfl rfl rfl (Nat.le_of_ble_eq_true rfl) rfl rfl ?_
      refine g_aload_n (z := 20) C dX12_judge_19 0 rfl rfl rfl ?_
      refine g_iconst (v := (-1)) (z := 21) C dX12_judge_20 (by decide) rfl ?_
      refine g_put (w2 := [(h0, .inr (0, [.ref q1, .int 0, .ref q2, .int 0, .ref q3, .ref q15, .ref q25, .ref q26, .ref q27, .ref q28, .ref q29, .null, .int 0, .int 0, .int (-1), .int (-1), .int (-1)])), (q1, .inl (gK X 2, 3000, .inl (fun _ => 0))), (q2, .inl (gK X 1, 200, .inr (.inl (fun _ => 0)))), (q3, .inr (1, [.ref q4, .ref q5, .ref q6, .ref q7, .ref q8, .ref q9, .ref q10, .ref q11, .ref q12, .ref q13, .ref q14, .int 1])), (q4, .inl (gK X 0, 3016, .inl (fun _ => 0))), (q5, .inl (gK X 0, 3016, .inl (fun _ => 0))), (q6, .inl (gK X 0, 3016, .inl (fun _ => 0))), (q7, .inl (gK X 0, 3016, .inl (fun _ => 0))), (q8, .inl (gK X 0, 3016, .inl (fun _ => 0))), (q9, .inl (gK X 0, 3016, .inl (fun _ => 0))), (q10, .inl (gK X 0, 3016, .inl (fun _ => 0))), (q11, .inl (gK X 0, 3016, .inl (fun _ => 0))), (q12, .inl (gK X 1, 3016, .inr (.inl (fun _ => 0)))), (q13, .inl (gK X 0, 3016, .inl (fun _ => 0))), (q14, .inl (gK X 0, 3016, .inl (fun _ => 0))), (q15, .inr (2, [.ref q3, .ref q16, .ref q17, .ref q18, .ref q19, .ref q20, .int 0, .int 0, .int 0, .ref q21, .ref q22, .ref q23, .int 0, .int 0, .int 0, .int 0, .int 0, .int 0])), (q16, .inl (gK X 2, 3157, .inl (f24))), (q17, .inl (gK X 0, 1544, .inl (fun _ => 0))), (q18, .inl (gK X 0, 1544, .inl (fun _ => 0))), (q19, .inl (gK X 0, 1544, .inl (fun _ => 0))), (q20, .inl (gK X 0, 256, .inl (fun _ => 0))), (q21, .inl (gK X 0, 3001, .inl (fun _ => 0))), (q22, .inl (gK X 0, 3001, .inl (fun _ => 0))), (q25, .inr (3, [.ref q3, .null, .null, .null, .null, .int 0, .int 0, .int 0, .int 0, .int 0, .int 0])), (q26, .inr (4, [.ref q3, .null, .null, .null, .null, .null, .int 0, .int 0, .int 0, .int 0])), (q29, .inr (8, [.ref q30, .ref q31, .ref q32, .ref q33, .ref q34, .ref q35, .ref q36, .ref q37, .ref q38, .ref q39, .int 0, .int 0, .int 0, .ref q40, .int 0])), (q30, .inr (9, [.ref q41, .ref q42, .int 0, .ref q43, .ref q44, .ref q45, .ref q46, .ref q47, .ref q48, .ref q49, .int 0, .ref q50, .ref q51, .ref q52, .int 0, .ref q53, .ref q54, .ref q55, .int 0])), (q41, .inl (gK X 0, 1504, .inl (fun _ => 0))), (q31, .inr (10, [.ref q56, .ref q57, .ref q58, .ref q59, .ref q60, .ref q61, .ref q62, .int 0, .ref q63, .ref q64, .ref q65, .ref q66, .ref q67, .ref q68, .ref q69, .ref q70, .ref q71, .int 0, .int 0])), (q32, .inr (11, [.ref q72, .ref q73, .ref q74, .ref q75, .ref q76, .ref q77, .ref q78, .ref q79, .int 0, .ref q80, .ref q81, .int 0])), (q33, .inr (12, [.ref q82, .ref q83, .ref q84, .ref q85, .ref q86, .ref q87, .ref q88, .ref q89, .ref q90, .ref q91, .ref q92, .ref q93, .int 0, .ref q94, .ref q95, .ref q96, .int 0, .ref q97, .ref q98, .int 0]))]) (z := 24) C kX12 dX12_judge_21 0 rfl 16 (by decide) w_40 rfl rfl rfl rfl (Nat.le_of_ble_eq_true rfl) rfl rfl ?_
      refine g_aload_n (z := 25) C dX12_judge_24 0 rfl rfl rfl ?_
      refine g_aload_n (z := 26) C dX12_judge_25 0 rfl rfl rfl ?_
      refine g_get (z := 29) C kX12 dX12_judge_26 0 rfl 5 (by decide) w_17 rfl rfl rfl ?_
      refine g_aload_n (z := 30) C dX12_judge_29 0 rfl rfl rfl ?_
      refine g_get (z := 33) C kX12 dX12_judge_30 0 rfl 0 (by decide) w_7 rfl rfl rfl ?_
      refine g_iload_n (z := 34) C dX12_judge_33 1 rfl rfl rfl ?_
      refine g_callVN (n := 2) (As := [.ref q1, .int 0]) (rest := [.ref h0]) (wr := [(h0, .inr (0, [.ref q1, .int 0, .ref q2, .int 0, .ref q3, .ref q15, .ref q25, .ref q26, .ref q27, .ref q28, .ref q29, .null, .int 0, .int 0, .int (-1), .int (-1), .int (-1)])), (q2, .inl (gK X 1, 200, .inr (.inl (fun _ => 0)))), (q25, .inr (3, [.ref q3, .null, .null, .null, .null, .int 0, .int 0, .int 0, .int 0, .int 0, .int 0])), (q26, .inr (4, [.ref q3, .null, .null, .null, .null, .null, .int 0, .int 0, .int 0, .int 0])), (q29, .inr (8, [.ref q30, .ref q31, .ref q32, .ref q33, .ref q34, .ref q35, .ref q36, .ref q37, .ref q38, .ref q39, .int 0, .int 0, .int 0, .ref q40, .int 0])), (q30, .inr (9, [.ref q41, .ref q42, .int 0, .ref q43, .ref q44, .ref q45, .ref q46, .ref q47, .ref q48, .ref q49, .int 0, .ref q50, .ref q51, .ref q52, .int 0, .ref q53, .ref q54, .ref q55, .int 0])), (q41, .inl (gK X 0, 1504, .inl (fun _ => 0))), (q31, .inr (10, [.ref q56, .ref q57, .ref q58, .ref q59, .ref q60, .ref q61, .ref q62, .int 0, .ref q63, .ref q64, .ref q65, .ref q66, .ref q67, .ref q68, .ref q69, .ref q70, .ref q71, .int 0, .int 0])), (q32, .inr (11, [.ref q72, .ref q73, .ref q74, .ref q75, .ref q76, .ref q77, .ref q78, .ref q79, .int 0, .ref q80, .ref q81, .int 0])), (q33, .inr (12, [.ref q82, .ref q83, .ref q84, .ref q85, .ref q86, .ref q87, .ref q88, .ref q89, .ref q90, .ref q91, .ref q92, .ref q93, .int 0, .ref q94, .ref q95, .ref q96, .int 0, .ref q97, .ref q98, .int 0]))]) (a2 := 0) (b2 := 0) (z := 37) C hR (k_read (gl X) (gD X) (gK X) q15 q3 q16 q17 q18 q19 q20 q21 q22 q23 q4 q5 q6 q7 q8 q9 q10 q11 q12 q13 q14 q1 f24 (fun _ => 0) (fun _ => 0) (fun _ => 0) (fun _ => 0) (fun _ => 0)) dX12_judge_34 nw_7 w_143 w_144 w_142 w_16 ⟨by decide +kernel, by decide +kernel, by decide +kernel⟩ [15, 16, 17, 18, 19, 20, 21, 22, 3, 4, 5, 6, 7, 8, 9, 10, 11, 12, 13, 14, 1] [0, 2, 23, 24, 25, 26, 27, 28, 29, 30] rfl rfl rfl rfl rfl (by decide) ⟨(Nat.le_of_ble_eq_true rfl), (Nat.le_of_ble_eq_true rfl)⟩ rfl rfl (Nat.le_of_ble_eq_true rfl) (Nat.le_of_ble_eq_true rfl) (Nat.le_of_ble_eq_true rfl) rfl rfl 15 kX6 rfl rfl rfl rfl (fun v ws' hp => ?_)
      obtain ⟨rfl, xn, f2, gS, gL, gN, gH, rfl⟩ := hp
      refine g_ws (w2 := [(h0, .inr (0, [.ref q1, .int 0, .ref q2, .int 0, .ref q3, .ref q15, .ref q25, .ref q26, .ref q27, .ref q28, .ref q29, .null, .int 0, .int 0, .int (-1), .int (-1), .int (-1)])), (q2, .inl (gK X 1, 200, .inr (.inl (fun _ => 0)))), (q25, .inr (3, [.ref q3, .null, .null, .null, .null, .int 0, .int 0, .int 0, .int 0, .int 0, .int 0])), (q26, .inr (4, [.ref q3, .null, .null, .null, .null, .null, .int 0, .int 0, .int 0, .int 0])), (q29, .inr (8, [.ref q30, .ref q31, .ref q32, .ref q33, .ref q34, .ref q35, .ref q36, .ref q37, .ref q38, .ref q39, .int 0, .int 0, .int 0, .ref q40, .int 0])), (q30, .inr (9, [.ref q41, .ref q42, .int 0, .ref q43, .ref q44, .ref q45, .ref q46, .ref q47, .ref q48, .ref q49, .int 0, .ref q50, .ref q51, .ref q52, .int 0, .ref q53, .ref q54, .ref q55, .int 0])), (q41, .inl (gK X 0, 1504, .inl (fun _ => 0))), (q31, .inr (10, [.ref q56, .ref q57, .ref q58, .ref q59, .ref q60, .ref q61, .ref q62, .int 0, .ref q63, .ref q64, .ref q65, .ref q66, .ref q67, .ref q68, .ref q69, .ref q70, .ref q71, .int 0, .int 0])), (q32, .inr (11, [.ref q72, .ref q73, .ref q74, .ref q75, .ref q76, .ref q77, .ref q78, .ref q79, .int 0, .ref q80, .ref q81, .int 0])), (q33, .inr (12, [.ref q82, .ref q83, .ref q84, .ref q85, .ref q86, .ref q87, .ref q88, .ref q89, .ref q90, .ref q91, .ref q92, .ref q93, .int 0, .ref q94, .ref q95, .ref q96, .int 0, .ref q97, .ref q98, .int 0])), (q15, .inr (2, [.ref q3, .ref q16, .ref q17, .ref q18, .ref q19, .ref q20, .int xn, .int 157, .int 157, .ref q21, .ref q22, .ref q23, .int 1, .int 0, .int 0, .int 0, .int 0, .int (-1)])), (q16, .inl (gK X 2, 3157, .inl (f2))), (q17, .inl (gK X 0, 1544, .inl (gS))), (q18, .inl (gK X 0, 1544, .inl (gL))), (q19, .inl (gK X 0, 1544, .inl (gN))), (q20, .inl (gK X 0, 256, .inl (gH))), (q21, .inl (gK X 0, 3001, .inl (upd (fun _ => 0) (0 : Int32).toNatClampNeg 0))), (q22, .inl (gK X 0, 3001, .inl (upd (fun _ => 0) (0 : Int32).toNatClampNeg 0))), (q3, .inr (1, [.ref q4, .ref q5, .ref q6, .ref q7, .ref q8, .ref q9, .ref q10, .ref q11, .ref q12, .ref q13, .ref q14, .int 2])), (q4, .inl (gK X 0, 3016, .inl (upd (fun _ => 0) (1 : Int32).toNatClampNeg 300))), (q5, .inl (gK X 0, 3016, .inl (upd (fun _ => 0) (1 : Int32).toNatClampNeg 0))), (q6, .inl (gK X 0, 3016, .inl (upd (fun _ => 0) (1 : Int32).toNatClampNeg 0))), (q7, .inl (gK X 0, 3016, .inl (upd (fun _ => 0) (1 : Int32).toNatClampNeg 0))), (q8, .inl (gK X 0, 3016, .inl (upd (fun _ => 0) (1 : Int32).toNatClampNeg 0))), (q9, .inl (gK X 0, 3016, .inl (upd (fun _ => 0) (1 : Int32).toNatClampNeg 0))), (q10, .inl (gK X 0, 3016, .inl (upd (fun _ => 0) (1 : Int32).toNatClampNeg 0))), (q11, .inl (gK X 0, 3016, .inl (upd (fun _ => 0) (1 : Int32).toNatClampNeg 0))), (q12, .inl (gK X 1, 3016, .inr (.inl (vp_updL (fun _ => 0) (1 : Int32).toNatClampNeg 0)))), (q13, .inl (gK X 0, 3016, .inl (upd (fun _ => 0) (1 : Int32).toNatClampNeg 0))), (q14, .inl (gK X 0, 3016, .inl (upd (fun _ => 0) (1 : Int32).toNatClampNeg 0))), (q1, .inl (gK X 2, 3000, .inl (fun _ => 0)))]) rfl ?_
      refine g_st (s2 := [.int (-1), .ref h0]) rfl ?_
      refine g_put (w2 := [(h0, .inr (0, [.ref q1, .int 0, .ref q2, .int 0, .ref q3, .ref q15, .ref q25, .ref q26, .ref q27, .ref q28, .ref q29, .null, .int 0, .int 0, .int (-1), .int (-1), .int (-1)])), (q2, .inl (gK X 1, 200, .inr (.inl (fun _ => 0)))), (q25, .inr (3, [.ref q3, .null, .null, .null, .null, .int 0, .int 0, .int 0, .int 0, .int 0, .int 0])), (q26, .inr (4, [.ref q3, .null, .null, .null, .null, .null, .int 0, .int 0, .int 0, .int 0])), (q29, .inr (8, [.ref q30, .ref q31, .ref q32, .ref q33, .ref q34, .ref q35, .ref q36, .ref q37, .ref q38, .ref q39, .int 0, .int 0, .int 0, .ref q40, .int 0])), (q30, .inr (9, [.ref q41, .ref q42, .int 0, .ref q43, .ref q44, .ref q45, .ref q46, .ref q47, .ref q48, .ref q49, .int 0, .ref q50, .ref q51, .ref q52, .int 0, .ref q53, .ref q54, .ref q55, .int 0])), (q41, .inl (gK X 0, 1504, .inl (fun _ => 0))), (q31, .inr (10, [.ref q56, .ref q57, .ref q58, .ref q59, .ref q60, .ref q61, .ref q62, .int 0, .ref q63, .ref q64, .ref q65, .ref q66, .ref q67, .ref q68, .ref q69, .ref q70, .ref q71, .int 0, .int 0])), (q32, .inr (11, [.ref q72, .ref q73, .ref q74, .ref q75, .ref q76, .ref q77, .ref q78, .ref q79, .int 0, .ref q80, .ref q81, .int 0])), (q33, .inr (12, [.ref q82, .ref q83, .ref q84, .ref q85, .ref q86, .ref q87, .ref q88, .ref q89, .ref q90, .ref q91, .ref q92, .ref q93, .int 0, .ref q94, .ref q95, .ref q96, .int 0, .ref q97, .ref q98, .int 0])), (q15, .inr (2, [.ref q3, .ref q16, .ref q17, .ref q18, .ref q19, .ref q20, .int xn, .int 157, .int 157, .ref q21, .ref q22, .ref q23, .int 1, .int 0, .int 0, .int 0, .int 0, .int (-1)])), (q16, .inl (gK X 2, 3157, .inl (f2))), (q17, .inl (gK X 0, 1544, .inl (gS))), (q18, .inl (gK X 0, 1544, .inl (gL))), (q19, .inl (gK X 0, 1544, .inl (gN))), (q20, .inl (gK X 0, 256, .inl (gH))), (q21, .inl (gK X 0, 3001, .inl (upd (fun _ => 0) (0 : Int32).toNatClampNeg 0))), (q22, .inl (gK X 0, 3001, .inl (upd (fun _ => 0) (0 : Int32).toNatClampNeg 0))), (q3, .inr (1, [.ref q4, .ref q5, .ref q6, .ref q7, .ref q8, .ref q9, .ref q10, .ref q11, .ref q12, .ref q13, .ref q14, .int 2])), (q4, .inl (gK X 0, 3016, .inl (upd (fun _ => 0) (1 : Int32).toNatClampNeg 300))), (q5, .inl (gK X 0, 3016, .inl (upd (fun _ => 0) (1 : Int32).toNatClampNeg 0))), (q6, .inl (gK X 0, 3016, .inl (upd (fun _ => 0) (1 : Int32).toNatClampNeg 0))), (q7, .inl (gK X 0, 3016, .inl (upd (fun _ => 0) (1 : Int32).toNatClampNeg 0))), (q8, .inl (gK X 0, 3016, .inl (upd (fun _ => 0) (1 : Int32).toNatClampNeg 0))), (q9, .inl (gK X 0, 3016, .inl (upd (fun _ => 0) (1 : Int32).toNatClampNeg 0))), (q10, .inl (gK X 0, 3016, .inl (upd (fun _ => 0) (1 : Int32).toNatClampNeg 0))), (q11, .inl (gK X 0, 3016, .inl (upd (fun _ => 0) (1 : Int32).toNatClampNeg 0))), (q12, .inl (gK X 1, 3016, .inr (.inl (vp_updL (fun _ => 0) (1 : Int32).toNatClampNeg 0)))), (q13, .inl (gK X 0, 3016, .inl (upd (fun _ => 0) (1 : Int32).toNatClampNeg 0))), (q14, .inl (gK X 0, 3016, .inl (upd (fun _ => 0) (1 : Int32).toNatClampNeg 0))), (q1, .inl (gK X 2, 3000, .inl (fun _ => 0)))]) (z := 40) C kX12 dX12_judge_37 0 rfl 15 (by decide) w_39 rfl rfl rfl rfl (Nat.le_of_ble_eq_true rfl) rfl rfl ?_
      refine g_aload_n (z := 41) C dX12_judge_40 0 rfl rfl rfl ?_
      refine g_aload_n (z := 42) C dX12_judge_41 0 rfl rfl rfl ?_
      refine g_get (z := 45) C kX12 dX12_judge_42 0 rfl 15 (by decide) w_39 rfl rfl rfl ?_
      refine g_if_lt_t (z := 52) C dX12_judge_45 (by decide) (by decide) ?_
      refine g_aload_n (z := 53) C dX12_judge_52 0 rfl rfl rfl ?_
      refine g_iload_n (z := 54) C dX12_judge_53 1 rfl rfl rfl ?_
      refine g_callV (n := 1) (As := [.int 0]) (rest := [.ref h0]) (wr := [(q2, .inl (gK X 1, 200, .inr (.inl (fun _ => 0)))), (q26, .inr (4, [.ref q3, .null, .null, .null, .null, .null, .int 0, .int 0, .int 0, .int 0])), (q15, .inr (2, [.ref q3, .ref q16, .ref q17, .ref q18, .ref q19, .ref q20, .int xn, .int 157, .int 157, .ref q21, .ref q22, .ref q23, .int 1, .int 0, .int 0, .int 0, .int 0, .int (-1)])), (q16, .inl (gK X 2, 3157, .inl (f2))), (q17, .inl (gK X 0, 1544, .inl (gS))), (q18, .inl (gK X 0, 1544, .inl (gL))), (q19, .inl (gK X 0, 1544, .inl (gN))), (q20, .inl (gK X 0, 256, .inl (gH))), (q21, .inl (gK X 0, 3001, .inl (upd (fun _ => 0) (0 : Int32).toNatClampNeg 0))), (q22, .inl (gK X 0, 3001, .inl (upd (fun _ => 0) (0 : Int32).toNatClampNeg 0))), (q4, .inl (gK X 0, 3016, .inl (upd (fun _ => 0) (1 : Int32).toNatClampNeg 300))), (q5, .inl (gK X 0, 3016, .inl (upd (fun _ => 0) (1 : Int32).toNatClampNeg 0))), (q6, .inl (gK X 0, 3016, .inl (upd (fun _ => 0) (1 : Int32).toNatClampNeg 0))), (q7, .inl (gK X 0, 3016, .inl (upd (fun _ => 0) (1 : Int32).toNatClampNeg 0))), (q9, .inl (gK X 0, 3016, .inl (upd (fun _ => 0) (1 : Int32).toNatClampNeg 0))), (q10, .inl (gK X 0, 3016, .inl (upd (fun _ => 0) (1 : Int32).toNatClampNeg 0))), (q11, .inl (gK X 0, 3016, .inl (upd (fun _ => 0) (1 : Int32).toNatClampNeg 0))), (q12, .inl (gK X 1, 3016, .inr (.inl (vp_updL (fun _ => 0) (1 : Int32).toNatClampNeg 0)))), (q13, .inl (gK X 0, 3016, .inl (upd (fun _ => 0) (1 : Int32).toNatClampNeg 0))), (q14, .inl (gK X 0, 3016, .inl (upd (fun _ => 0) (1 : Int32).toNatClampNeg 0))), (q1, .inl (gK X 2, 3000, .inl (fun _ => 0)))]) (a2 := 0) (b2 := 0) (z := 57) C hR (k_judgeTree (gl X) (gD X) (gK X) h0 q1 q2 q3 q15 q25 q26 q27 q28 q29 q30 q31 q32 q33 q34 q35 q36 q37 q38 q39 q40 q4 q5 q6 q7 q8 q9 q10 q11 q12 q13 q14 q41 q42 q43 q44 q45 q46 q47 q48 q49 q50 q51 q52 q53 q54 q55 q56 q57 q58 q59 q60 q61 q62 q63 q64 q65 q66 q67 q68 q69 q70 q71 q72 q73 q74 q75 q76 q77 q78 q79 q80 q81 q82 q83 q84 q85 q86 q87 q88 q89 q90 q91 q92 q93 q94 q95 q96 q97 q98) dX12_judge_54 w_52 w_54 w_55 w_53 w_3 ⟨by decide +kernel, by decide +kernel, by decide +kernel⟩ [0, 2, 4, 18, 23, 5, 6, 7, 8, 9] [1, 3, 10, 11, 12, 13, 14, 15, 16, 17, 19, 20, 21, 22, 24, 25, 26, 27, 28, 29, 30] rfl rfl rfl rfl rfl (by decide) ⟨(Nat.le_of_ble_eq_true rfl), (Nat.le_of_ble_eq_true rfl)⟩ rfl rfl (Nat.le_of_ble_eq_true rfl) (Nat.le_of_ble_eq_true rfl) (Nat.le_of_ble_eq_true rfl) rfl rfl 0 kX12 rfl rfl rfl rfl (fun v ws' hp => ?_)
      obtain ⟨rfl, rfl⟩ := hp
      refine g_ws (w2 := [(q2, .inl (gK X 1, 200, .inr (.inl (fun _ => 0)))), (q26, .inr (4, [.ref q3, .null, .null, .null, .null, .null, .int 0, .int 0, .int 0, .int 0])), (q15, .inr (2, [.ref q3, .ref q16, .ref q17, .ref q18, .ref q19, .ref q20, .int xn, .int 157, .int 157, .ref q21, .ref q22, .ref q23, .int 1, .int 0, .int 0, .int 0, .int 0, .int (-1)])), (q16, .inl (gK X 2, 3157, .inl (f2))), (q17, .inl (gK X 0, 1544, .inl (gS))), (q18, .inl (gK X 0, 1544, .inl (gL))), (q19, .inl (gK X 0, 1544, .inl (gN))), (q20, .inl (gK X 0, 256, .inl (gH))), (q21, .inl (gK X 0, 3001, .inl (upd (fun _ => 0) (0 : Int32).toNatClampNeg 0))), (q22, .inl (gK X 0, 3001, .inl (upd (fun _ => 0) (0 : Int32).toNatClampNeg 0))), (q4, .inl (gK X 0, 3016, .inl (upd (fun _ => 0) (1 : Int32).toNatClampNeg 300))), (q5, .inl (gK X 0, 3016, .inl (upd (fun _ => 0) (1 : Int32).toNatClampNeg 0))), (q6, .inl (gK X 0, 3016, .inl (upd (fun _ => 0) (1 : Int32).toNatClampNeg 0))), (q7, .inl (gK X 0, 3016, .inl (upd (fun _ => 0) (1 : Int32).toNatClampNeg 0))), (q9, .inl (gK X 0, 3016, .inl (upd (fun _ => 0) (1 : Int32).toNatClampNeg 0))), (q10, .inl (gK X 0, 3016, .inl (upd (fun _ => 0) (1 : Int32).toNatClampNeg 0))), (q11, .inl (gK X 0, 3016, .inl (upd (fun _ => 0) (1 : Int32).toNatClampNeg 0))), (q12, .inl (gK X 1, 3016, .inr (.inl (vp_updL (fun _ => 0) (1 : Int32).toNatClampNeg 0)))), (q13, .inl (gK X 0, 3016, .inl (upd (fun _ => 0) (1 : Int32).toNatClampNeg 0))), (q14, .inl (gK X 0, 3016, .inl (upd (fun _ => 0) (1 : Int32).toNatClampNeg 0))), (q1, .inl (gK X 2, 3000, .inl (fun _ => 0))), (h0, .inr (0, [.ref q1, .int 0, .ref q2, .int 0, .ref q3, .ref q15, .ref q25, .ref q26, .ref q27, .ref q28, .ref q29, .null, .int 0, .int 0, .int (-1), .int 0, .int (-1)])), (q25, .inr (3, [.ref q3, .ref q30, .ref q31, .ref q32, .ref q33, .int 0, .int 0, .int 0, .int 0, .int 0, .int 0])), (q29, .inr (8, [.ref q30, .ref q31, .ref q32, .ref q33, .ref q34, .ref q35, .ref q36, .ref q37, .ref q38, .ref q39, .int 0, .int 0, .int 0, .ref q40, .int 0])), (q3, .inr (1, [.ref q4, .ref q5, .ref q6, .ref q7, .ref q8, .ref q9, .ref q10, .ref q11, .ref q12, .ref q13, .ref q14, .int 2])), (q8, .inl (gK X 0, 3016, .inl (upd (fun _ => 0) (1 : Int32).toNatClampNeg 0))), (q30, .inr (9, [.ref q41, .ref q42, .int 3, .ref q43, .ref q44, .ref q45, .ref q46, .ref q47, .ref q48, .ref q49, .int 0, .ref q50, .ref q51, .ref q52, .int 0, .ref q53, .ref q54, .ref q55, .int 0])), (q41, .inl (gK X 0, 1504, .inl (upd (upd (upd (fun _ => 0) (0 : Int32).toNatClampNeg 0) (1 : Int32).toNatClampNeg 1) (2 : Int32).toNatClampNeg 2))), (q31, .inr (10, [.ref q56, .ref q57, .ref q58, .ref q59, .ref q60, .ref q61, .ref q62, .int 0, .ref q63, .ref q64, .ref q65, .ref q66, .ref q67, .ref q68, .ref q69, .ref q70, .ref q71, .int 0, .int (-1)])), (q32, .inr (11, [.ref q72, .ref q73, .ref q74, .ref q75, .ref q76, .ref q77, .ref q78, .ref q79, .int 0, .ref q80, .ref q81, .int 0])), (q33, .inr (12, [.ref q82, .ref q83, .ref q84, .ref q85, .ref q86, .ref q87, .ref q88, .ref q89, .ref q90, .ref q91, .ref q92, .ref q93, .int 0, .ref q94, .ref q95, .ref q96, .int 0, .ref q97, .ref q98, .int 0]))]) rfl ?_
      refine g_st (s2 := [.int 2, .ref h0]) rfl ?_
      refine g_put (w2 := [(q2, .inl (gK X 1, 200, .inr (.inl (fun _ => 0)))), (q26, .inr (4, [.ref q3, .null, .null, .null, .null, .null, .int 0, .int 0, .int 0, .int 0])), (q15, .inr (2, [.ref q3, .ref q16, .ref q17, .ref q18, .ref q19, .ref q20, .int xn, .int 157, .int 157, .ref q21, .ref q22, .ref q23, .int 1, .int 0, .int 0, .int 0, .int 0, .int (-1)])), (q16, .inl (gK X 2, 3157, .inl (f2))), (q17, .inl (gK X 0, 1544, .inl (gS))), (q18, .inl (gK X 0, 1544, .inl (gL))), (q19, .inl (gK X 0, 1544, .inl (gN))), (q20, .inl (gK X 0, 256, .inl (gH))), (q21, .inl (gK X 0, 3001, .inl (upd (fun _ => 0) (0 : Int32).toNatClampNeg 0))), (q22, .inl (gK X 0, 3001, .inl (upd (fun _ => 0) (0 : Int32).toNatClampNeg 0))), (q4, .inl (gK X 0, 3016, .inl (upd (fun _ => 0) (1 : Int32).toNatClampNeg 300))), (q5, .inl (gK X 0, 3016, .inl (upd (fun _ => 0) (1 : Int32).toNatClampNeg 0))), (q6, .inl (gK X 0, 3016, .inl (upd (fun _ => 0) (1 : Int32).toNatClampNeg 0))), (q7, .inl (gK X 0, 3016, .inl (upd (fun _ => 0) (1 : Int32).toNatClampNeg 0))), (q9, .inl (gK X 0, 3016, .inl (upd (fun _ => 0) (1 : Int32).toNatClampNeg 0))), (q10, .inl (gK X 0, 3016, .inl (upd (fun _ => 0) (1 : Int32).toNatClampNeg 0))), (q11, .inl (gK X 0, 3016, .inl (upd (fun _ => 0) (1 : Int32).toNatClampNeg 0))), (q12, .inl (gK X 1, 3016, .inr (.inl (vp_updL (fun _ => 0) (1 : Int32).toNatClampNeg 0)))), (q13, .inl (gK X 0, 3016, .inl (upd (fun _ => 0) (1 : Int32).toNatClampNeg 0))), (q14, .inl (gK X 0, 3016, .inl (upd (fun _ => 0) (1 : Int32).toNatClampNeg 0))), (q1, .inl (gK X 2, 3000, .inl (fun _ => 0))), (h0, .inr (0, [.ref q1, .int 0, .ref q2, .int 0, .ref q3, .ref q15, .ref q25, .ref q26, .ref q27, .ref q28, .ref q29, .null, .int 0, .int 0, .int 2, .int 0, .int (-1)])), (q25, .inr (3, [.ref q3, .ref q30, .ref q31, .ref q32, .ref q33, .int 0, .int 0, .int 0, .int 0, .int 0, .int 0])), (q29, .inr (8, [.ref q30, .ref q31, .ref q32, .ref q33, .ref q34, .ref q35, .ref q36, .ref q37, .ref q38, .ref q39, .int 0, .int 0, .int 0, .ref q40, .int 0])), (q3, .inr (1, [.ref q4, .ref q5, .ref q6, .ref q7, .ref q8, .ref q9, .ref q10, .ref q11, .ref q12, .ref q13, .ref q14, .int 2])), (q8, .inl (gK X 0, 3016, .inl (upd (fun _ => 0) (1 : Int32).toNatClampNeg 0))), (q30, .inr (9, [.ref q41, .ref q42, .int 3, .ref q43, .ref q44, .ref q45, .ref q46, .ref q47, .ref q48, .ref q49, .int 0, .ref q50, .ref q51, .ref q52, .int 0, .ref q53, .ref q54, .ref q55, .int 0])), (q41, .inl (gK X 0, 1504, .inl (upd (upd (upd (fun _ => 0) (0 : Int32).toNatClampNeg 0) (1 : Int32).toNatClampNeg 1) (2 : Int32).toNatClampNeg 2))), (q31, .inr (10, [.ref q56, .ref q57, .ref q58, .ref q59, .ref q60, .ref q61, .ref q62, .int 0, .ref q63, .ref q64, .ref q65, .ref q66, .ref q67, .ref q68, .ref q69, .ref q70, .ref q71, .int 0, .int (-1)])), (q32, .inr (11, [.ref q72, .ref q73, .ref q74, .ref q75, .ref q76, .ref q77, .ref q78, .ref q79, .int 0, .ref q80, .ref q81, .int 0])), (q33, .inr (12, [.ref q82, .ref q83, .ref q84, .ref q85, .ref q86, .ref q87, .ref q88, .ref q89, .ref q90, .ref q91, .ref q92, .ref q93, .int 0, .ref q94, .ref q95, .ref q96, .int 0, .ref q97, .ref q98, .int 0]))]) (z := 60) C kX12 dX12_judge_57 21 rfl 14 (by decide) w_38 rfl rfl rfl rfl (Nat.le_of_ble_eq_true rfl) rfl rfl ?_
      refine g_aload_n (z := 61) C dX12_judge_60 0 rfl rfl rfl ?_
      refine g_get (z := 64) C kX12 dX12_judge_61 21 rfl 14 (by decide) w_38 rfl rfl rfl ?_
      refine g_if_ne_t (z := 76) C dX12_judge_64 (by decide) (by decide) ?_
      refine g_aload_n (z := 77) C dX12_judge_76 0 rfl rfl rfl ?_
      refine g_get (z := 80) C kX12 dX12_judge_77 21 rfl 14 (by decide) w_38 rfl rfl rfl ?_
      exact g_iret C hQ dX12_judge_80 rfl (Nat.le_of_ble_eq_true rfl) (Nat.le_of_ble_eq_true rfl) rfl
    · refine g_iconst (v := (-1)) (z := 13) C dX12_judge_12 (by decide) rfl ?_
      exact g_iret C hQ dX12_judge_13 rfl (Nat.le_of_ble_eq_true rfl) (Nat.le_of_ble_eq_true rfl) (by rw [aJ_pos h1n])
end
