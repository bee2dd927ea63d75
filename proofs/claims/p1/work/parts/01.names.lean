def TX12 : u_T := fun k => match k with
  | 0 => ("LoanHouse", "text", "[B", true)
  | 1 => ("LoanHouse", "textLength", "I", false)
  | 2 => ("LoanHouse", "given", "[J", true)
  | 3 => ("LoanHouse", "givenTotal", "I", false)
  | 4 => ("LoanHouse", "tree", "LLoanHouse$Tree;", true)
  | 5 => ("LoanHouse", "reader", "LLoanHouse$Reader;", true)
  | 6 => ("LoanHouse", "checker", "LLoanHouse$Checker;", true)
  | 7 => ("LoanHouse", "emitter", "LLoanHouse$Emitter;", true)
  | 8 => ("LoanHouse", "ways", "LLoanHouse$Ways;", true)
  | 9 => ("LoanHouse", "machine", "LLoanHouse$Machine;", true)
  | 10 => ("LoanHouse", "program", "LLoanHouse$Program;", false)
  | 11 => ("LoanHouse", "next", "LLoanHouse$Program;", false)
  | 12 => ("LoanHouse", "hasProgram", "Z", false)
  | 13 => ("LoanHouse", "hasRun", "Z", false)
  | 14 => ("LoanHouse", "faultKind", "I", false)
  | 15 => ("LoanHouse", "faultPlace", "I", false)
  | _ => ("LoanHouse", "faultOther", "I", false)
def tyX12 : Nat → FieldType := fun k => match k with
  | 0 => .array .byte
  | 1 => .int
  | 2 => .array .long
  | 3 => .int
  | 4 => .object "LoanHouse$Tree"
  | 5 => .object "LoanHouse$Reader"
  | 6 => .object "LoanHouse$Checker"
  | 7 => .object "LoanHouse$Emitter"
  | 8 => .object "LoanHouse$Ways"
  | 9 => .object "LoanHouse$Machine"
  | 10 => .object "LoanHouse$Program"
  | 11 => .object "LoanHouse$Program"
  | 12 => .boolean
  | 13 => .boolean
  | 14 => .int
  | 15 => .int
  | _ => .int
abbrev wsX120 : List Cond := u_ws "LoanHouse" TX12 17
theorem nmX12 : ∀ a, a < 17 → ∀ b, b < 17 → a ≠ b → (TX12 a).2.1 ≠ (TX12 b).2.1 := by decide +kernel
theorem tyX12_ok : ∀ k, k < 17 → parseFieldDescriptor (TX12 k).2.2.1 = some (tyX12 k) := by decide +kernel
def TX8 : u_T := fun k => match k with
  | 0 => ("LoanHouse$Tree", "kind", "[I", true)
  | 1 => ("LoanHouse$Tree", "pos", "[I", true)
  | 2 => ("LoanHouse$Tree", "from", "[I", true)
  | 3 => ("LoanHouse$Tree", "name", "[I", true)
  | 4 => ("LoanHouse$Tree", "a", "[I", true)
  | 5 => ("LoanHouse$Tree", "b", "[I", true)
  | 6 => ("LoanHouse$Tree", "c", "[I", true)
  | 7 => ("LoanHouse$Tree", "next", "[I", true)
  | 8 => ("LoanHouse$Tree", "value", "[J", true)
  | 9 => ("LoanHouse$Tree", "type", "[I", true)
  | 10 => ("LoanHouse$Tree", "ref", "[I", true)
  | _ => ("LoanHouse$Tree", "total", "I", false)
def tyX8 : Nat → FieldType := fun k => match k with
  | 0 => .array .int
  | 1 => .array .int
  | 2 => .array .int
  | 3 => .array .int
  | 4 => .array .int
  | 5 => .array .int
  | 6 => .array .int
  | 7 => .array .int
  | 8 => .array .long
  | 9 => .array .int
  | 10 => .array .int
  | _ => .int
abbrev wsX80 : List Cond := u_ws "LoanHouse$Tree" TX8 12
theorem nmX8 : ∀ a, a < 12 → ∀ b, b < 12 → a ≠ b → (TX8 a).2.1 ≠ (TX8 b).2.1 := by decide +kernel
theorem tyX8_ok : ∀ k, k < 12 → parseFieldDescriptor (TX8 k).2.2.1 = some (tyX8 k) := by decide +kernel
def TX6 : u_T := fun k => match k with
  | 0 => ("LoanHouse$Reader", "tree", "LLoanHouse$Tree;", true)
  | 1 => ("LoanHouse$Reader", "pool", "[B", true)
  | 2 => ("LoanHouse$Reader", "nameStart", "[I", true)
  | 3 => ("LoanHouse$Reader", "nameLength", "[I", true)
  | 4 => ("LoanHouse$Reader", "nameNext", "[I", true)
  | 5 => ("LoanHouse$Reader", "heads", "[I", true)
  | 6 => ("LoanHouse$Reader", "names", "I", false)
  | 7 => ("LoanHouse$Reader", "at", "I", false)
  | 8 => ("LoanHouse$Reader", "end", "I", false)
  | 9 => ("LoanHouse$Reader", "tokenKind", "[I", true)
  | 10 => ("LoanHouse$Reader", "tokenPos", "[I", true)
  | 11 => ("LoanHouse$Reader", "tokenValue", "[J", true)
  | 12 => ("LoanHouse$Reader", "tokens", "I", false)
  | 13 => ("LoanHouse$Reader", "current", "I", false)
  | 14 => ("LoanHouse$Reader", "kind", "I", false)
  | 15 => ("LoanHouse$Reader", "pos", "I", false)
  | 16 => ("LoanHouse$Reader", "open", "I", false)
  | _ => ("LoanHouse$Reader", "wrong", "I", false)
def tyX6 : Nat → FieldType := fun k => match k with
  | 0 => .object "LoanHouse$Tree"
  | 1 => .array .byte
  | 2 => .array .int
  | 3 => .array .int
  | 4 => .array .int
  | 5 => .array .int
  | 6 => .int
  | 7 => .int
  | 8 => .int
  | 9 => .array .int
  | 10 => .array .int
  | 11 => .array .long
  | 12 => .int
  | 13 => .int
  | 14 => .int
  | 15 => .int
  | 16 => .int
  | _ => .int
abbrev wsX60 : List Cond := u_ws "LoanHouse$Reader" TX6 18
theorem nmX6 : ∀ a, a < 18 → ∀ b, b < 18 → a ≠ b → (TX6 a).2.1 ≠ (TX6 b).2.1 := by decide +kernel
theorem tyX6_ok : ∀ k, k < 18 → parseFieldDescriptor (TX6 k).2.2.1 = some (tyX6 k) := by decide +kernel
def TX0 : u_T := fun k => match k with
  | 0 => ("LoanHouse$Checker", "tree", "LLoanHouse$Tree;", true)
  | 1 => ("LoanHouse$Checker", "types", "LLoanHouse$Types;", false)
  | 2 => ("LoanHouse$Checker", "functions", "LLoanHouse$Functions;", false)
  | 3 => ("LoanHouse$Checker", "variables", "LLoanHouse$Variables;", false)
  | 4 => ("LoanHouse$Checker", "places", "LLoanHouse$Places;", false)
  | 5 => ("LoanHouse$Checker", "least", "I", false)
  | 6 => ("LoanHouse$Checker", "fn", "I", false)
  | 7 => ("LoanHouse$Checker", "top", "I", false)
  | 8 => ("LoanHouse$Checker", "whiles", "I", false)
  | 9 => ("LoanHouse$Checker", "shared", "Z", false)
  | _ => ("LoanHouse$Checker", "movable", "Z", false)
def tyX0 : Nat → FieldType := fun k => match k with
  | 0 => .object "LoanHouse$Tree"
  | 1 => .object "LoanHouse$Types"
  | 2 => .object "LoanHouse$Functions"
  | 3 => .object "LoanHouse$Variables"
  | 4 => .object "LoanHouse$Places"
  | 5 => .int
  | 6 => .int
  | 7 => .int
  | 8 => .int
  | 9 => .boolean
  | _ => .boolean
abbrev wsX00 : List Cond := u_ws "LoanHouse$Checker" TX0 11
theorem nmX0 : ∀ a, a < 11 → ∀ b, b < 11 → a ≠ b → (TX0 a).2.1 ≠ (TX0 b).2.1 := by decide +kernel
theorem tyX0_ok : ∀ k, k < 11 → parseFieldDescriptor (TX0 k).2.2.1 = some (tyX0 k) := by decide +kernel
def TX1 : u_T := fun k => match k with
  | 0 => ("LoanHouse$Emitter", "tree", "LLoanHouse$Tree;", true)
  | 1 => ("LoanHouse$Emitter", "program", "LLoanHouse$Program;", false)
  | 2 => ("LoanHouse$Emitter", "types", "LLoanHouse$Types;", false)
  | 3 => ("LoanHouse$Emitter", "functions", "LLoanHouse$Functions;", false)
  | 4 => ("LoanHouse$Emitter", "variables", "LLoanHouse$Variables;", false)
  | 5 => ("LoanHouse$Emitter", "places", "LLoanHouse$Places;", false)
  | 6 => ("LoanHouse$Emitter", "top", "I", false)
  | 7 => ("LoanHouse$Emitter", "loopStart", "I", false)
  | 8 => ("LoanHouse$Emitter", "loopBreaks", "I", false)
  | _ => ("LoanHouse$Emitter", "loopOuter", "I", false)
def tyX1 : Nat → FieldType := fun k => match k with
  | 0 => .object "LoanHouse$Tree"
  | 1 => .object "LoanHouse$Program"
  | 2 => .object "LoanHouse$Types"
  | 3 => .object "LoanHouse$Functions"
  | 4 => .object "LoanHouse$Variables"
  | 5 => .object "LoanHouse$Places"
  | 6 => .int
  | 7 => .int
  | 8 => .int
  | _ => .int
abbrev wsX10 : List Cond := u_ws "LoanHouse$Emitter" TX1 10
theorem nmX1 : ∀ a, a < 10 → ∀ b, b < 10 → a ≠ b → (TX1 a).2.1 ≠ (TX1 b).2.1 := by decide +kernel
theorem tyX1_ok : ∀ k, k < 10 → parseFieldDescriptor (TX1 k).2.2.1 = some (tyX1 k) := by decide +kernel
def TX11 : u_T := fun k => match k with
  | 0 => ("LoanHouse$Ways", "program", "LLoanHouse$Program;", false)
  | 1 => ("LoanHouse$Ways", "functions", "LLoanHouse$Functions;", false)
  | 2 => ("LoanHouse$Ways", "variables", "LLoanHouse$Variables;", false)
  | 3 => ("LoanHouse$Ways", "places", "LLoanHouse$Places;", false)
  | 4 => ("LoanHouse$Ways", "fn", "I", false)
  | 5 => ("LoanHouse$Ways", "first", "I", false)
  | 6 => ("LoanHouse$Ways", "state", "[J", true)
  | 7 => ("LoanHouse$Ways", "come", "Z", false)
  | 8 => ("LoanHouse$Ways", "labelState", "[J", false)
  | 9 => ("LoanHouse$Ways", "labelCome", "[Z", false)
  | 10 => ("LoanHouse$Ways", "changed", "Z", false)
  | 11 => ("LoanHouse$Ways", "splits", "J", false)
  | 12 => ("LoanHouse$Ways", "temps", "[J", true)
  | 13 => ("LoanHouse$Ways", "depth", "I", false)
  | 14 => ("LoanHouse$Ways", "matched", "[J", true)
  | 15 => ("LoanHouse$Ways", "matchHolds", "J", false)
  | 16 => ("LoanHouse$Ways", "used", "[J", true)
  | 17 => ("LoanHouse$Ways", "met", "[Z", true)
  | 18 => ("LoanHouse$Ways", "straySlot", "I", false)
  | 19 => ("LoanHouse$Ways", "strayLeaf", "I", false)
  | 20 => ("LoanHouse$Ways", "clashPlace", "I", false)
  | _ => ("LoanHouse$Ways", "clashOther", "I", false)
def tyX11 : Nat → FieldType := fun k => match k with
  | 0 => .object "LoanHouse$Program"
  | 1 => .object "LoanHouse$Functions"
  | 2 => .object "LoanHouse$Variables"
  | 3 => .object "LoanHouse$Places"
  | 4 => .int
  | 5 => .int
  | 6 => .array .long
  | 7 => .boolean
  | 8 => .array .long
  | 9 => .array .boolean
  | 10 => .boolean
  | 11 => .long
  | 12 => .array .long
  | 13 => .int
  | 14 => .array .long
  | 15 => .long
  | 16 => .array .long
  | 17 => .array .boolean
  | 18 => .int
  | 19 => .int
  | 20 => .int
  | _ => .int
abbrev wsX110 : List Cond := u_ws "LoanHouse$Ways" TX11 22
theorem nmX11 : ∀ a, a < 22 → ∀ b, b < 22 → a ≠ b → (TX11 a).2.1 ≠ (TX11 b).2.1 := by decide +kernel
theorem tyX11_ok : ∀ k, k < 22 → parseFieldDescriptor (TX11 k).2.2.1 = some (tyX11 k) := by decide +kernel
def TX3 : u_T := fun k => match k with
  | 0 => ("LoanHouse$Machine", "store", "LLoanHouse$Store;", true)
  | 1 => ("LoanHouse$Machine", "program", "LLoanHouse$Program;", false)
  | 2 => ("LoanHouse$Machine", "types", "LLoanHouse$Types;", false)
  | 3 => ("LoanHouse$Machine", "functions", "LLoanHouse$Functions;", false)
  | 4 => ("LoanHouse$Machine", "variables", "LLoanHouse$Variables;", false)
  | 5 => ("LoanHouse$Machine", "places", "LLoanHouse$Places;", false)
  | 6 => ("LoanHouse$Machine", "fn", "I", false)
  | 7 => ("LoanHouse$Machine", "base", "I", false)
  | 8 => ("LoanHouse$Machine", "held", "J", false)
  | 9 => ("LoanHouse$Machine", "next", "I", false)
  | 10 => ("LoanHouse$Machine", "waiting", "[[J", true)
  | 11 => ("LoanHouse$Machine", "calls", "I", false)
  | 12 => ("LoanHouse$Machine", "parts", "[J", true)
  | 13 => ("LoanHouse$Machine", "given", "[J", false)
  | 14 => ("LoanHouse$Machine", "givenTotal", "I", false)
  | 15 => ("LoanHouse$Machine", "reads", "I", false)
  | 16 => ("LoanHouse$Machine", "steps", "I", false)
  | 17 => ("LoanHouse$Machine", "mostSteps", "I", false)
  | 18 => ("LoanHouse$Machine", "ended", "I", false)
  | 19 => ("LoanHouse$Machine", "why", "I", false)
  | _ => ("LoanHouse$Machine", "failedAt", "I", false)
def tyX3 : Nat → FieldType := fun k => match k with
  | 0 => .object "LoanHouse$Store"
  | 1 => .object "LoanHouse$Program"
  | 2 => .object "LoanHouse$Types"
  | 3 => .object "LoanHouse$Functions"
  | 4 => .object "LoanHouse$Variables"
  | 5 => .object "LoanHouse$Places"
  | 6 => .int
  | 7 => .int
  | 8 => .long
  | 9 => .int
  | 10 => .array (.array .long)
  | 11 => .int
  | 12 => .array .long
  | 13 => .array .long
  | 14 => .int
  | 15 => .int
  | 16 => .int
  | 17 => .int
  | 18 => .int
  | 19 => .int
  | _ => .int
abbrev wsX30 : List Cond := u_ws "LoanHouse$Machine" TX3 21
theorem nmX3 : ∀ a, a < 21 → ∀ b, b < 21 → a ≠ b → (TX3 a).2.1 ≠ (TX3 b).2.1 := by decide +kernel
theorem tyX3_ok : ∀ k, k < 21 → parseFieldDescriptor (TX3 k).2.2.1 = some (tyX3 k) := by decide +kernel
def TX7 : u_T := fun k => match k with
  | 0 => ("LoanHouse$Store", "types", "LLoanHouse$Types;", false)
  | 1 => ("LoanHouse$Store", "cells", "[J", false)
  | 2 => ("LoanHouse$Store", "top", "I", false)
  | 3 => ("LoanHouse$Store", "boxUsed", "[Z", true)
  | 4 => ("LoanHouse$Store", "boxes", "I", false)
  | 5 => ("LoanHouse$Store", "mostBoxes", "I", false)
  | 6 => ("LoanHouse$Store", "rowUsed", "[Z", true)
  | 7 => ("LoanHouse$Store", "rowLength", "[I", true)
  | 8 => ("LoanHouse$Store", "rows", "I", false)
  | 9 => ("LoanHouse$Store", "mostRows", "I", false)
  | 10 => ("LoanHouse$Store", "outKind", "[I", true)
  | 11 => ("LoanHouse$Store", "outNumber", "[J", true)
  | 12 => ("LoanHouse$Store", "outs", "I", false)
  | 13 => ("LoanHouse$Store", "made", "I", false)
  | 14 => ("LoanHouse$Store", "told", "I", false)
  | 15 => ("LoanHouse$Store", "strays", "I", false)
  | 16 => ("LoanHouse$Store", "twices", "I", false)
  | 17 => ("LoanHouse$Store", "dropType", "[I", true)
  | _ => ("LoanHouse$Store", "dropAt", "[I", true)
def tyX7 : Nat → FieldType := fun k => match k with
  | 0 => .object "LoanHouse$Types"
  | 1 => .array .long
  | 2 => .int
  | 3 => .array .boolean
  | 4 => .int
  | 5 => .int
  | 6 => .array .boolean
  | 7 => .array .int
  | 8 => .int
  | 9 => .int
  | 10 => .array .int
  | 11 => .array .long
  | 12 => .int
  | 13 => .int
  | 14 => .int
  | 15 => .int
  | 16 => .int
  | 17 => .array .int
  | _ => .array .int
abbrev wsX70 : List Cond := u_ws "LoanHouse$Store" TX7 19
theorem nmX7 : ∀ a, a < 19 → ∀ b, b < 19 → a ≠ b → (TX7 a).2.1 ≠ (TX7 b).2.1 := by decide +kernel
theorem tyX7_ok : ∀ k, k < 19 → parseFieldDescriptor (TX7 k).2.2.1 = some (tyX7 k) := by decide +kernel
def TX5 : u_T := fun k => match k with
  | 0 => ("LoanHouse$Program", "types", "LLoanHouse$Types;", true)
  | 1 => ("LoanHouse$Program", "functions", "LLoanHouse$Functions;", true)
  | 2 => ("LoanHouse$Program", "variables", "LLoanHouse$Variables;", true)
  | 3 => ("LoanHouse$Program", "places", "LLoanHouse$Places;", true)
  | 4 => ("LoanHouse$Program", "op", "[I", true)
  | 5 => ("LoanHouse$Program", "x", "[I", true)
  | 6 => ("LoanHouse$Program", "y", "[I", true)
  | 7 => ("LoanHouse$Program", "z", "[I", true)
  | 8 => ("LoanHouse$Program", "pos", "[I", true)
  | 9 => ("LoanHouse$Program", "label", "[I", true)
  | 10 => ("LoanHouse$Program", "slots", "I", false)
  | 11 => ("LoanHouse$Program", "labels", "I", false)
  | 12 => ("LoanHouse$Program", "matches", "I", false)
  | 13 => ("LoanHouse$Program", "order", "[I", true)
  | _ => ("LoanHouse$Program", "orders", "I", false)
def tyX5 : Nat → FieldType := fun k => match k with
  | 0 => .object "LoanHouse$Types"
  | 1 => .object "LoanHouse$Functions"
  | 2 => .object "LoanHouse$Variables"
  | 3 => .object "LoanHouse$Places"
  | 4 => .array .int
  | 5 => .array .int
  | 6 => .array .int
  | 7 => .array .int
  | 8 => .array .int
  | 9 => .array .int
  | 10 => .int
  | 11 => .int
  | 12 => .int
  | 13 => .array .int
  | _ => .int
abbrev wsX50 : List Cond := u_ws "LoanHouse$Program" TX5 15
theorem nmX5 : ∀ a, a < 15 → ∀ b, b < 15 → a ≠ b → (TX5 a).2.1 ≠ (TX5 b).2.1 := by decide +kernel
theorem tyX5_ok : ∀ k, k < 15 → parseFieldDescriptor (TX5 k).2.2.1 = some (tyX5 k) := by decide +kernel
def TX9 : u_T := fun k => match k with
  | 0 => ("LoanHouse$Types", "kind", "[I", true)
  | 1 => ("LoanHouse$Types", "arg", "[I", true)
  | 2 => ("LoanHouse$Types", "total", "I", false)
  | 3 => ("LoanHouse$Types", "declName", "[I", true)
  | 4 => ("LoanHouse$Types", "declForm", "[I", true)
  | 5 => ("LoanHouse$Types", "declFirst", "[I", true)
  | 6 => ("LoanHouse$Types", "declWidth", "[I", true)
  | 7 => ("LoanHouse$Types", "declCells", "[I", true)
  | 8 => ("LoanHouse$Types", "declParts", "[I", true)
  | 9 => ("LoanHouse$Types", "declLeaves", "[I", true)
  | 10 => ("LoanHouse$Types", "decls", "I", false)
  | 11 => ("LoanHouse$Types", "variantName", "[I", true)
  | 12 => ("LoanHouse$Types", "variantFirst", "[I", true)
  | 13 => ("LoanHouse$Types", "variantWidth", "[I", true)
  | 14 => ("LoanHouse$Types", "variants", "I", false)
  | 15 => ("LoanHouse$Types", "memberName", "[I", true)
  | 16 => ("LoanHouse$Types", "memberType", "[I", true)
  | 17 => ("LoanHouse$Types", "memberCell", "[I", true)
  | _ => ("LoanHouse$Types", "members", "I", false)
def tyX9 : Nat → FieldType := fun k => match k with
  | 0 => .array .int
  | 1 => .array .int
  | 2 => .int
  | 3 => .array .int
  | 4 => .array .int
  | 5 => .array .int
  | 6 => .array .int
  | 7 => .array .int
  | 8 => .array .int
  | 9 => .array .int
  | 10 => .int
  | 11 => .array .int
  | 12 => .array .int
  | 13 => .array .int
  | 14 => .int
  | 15 => .array .int
  | 16 => .array .int
  | 17 => .array .int
  | _ => .int
abbrev wsX90 : List Cond := u_ws "LoanHouse$Types" TX9 19
theorem nmX9 : ∀ a, a < 19 → ∀ b, b < 19 → a ≠ b → (TX9 a).2.1 ≠ (TX9 b).2.1 := by decide +kernel
theorem tyX9_ok : ∀ k, k < 19 → parseFieldDescriptor (TX9 k).2.2.1 = some (tyX9 k) := by decide +kernel
def TX2 : u_T := fun k => match k with
  | 0 => ("LoanHouse$Functions", "name", "[I", true)
  | 1 => ("LoanHouse$Functions", "node", "[I", true)
  | 2 => ("LoanHouse$Functions", "result", "[I", true)
  | 3 => ("LoanHouse$Functions", "of", "[J", true)
  | 4 => ("LoanHouse$Functions", "params", "[I", true)
  | 5 => ("LoanHouse$Functions", "firstParam", "[I", true)
  | 6 => ("LoanHouse$Functions", "paramType", "[I", true)
  | 7 => ("LoanHouse$Functions", "paramTotal", "I", false)
  | 8 => ("LoanHouse$Functions", "firstVariable", "[I", true)
  | 9 => ("LoanHouse$Functions", "variables", "[I", true)
  | 10 => ("LoanHouse$Functions", "firstLeaf", "[I", true)
  | 11 => ("LoanHouse$Functions", "leaves", "[I", true)
  | 12 => ("LoanHouse$Functions", "splits", "[I", true)
  | 13 => ("LoanHouse$Functions", "firstLoan", "[I", true)
  | 14 => ("LoanHouse$Functions", "loans", "[I", true)
  | 15 => ("LoanHouse$Functions", "entry", "[I", true)
  | 16 => ("LoanHouse$Functions", "cells", "[I", true)
  | 17 => ("LoanHouse$Functions", "total", "I", false)
  | _ => ("LoanHouse$Functions", "main", "I", false)
def tyX2 : Nat → FieldType := fun k => match k with
  | 0 => .array .int
  | 1 => .array .int
  | 2 => .array .int
  | 3 => .array .long
  | 4 => .array .int
  | 5 => .array .int
  | 6 => .array .int
  | 7 => .int
  | 8 => .array .int
  | 9 => .array .int
  | 10 => .array .int
  | 11 => .array .int
  | 12 => .array .int
  | 13 => .array .int
  | 14 => .array .int
  | 15 => .array .int
  | 16 => .array .int
  | 17 => .int
  | _ => .int
abbrev wsX20 : List Cond := u_ws "LoanHouse$Functions" TX2 19
theorem nmX2 : ∀ a, a < 19 → ∀ b, b < 19 → a ≠ b → (TX2 a).2.1 ≠ (TX2 b).2.1 := by decide +kernel
theorem tyX2_ok : ∀ k, k < 19 → parseFieldDescriptor (TX2 k).2.2.1 = some (tyX2 k) := by decide +kernel
def TX10 : u_T := fun k => match k with
  | 0 => ("LoanHouse$Variables", "name", "[I", true)
  | 1 => ("LoanHouse$Variables", "pos", "[I", true)
  | 2 => ("LoanHouse$Variables", "type", "[I", true)
  | 3 => ("LoanHouse$Variables", "outer", "[I", true)
  | 4 => ("LoanHouse$Variables", "firstLeaf", "[I", true)
  | 5 => ("LoanHouse$Variables", "leafCount", "[I", true)
  | 6 => ("LoanHouse$Variables", "cell", "[I", true)
  | 7 => ("LoanHouse$Variables", "loans", "[J", true)
  | 8 => ("LoanHouse$Variables", "total", "I", false)
  | 9 => ("LoanHouse$Variables", "leafType", "[I", true)
  | 10 => ("LoanHouse$Variables", "leafCell", "[I", true)
  | _ => ("LoanHouse$Variables", "leaves", "I", false)
def tyX10 : Nat → FieldType := fun k => match k with
  | 0 => .array .int
  | 1 => .array .int
  | 2 => .array .int
  | 3 => .array .int
  | 4 => .array .int
  | 5 => .array .int
  | 6 => .array .int
  | 7 => .array .long
  | 8 => .int
  | 9 => .array .int
  | 10 => .array .int
  | _ => .int
abbrev wsX100 : List Cond := u_ws "LoanHouse$Variables" TX10 12
theorem nmX10 : ∀ a, a < 12 → ∀ b, b < 12 → a ≠ b → (TX10 a).2.1 ≠ (TX10 b).2.1 := by decide +kernel
theorem tyX10_ok : ∀ k, k < 12 → parseFieldDescriptor (TX10 k).2.2.1 = some (tyX10 k) := by decide +kernel
def TX4 : u_T := fun k => match k with
  | 0 => ("LoanHouse$Places", "pos", "[I", true)
  | 1 => ("LoanHouse$Places", "act", "[I", true)
  | 2 => ("LoanHouse$Places", "fn", "[I", true)
  | 3 => ("LoanHouse$Places", "variable", "[I", true)
  | 4 => ("LoanHouse$Places", "type", "[I", true)
  | 5 => ("LoanHouse$Places", "firstStep", "[I", true)
  | 6 => ("LoanHouse$Places", "steps", "[I", true)
  | 7 => ("LoanHouse$Places", "leaf", "[I", true)
  | 8 => ("LoanHouse$Places", "leaves", "[I", true)
  | 9 => ("LoanHouse$Places", "further", "[Z", true)
  | 10 => ("LoanHouse$Places", "come", "[Z", true)
  | 11 => ("LoanHouse$Places", "force", "[J", true)
  | 12 => ("LoanHouse$Places", "total", "I", false)
  | 13 => ("LoanHouse$Places", "stepKind", "[I", true)
  | 14 => ("LoanHouse$Places", "stepCell", "[I", true)
  | 15 => ("LoanHouse$Places", "stepPos", "[I", true)
  | 16 => ("LoanHouse$Places", "stepTotal", "I", false)
  | 17 => ("LoanHouse$Places", "loanPos", "[I", true)
  | 18 => ("LoanHouse$Places", "loanPlace", "[I", true)
  | _ => ("LoanHouse$Places", "loans", "I", false)
def tyX4 : Nat → FieldType := fun k => match k with
  | 0 => .array .int
  | 1 => .array .int
  | 2 => .array .int
  | 3 => .array .int
  | 4 => .array .int
  | 5 => .array .int
  | 6 => .array .int
  | 7 => .array .int
  | 8 => .array .int
  | 9 => .array .boolean
  | 10 => .array .boolean
  | 11 => .array .long
  | 12 => .int
  | 13 => .array .int
  | 14 => .array .int
  | 15 => .array .int
  | 16 => .int
  | 17 => .array .int
  | 18 => .array .int
  | _ => .int
abbrev wsX40 : List Cond := u_ws "LoanHouse$Places" TX4 20
theorem nmX4 : ∀ a, a < 20 → ∀ b, b < 20 → a ≠ b → (TX4 a).2.1 ≠ (TX4 b).2.1 := by decide +kernel
theorem tyX4_ok : ∀ k, k < 20 → parseFieldDescriptor (TX4 k).2.2.1 = some (tyX4 k) := by decide +kernel
def TX30 : u_T := fun k => match k with
  | 0 => ("LoanHouseModel", "text", "[B", true)
  | 1 => ("LoanHouseModel", "textSize", "I", false)
  | 2 => ("LoanHouseModel", "tokens", "I", false)
  | 3 => ("LoanHouseModel", "at", "I", false)
  | 4 => ("LoanHouseModel", "open", "I", false)
  | 5 => ("LoanHouseModel", "kindOf", "[I", true)
  | 6 => ("LoanHouseModel", "placeOf", "[I", true)
  | 7 => ("LoanHouseModel", "endOf", "[I", true)
  | 8 => ("LoanHouseModel", "wordOf", "[Ljava/lang/String;", true)
  | 9 => ("LoanHouseModel", "fault", "I", false)
  | 10 => ("LoanHouseModel", "faultPlace", "I", false)
  | 11 => ("LoanHouseModel", "otherPlace", "I", false)
  | 12 => ("LoanHouseModel", "late", "[Ljava/lang/String;", true)
  | 13 => ("LoanHouseModel", "builder", "Ljava/lang/StringBuilder;", true)
  | 14 => ("LoanHouseModel", "ones", "[Ljava/lang/String;", true)
  | 15 => ("LoanHouseModel", "program", "LLoanHouseModel$Program;", false)
  | 16 => ("LoanHouseModel", "inHand", "LLoanHouseModel$Fn;", false)
  | 17 => ("LoanHouseModel", "exps", "Ljava/util/ArrayList;", false)
  | 18 => ("LoanHouseModel", "takenExps", "Ljava/util/ArrayList;", false)
  | 19 => ("LoanHouseModel", "expsUsed", "I", false)
  | 20 => ("LoanHouseModel", "intType", "LLoanHouseModel$Type;", true)
  | 21 => ("LoanHouseModel", "boolType", "LLoanHouseModel$Type;", true)
  | 22 => ("LoanHouseModel", "scope", "Ljava/util/ArrayList;", true)
  | 23 => ("LoanHouseModel", "loops", "I", false)
  | 24 => ("LoanHouseModel", "nodes", "Ljava/util/ArrayList;", true)
  | 25 => ("LoanHouseModel", "tail", "LLoanHouseModel$Node;", false)
  | 26 => ("LoanHouseModel", "live", "Ljava/util/ArrayList;", true)
  | 27 => ("LoanHouseModel", "loopHead", "LLoanHouseModel$Node;", false)
  | 28 => ("LoanHouseModel", "loopExit", "LLoanHouseModel$Node;", false)
  | 29 => ("LoanHouseModel", "loopMark", "I", false)
  | 30 => ("LoanHouseModel", "allNodes", "Ljava/util/ArrayList;", false)
  | 31 => ("LoanHouseModel", "takenNodes", "Ljava/util/ArrayList;", false)
  | 32 => ("LoanHouseModel", "nodesUsed", "I", false)
  | 33 => ("LoanHouseModel", "all", "[J", false)
  | 34 => ("LoanHouseModel", "some", "[J", false)
  | 35 => ("LoanHouseModel", "used", "[J", false)
  | 36 => ("LoanHouseModel", "holds", "[J", false)
  | 37 => ("LoanHouseModel", "columns", "I", false)
  | 38 => ("LoanHouseModel", "column", "[I", true)
  | 39 => ("LoanHouseModel", "mark", "[Z", false)
  | 40 => ("LoanHouseModel", "now", "[J", false)
  | 41 => ("LoanHouseModel", "forces", "[J", true)
  | 42 => ("LoanHouseModel", "taken", "LLoanHouseModel$Program;", false)
  | 43 => ("LoanHouseModel", "entries", "Ljava/util/ArrayList;", true)
  | 44 => ("LoanHouseModel", "lastFault", "I", false)
  | 45 => ("LoanHouseModel", "lastPlace", "I", false)
  | 46 => ("LoanHouseModel", "lastOther", "I", false)
  | 47 => ("LoanHouseModel", "made", "Ljava/util/ArrayList;", true)
  | 48 => ("LoanHouseModel", "takenForces", "[J", true)
  | 49 => ("LoanHouseModel", "type", "[LLoanHouseModel$Type;", false)
  | 50 => ("LoanHouseModel", "num", "[J", false)
  | 51 => ("LoanHouseModel", "times", "[J", false)
  | 52 => ("LoanHouseModel", "tree", "[J", false)
  | 53 => ("LoanHouseModel", "kin", "[J", false)
  | 54 => ("LoanHouseModel", "by", "[J", false)
  | 55 => ("LoanHouseModel", "pool", "I", false)
  | 56 => ("LoanHouseModel", "spare", "I", false)
  | 57 => ("LoanHouseModel", "time", "J", false)
  | 58 => ("LoanHouseModel", "lentOf", "[I", false)
  | 59 => ("LoanHouseModel", "lends", "I", false)
  | 60 => ("LoanHouseModel", "strays", "I", false)
  | 61 => ("LoanHouseModel", "twices", "I", false)
  | 62 => ("LoanHouseModel", "clashes", "I", false)
  | 63 => ("LoanHouseModel", "lefts", "I", false)
  | 64 => ("LoanHouseModel", "heap", "[I", false)
  | 65 => ("LoanHouseModel", "heaped", "I", false)
  | 66 => ("LoanHouseModel", "outKind", "[I", true)
  | 67 => ("LoanHouseModel", "outNumber", "[J", true)
  | 68 => ("LoanHouseModel", "outs", "I", false)
  | 69 => ("LoanHouseModel", "toldMade", "I", false)
  | 70 => ("LoanHouseModel", "toldDropped", "I", false)
  | 71 => ("LoanHouseModel", "boxes", "I", false)
  | 72 => ("LoanHouseModel", "rows", "I", false)
  | 73 => ("LoanHouseModel", "mostBoxes", "I", false)
  | 74 => ("LoanHouseModel", "mostRows", "I", false)
  | 75 => ("LoanHouseModel", "renamed", "[I", false)
  | 76 => ("LoanHouseModel", "gave", "[J", true)
  | 77 => ("LoanHouseModel", "gaves", "I", false)
  | 78 => ("LoanHouseModel", "wasRun", "Z", false)
  | 79 => ("LoanHouseModel", "ended", "I", false)
  | 80 => ("LoanHouseModel", "failPlace", "I", false)
  | 81 => ("LoanHouseModel", "failWhy", "I", false)
  | 82 => ("LoanHouseModel", "steps", "I", false)
  | 83 => ("LoanHouseModel", "reads", "I", false)
  | 84 => ("LoanHouseModel", "stack", "[I", false)
  | 85 => ("LoanHouseModel", "high", "I", false)
  | 86 => ("LoanHouseModel", "calls", "I", false)
  | 87 => ("LoanHouseModel", "callFn", "[LLoanHouseModel$Fn;", true)
  | 88 => ("LoanHouseModel", "callBack", "[LLoanHouseModel$Node;", true)
  | 89 => ("LoanHouseModel", "callBase", "[I", true)
  | 90 => ("LoanHouseModel", "actives", "[I", true)
  | 91 => ("LoanHouseModel", "variable", "[I", true)
  | 92 => ("LoanHouseModel", "active", "[I", true)
  | 93 => ("LoanHouseModel", "doer", "I", false)
  | _ => ("LoanHouseModel", "keptParts", "[I", true)
def tyX30 : Nat → FieldType := fun k => match k with
  | 0 => .array .byte
  | 1 => .int
  | 2 => .int
  | 3 => .int
  | 4 => .int
  | 5 => .array .int
  | 6 => .array .int
  | 7 => .array .int
  | 8 => .array (.object "java/lang/String")
  | 9 => .int
  | 10 => .int
  | 11 => .int
  | 12 => .array (.object "java/lang/String")
  | 13 => .object "java/lang/StringBuilder"
  | 14 => .array (.object "java/lang/String")
  | 15 => .object "LoanHouseModel$Program"
  | 16 => .object "LoanHouseModel$Fn"
  | 17 => .object "java/util/ArrayList"
  | 18 => .object "java/util/ArrayList"
  | 19 => .int
  | 20 => .object "LoanHouseModel$Type"
  | 21 => .object "LoanHouseModel$Type"
  | 22 => .object "java/util/ArrayList"
  | 23 => .int
  | 24 => .object "java/util/ArrayList"
  | 25 => .object "LoanHouseModel$Node"
  | 26 => .object "java/util/ArrayList"
  | 27 => .object "LoanHouseModel$Node"
  | 28 => .object "LoanHouseModel$Node"
  | 29 => .int
  | 30 => .object "java/util/ArrayList"
  | 31 => .object "java/util/ArrayList"
  | 32 => .int
  | 33 => .array .long
  | 34 => .array .long
  | 35 => .array .long
  | 36 => .array .long
  | 37 => .int
  | 38 => .array .int
  | 39 => .array .boolean
  | 40 => .array .long
  | 41 => .array .long
  | 42 => .object "LoanHouseModel$Program"
  | 43 => .object "java/util/ArrayList"
  | 44 => .int
  | 45 => .int
  | 46 => .int
  | 47 => .object "java/util/ArrayList"
  | 48 => .array .long
  | 49 => .array (.object "LoanHouseModel$Type")
  | 50 => .array .long
  | 51 => .array .long
  | 52 => .array .long
  | 53 => .array .long
  | 54 => .array .long
  | 55 => .int
  | 56 => .int
  | 57 => .long
  | 58 => .array .int
  | 59 => .int
  | 60 => .int
  | 61 => .int
  | 62 => .int
  | 63 => .int
  | 64 => .array .int
  | 65 => .int
  | 66 => .array .int
  | 67 => .array .long
  | 68 => .int
  | 69 => .int
  | 70 => .int
  | 71 => .int
  | 72 => .int
  | 73 => .int
  | 74 => .int
  | 75 => .array .int
  | 76 => .array .long
  | 77 => .int
  | 78 => .boolean
  | 79 => .int
  | 80 => .int
  | 81 => .int
  | 82 => .int
  | 83 => .int
  | 84 => .array .int
  | 85 => .int
  | 86 => .int
  | 87 => .array (.object "LoanHouseModel$Fn")
  | 88 => .array (.object "LoanHouseModel$Node")
  | 89 => .array .int
  | 90 => .array .int
  | 91 => .array .int
  | 92 => .array .int
  | 93 => .int
  | _ => .array .int
abbrev wsX300 : List Cond := u_ws "LoanHouseModel" TX30 95
theorem nmX30 : ∀ a, a < 95 → ∀ b, b < 95 → a ≠ b → (TX30 a).2.1 ≠ (TX30 b).2.1 := by decide +kernel
theorem tyX30_ok : ∀ k, k < 95 → parseFieldDescriptor (TX30 k).2.2.1 = some (tyX30 k) := by decide +kernel
def TX26 : u_T := fun k => match k with
  | 0 => ("LoanHouseModel$Type", "kind", "I", true)
  | 1 => ("LoanHouseModel$Type", "item", "LLoanHouseModel$Item;", false)
  | _ => ("LoanHouseModel$Type", "of", "LLoanHouseModel$Type;", false)
def tyX26 : Nat → FieldType := fun k => match k with
  | 0 => .int
  | 1 => .object "LoanHouseModel$Item"
  | _ => .object "LoanHouseModel$Type"
abbrev wsX260 : List Cond := u_ws "LoanHouseModel$Type" TX26 3
theorem nmX26 : ∀ a, a < 3 → ∀ b, b < 3 → a ≠ b → (TX26 a).2.1 ≠ (TX26 b).2.1 := by decide +kernel
theorem tyX26_ok : ∀ k, k < 3 → parseFieldDescriptor (TX26 k).2.2.1 = some (tyX26 k) := by decide +kernel
def TX23 : u_T := fun k => match k with
  | 0 => ("LoanHouseModel$Program", "items", "Ljava/util/ArrayList;", true)
  | 1 => ("LoanHouseModel$Program", "fns", "Ljava/util/ArrayList;", true)
  | 2 => ("LoanHouseModel$Program", "places", "Ljava/util/ArrayList;", true)
  | _ => ("LoanHouseModel$Program", "loans", "Ljava/util/ArrayList;", true)
def tyX23 : Nat → FieldType := fun k => match k with
  | 0 => .object "java/util/ArrayList"
  | 1 => .object "java/util/ArrayList"
  | 2 => .object "java/util/ArrayList"
  | _ => .object "java/util/ArrayList"
abbrev wsX230 : List Cond := u_ws "LoanHouseModel$Program" TX23 4
theorem nmX23 : ∀ a, a < 4 → ∀ b, b < 4 → a ≠ b → (TX23 a).2.1 ≠ (TX23 b).2.1 := by decide +kernel
theorem tyX23_ok : ∀ k, k < 4 → parseFieldDescriptor (TX23 k).2.2.1 = some (tyX23 k) := by decide +kernel
def TJ4 : u_T := fun k => match k with
  | 0 => ("java/lang/AbstractStringBuilder", "value", "[B", false)
  | 1 => ("java/lang/AbstractStringBuilder", "coder", "B", false)
  | 2 => ("java/lang/AbstractStringBuilder", "maybeLatin1", "Z", false)
  | _ => ("java/lang/AbstractStringBuilder", "count", "I", false)
def tyJ4 : Nat → FieldType := fun k => match k with
  | 0 => .array .byte
  | 1 => .byte
  | 2 => .boolean
  | _ => .int
abbrev wsJ40 : List Cond := u_ws "java/lang/StringBuilder" TJ4 4
theorem nmJ4 : ∀ a, a < 4 → ∀ b, b < 4 → a ≠ b → (TJ4 a).2.1 ≠ (TJ4 b).2.1 := by decide +kernel
theorem tyJ4_ok : ∀ k, k < 4 → parseFieldDescriptor (TJ4 k).2.2.1 = some (tyJ4 k) := by decide +kernel
def TJ0 : u_T := fun k => match k with
  | 0 => ("java/lang/String", "value", "[B", true)
  | 1 => ("java/lang/String", "coder", "B", true)
  | 2 => ("java/lang/String", "hash", "I", false)
  | _ => ("java/lang/String", "hashIsZero", "Z", false)
def tyJ0 : Nat → FieldType := fun k => match k with
  | 0 => .array .byte
  | 1 => .byte
  | 2 => .int
  | _ => .boolean
abbrev wsJ00 : List Cond := u_ws "java/lang/String" TJ0 4
theorem nmJ0 : ∀ a, a < 4 → ∀ b, b < 4 → a ≠ b → (TJ0 a).2.1 ≠ (TJ0 b).2.1 := by decide +kernel
theorem tyJ0_ok : ∀ k, k < 4 → parseFieldDescriptor (TJ0 k).2.2.1 = some (tyJ0 k) := by decide +kernel
def TJx4a65c : u_T := fun k => match k with
  | 0 => ("java/util/AbstractList", "modCount", "I", false)
  | 1 => ("java/util/ArrayList", "elementData", "[Ljava/lang/Object;", false)
  | _ => ("java/util/ArrayList", "size", "I", false)
def tyJx4a65c : Nat → FieldType := fun k => match k with
  | 0 => .int
  | 1 => .array (.object "java/lang/Object")
  | _ => .int
abbrev wsJx4a65c0 : List Cond := u_ws "java/util/ArrayList" TJx4a65c 3
theorem nmJx4a65c : ∀ a, a < 3 → ∀ b, b < 3 → a ≠ b → (TJx4a65c a).2.1 ≠ (TJx4a65c b).2.1 := by decide +kernel
theorem tyJx4a65c_ok : ∀ k, k < 3 → parseFieldDescriptor (TJx4a65c k).2.2.1 = some (tyJx4a65c k) := by decide +kernel
abbrev cX12_init : ByteArray := prog_1_method_1_code
def yX12_init : MethodName := ⟨"LoanHouse", "<init>", "()V"⟩
abbrev cX12_feed : ByteArray := prog_1_method_2_code
def yX12_feed : MethodName := ⟨"LoanHouse", "feed", "(IIIII)I"⟩
abbrev cX12_feedNumber : ByteArray := prog_1_method_3_code
def yX12_feedNumber : MethodName := ⟨"LoanHouse", "feedNumber", "(I)V"⟩
abbrev cX12_judge : ByteArray := prog_1_method_4_code
def yX12_judge : MethodName := ⟨"LoanHouse", "judge", "(I)I"⟩
abbrev cX12_judgeTree : ByteArray := prog_1_method_6_code
def yX12_judgeTree : MethodName := ⟨"LoanHouse", "judgeTree", "(I)I"⟩
abbrev cX12_fault : ByteArray := prog_1_method_7_code
def yX12_fault : MethodName := ⟨"LoanHouse", "fault", "(I)I"⟩
abbrev cX12_give : ByteArray := prog_1_method_8_code
def yX12_give : MethodName := ⟨"LoanHouse", "give", "(J)I"⟩
abbrev cX12_run : ByteArray := prog_1_method_9_code
def yX12_run : MethodName := ⟨"LoanHouse", "run", "(I)I"⟩
abbrev cX12_about : ByteArray := prog_1_method_10_code
def yX12_about : MethodName := ⟨"LoanHouse", "about", "(I)I"⟩
abbrev cX12_out : ByteArray := prog_1_method_11_code
def yX12_out : MethodName := ⟨"LoanHouse", "out", "(II)J"⟩
abbrev cX12_count : ByteArray := prog_1_method_12_code
def yX12_count : MethodName := ⟨"LoanHouse", "count", "(I)I"⟩
abbrev cX12_place : ByteArray := prog_1_method_13_code
def yX12_place : MethodName := ⟨"LoanHouse", "place", "(II)I"⟩
abbrev cX12_loan : ByteArray := prog_1_method_14_code
def yX12_loan : MethodName := ⟨"LoanHouse", "loan", "(II)I"⟩
abbrev cX12_force : ByteArray := prog_1_method_15_code
def yX12_force : MethodName := ⟨"LoanHouse", "force", "(II)I"⟩
abbrev cX12_function : ByteArray := prog_1_method_16_code
def yX12_function : MethodName := ⟨"LoanHouse", "function", "(II)I"⟩
abbrev cX12_size : ByteArray := prog_1_method_17_code
def yX12_size : MethodName := ⟨"LoanHouse", "size", "(I)I"⟩
abbrev cX12_strays : ByteArray := prog_1_method_18_code
def yX12_strays : MethodName := ⟨"LoanHouse", "strays", "()I"⟩
abbrev cX12_twices : ByteArray := prog_1_method_19_code
def yX12_twices : MethodName := ⟨"LoanHouse", "twices", "()I"⟩
abbrev cX12_lefts : ByteArray := prog_1_method_20_code
def yX12_lefts : MethodName := ⟨"LoanHouse", "lefts", "()I"⟩
abbrev cX12_clashes : ByteArray := prog_1_method_21_code
def yX12_clashes : MethodName := ⟨"LoanHouse", "clashes", "()I"⟩
abbrev cX8_init : ByteArray := prog_10_method_1_code
def yX8_init : MethodName := ⟨"LoanHouse$Tree", "<init>", "()V"⟩
abbrev cX8_clear : ByteArray := prog_10_method_2_code
def yX8_clear : MethodName := ⟨"LoanHouse$Tree", "clear", "()V"⟩
abbrev cX8_add : ByteArray := prog_10_method_3_code
def yX8_add : MethodName := ⟨"LoanHouse$Tree", "add", "(II)I"⟩
abbrev cX6_init : ByteArray := prog_8_method_1_code
def yX6_init : MethodName := ⟨"LoanHouse$Reader", "<init>", "(LLoanHouse$Tree;)V"⟩
abbrev cX6_read : ByteArray := prog_8_method_2_code
def yX6_read : MethodName := ⟨"LoanHouse$Reader", "read", "([BI)I"⟩
abbrev cX6_takeWords : ByteArray := prog_8_method_3_code
def yX6_takeWords : MethodName := ⟨"LoanHouse$Reader", "takeWords", "()V"⟩
abbrev cX6_nameOf : ByteArray := prog_8_method_4_code
def yX6_nameOf : MethodName := ⟨"LoanHouse$Reader", "nameOf", "(II)I"⟩
abbrev cX6_alike : ByteArray := prog_8_method_5_code
def yX6_alike : MethodName := ⟨"LoanHouse$Reader", "alike", "(III)Z"⟩
abbrev cX6_takeTokens : ByteArray := prog_8_method_6_code
def yX6_takeTokens : MethodName := ⟨"LoanHouse$Reader", "takeTokens", "()V"⟩
abbrev cX6_skipBlanks : ByteArray := prog_8_method_7_code
def yX6_skipBlanks : MethodName := ⟨"LoanHouse$Reader", "skipBlanks", "()V"⟩
abbrev cX6_advance : ByteArray := prog_8_method_14_code
def yX6_advance : MethodName := ⟨"LoanHouse$Reader", "advance", "()V"⟩
abbrev cX0_init : ByteArray := prog_2_method_1_code
def yX0_init : MethodName := ⟨"LoanHouse$Checker", "<init>", "(LLoanHouse$Tree;)V"⟩
abbrev cX0_check : ByteArray := prog_2_method_2_code
def yX0_check : MethodName := ⟨"LoanHouse$Checker", "check", "(LLoanHouse$Program;I)I"⟩
abbrev cX0_declareAll : ByteArray := prog_2_method_4_code
def yX0_declareAll : MethodName := ⟨"LoanHouse$Checker", "declareAll", "(I)V"⟩
abbrev cX0_measures : ByteArray := prog_2_method_10_code
def yX0_measures : MethodName := ⟨"LoanHouse$Checker", "measures", "(I)V"⟩
abbrev cX0_mainFunction : ByteArray := prog_2_method_15_code
def yX0_mainFunction : MethodName := ⟨"LoanHouse$Checker", "mainFunction", "(I)V"⟩
abbrev cX0_broken : ByteArray := prog_2_method_3_code
def yX0_broken : MethodName := ⟨"LoanHouse$Checker", "broken", "(I)V"⟩
abbrev cX1_init : ByteArray := prog_3_method_1_code
def yX1_init : MethodName := ⟨"LoanHouse$Emitter", "<init>", "(LLoanHouse$Tree;)V"⟩
abbrev cX11_init : ByteArray := prog_13_method_1_code
def yX11_init : MethodName := ⟨"LoanHouse$Ways", "<init>", "()V"⟩
abbrev cX3_init : ByteArray := prog_5_method_1_code
def yX3_init : MethodName := ⟨"LoanHouse$Machine", "<init>", "()V"⟩
abbrev cX7_init : ByteArray := prog_9_method_1_code
def yX7_init : MethodName := ⟨"LoanHouse$Store", "<init>", "()V"⟩
abbrev cX5_init : ByteArray := prog_7_method_1_code
def yX5_init : MethodName := ⟨"LoanHouse$Program", "<init>", "()V"⟩
abbrev cX5_clear : ByteArray := prog_7_method_2_code
def yX5_clear : MethodName := ⟨"LoanHouse$Program", "clear", "()V"⟩
abbrev cX9_init : ByteArray := prog_11_method_1_code
def yX9_init : MethodName := ⟨"LoanHouse$Types", "<init>", "()V"⟩
abbrev cX9_clear : ByteArray := prog_11_method_2_code
def yX9_clear : MethodName := ⟨"LoanHouse$Types", "clear", "()V"⟩
abbrev cX9_measure : ByteArray := prog_11_method_19_code
def yX9_measure : MethodName := ⟨"LoanHouse$Types", "measure", "()V"⟩
abbrev cX2_init : ByteArray := prog_4_method_1_code
def yX2_init : MethodName := ⟨"LoanHouse$Functions", "<init>", "()V"⟩
abbrev cX2_clear : ByteArray := prog_4_method_2_code
def yX2_clear : MethodName := ⟨"LoanHouse$Functions", "clear", "()V"⟩
abbrev cX10_init : ByteArray := prog_12_method_1_code
def yX10_init : MethodName := ⟨"LoanHouse$Variables", "<init>", "()V"⟩
abbrev cX10_clear : ByteArray := prog_12_method_2_code
def yX10_clear : MethodName := ⟨"LoanHouse$Variables", "clear", "()V"⟩
abbrev cX4_init : ByteArray := prog_6_method_1_code
def yX4_init : MethodName := ⟨"LoanHouse$Places", "<init>", "()V"⟩
abbrev cX4_clear : ByteArray := prog_6_method_2_code
def yX4_clear : MethodName := ⟨"LoanHouse$Places", "clear", "()V"⟩
abbrev cX30_init : ByteArray := prog_15_method_1_code
def yX30_init : MethodName := ⟨"LoanHouseModel", "<init>", "()V"⟩
abbrev cX30_feed : ByteArray := prog_15_method_130_code
def yX30_feed : MethodName := ⟨"LoanHouseModel", "feed", "(IIIII)I"⟩
abbrev cX30_judge : ByteArray := prog_15_method_131_code
def yX30_judge : MethodName := ⟨"LoanHouseModel", "judge", "(I)I"⟩
abbrev cX30_split : ByteArray := prog_15_method_13_code
def yX30_split : MethodName := ⟨"LoanHouseModel", "split", "(I)V"⟩
abbrev cX30_token : ByteArray := prog_15_method_6_code
def yX30_token : MethodName := ⟨"LoanHouseModel", "token", "(III)V"⟩
abbrev cX30_known : ByteArray := prog_15_method_7_code
def yX30_known : MethodName := ⟨"LoanHouseModel", "known", "(II)Ljava/lang/String;"⟩
abbrev cX30_isLate : ByteArray := prog_15_method_8_code
def yX30_isLate : MethodName := ⟨"LoanHouseModel", "isLate", "(Ljava/lang/String;II)Z"⟩
abbrev cX30_word : ByteArray := prog_15_method_10_code
def yX30_word : MethodName := ⟨"LoanHouseModel", "word", "(II)Ljava/lang/String;"⟩
abbrev cX30_readText : ByteArray := prog_15_method_27_code
def yX30_readText : MethodName := ⟨"LoanHouseModel", "readText", "()V"⟩
abbrev cX30_isOver : ByteArray := prog_15_method_19_code
def yX30_isOver : MethodName := ⟨"LoanHouseModel", "isOver", "()Z"⟩
abbrev cX30_ruleItems : ByteArray := prog_15_method_53_code
def yX30_ruleItems : MethodName := ⟨"LoanHouseModel", "ruleItems", "()V"⟩
abbrev cX30_ruleFns : ByteArray := prog_15_method_60_code
def yX30_ruleFns : MethodName := ⟨"LoanHouseModel", "ruleFns", "()V"⟩
abbrev cX30_fnOf : ByteArray := prog_15_method_51_code
def yX30_fnOf : MethodName := ⟨"LoanHouseModel", "fnOf", "(Ljava/lang/String;)LLoanHouseModel$Fn;"⟩
abbrev cX30_wrong : ByteArray := prog_15_method_49_code
def yX30_wrong : MethodName := ⟨"LoanHouseModel", "wrong", "(I)V"⟩
abbrev cX30_breaks : ByteArray := prog_15_method_18_code
def yX30_breaks : MethodName := ⟨"LoanHouseModel", "breaks", "(III)V"⟩
abbrev cX30_fault : ByteArray := prog_15_method_133_code
def yX30_fault : MethodName := ⟨"LoanHouseModel", "fault", "(I)I"⟩
abbrev cX30_give_ : ByteArray := prog_15_method_197_code
def yX30_give_ : MethodName := ⟨"LoanHouseModel", "give", "(J)I"⟩
abbrev cX30_run : ByteArray := prog_15_method_198_code
def yX30_run : MethodName := ⟨"LoanHouseModel", "run", "(I)I"⟩
abbrev cX30_about : ByteArray := prog_15_method_200_code
def yX30_about : MethodName := ⟨"LoanHouseModel", "about", "(I)I"⟩
abbrev cX30_out_ : ByteArray := prog_15_method_201_code
def yX30_out_ : MethodName := ⟨"LoanHouseModel", "out", "(II)J"⟩
abbrev cX30_count : ByteArray := prog_15_method_202_code
def yX30_count : MethodName := ⟨"LoanHouseModel", "count", "(I)I"⟩
abbrev cX30_place_ : ByteArray := prog_15_method_204_code
def yX30_place_ : MethodName := ⟨"LoanHouseModel", "place", "(II)I"⟩
abbrev cX30_loan : ByteArray := prog_15_method_205_code
def yX30_loan : MethodName := ⟨"LoanHouseModel", "loan", "(II)I"⟩
abbrev cX30_force : ByteArray := prog_15_method_206_code
def yX30_force : MethodName := ⟨"LoanHouseModel", "force", "(II)I"⟩
abbrev cX30_function : ByteArray := prog_15_method_207_code
def yX30_function : MethodName := ⟨"LoanHouseModel", "function", "(II)I"⟩
abbrev cX30_size : ByteArray := prog_15_method_208_code
def yX30_size : MethodName := ⟨"LoanHouseModel", "size", "(I)I"⟩
abbrev cX30_strays : ByteArray := prog_15_method_209_code
def yX30_strays : MethodName := ⟨"LoanHouseModel", "strays", "()I"⟩
abbrev cX30_twices : ByteArray := prog_15_method_210_code
def yX30_twices : MethodName := ⟨"LoanHouseModel", "twices", "()I"⟩
abbrev cX30_lefts : ByteArray := prog_15_method_211_code
def yX30_lefts : MethodName := ⟨"LoanHouseModel", "lefts", "()I"⟩
abbrev cX30_clashes_ : ByteArray := prog_15_method_212_code
def yX30_clashes_ : MethodName := ⟨"LoanHouseModel", "clashes", "()I"⟩
abbrev cX26_init : ByteArray := prog_29_method_1_code
def yX26_init : MethodName := ⟨"LoanHouseModel$Type", "<init>", "(ILLoanHouseModel$Item;LLoanHouseModel$Type;)V"⟩
abbrev cX23_init : ByteArray := prog_26_method_1_code
def yX23_init : MethodName := ⟨"LoanHouseModel$Program", "<init>", "()V"⟩
abbrev cJ5_init_d00df : ByteArray := prog_34_method_2_code
def yJ5_init_d00df : MethodName := ⟨"java/lang/AbstractStringBuilder", "<init>", "(I)V"⟩
abbrev cJ5_length_8abf5 : ByteArray := prog_34_method_6_code
def yJ5_length_8abf5 : MethodName := ⟨"java/lang/AbstractStringBuilder", "length", "()I"⟩
abbrev cJ5_ensureCapacityInternal_d00df : ByteArray := prog_34_method_9_code
def yJ5_ensureCapacityInternal_d00df : MethodName := ⟨"java/lang/AbstractStringBuilder", "ensureCapacityInternal", "(I)V"⟩
abbrev cJ5_setLength_d00df : ByteArray := prog_34_method_13_code
def yJ5_setLength_d00df : MethodName := ⟨"java/lang/AbstractStringBuilder", "setLength", "(I)V"⟩
abbrev cJ5_getValue_6d5f1 : ByteArray := prog_34_method_64_code
def yJ5_getValue_6d5f1 : MethodName := ⟨"java/lang/AbstractStringBuilder", "getValue", "()[B"⟩
abbrev cJ5_isLatin1_aae02 : ByteArray := prog_34_method_68_code
def yJ5_isLatin1_aae02 : MethodName := ⟨"java/lang/AbstractStringBuilder", "isLatin1", "()Z"⟩
abbrev cJ4_init_d00df : ByteArray := prog_47_method_2_code
def yJ4_init_d00df : MethodName := ⟨"java/lang/StringBuilder", "<init>", "(I)V"⟩
abbrev cJ4_toString_0e30d : ByteArray := prog_47_method_42_code
def yJ4_toString_0e30d : MethodName := ⟨"java/lang/StringBuilder", "toString", "()Ljava/lang/String;"⟩
abbrev cJ4_setLength_d00df : ByteArray := prog_47_method_89_code
def yJ4_setLength_d00df : MethodName := ⟨"java/lang/StringBuilder", "setLength", "(I)V"⟩
abbrev cJ4_length_8abf5 : ByteArray := prog_47_method_93_code
def yJ4_length_8abf5 : MethodName := ⟨"java/lang/StringBuilder", "length", "()I"⟩
abbrev cJ0_init_81219 : ByteArray := prog_46_method_53_code
def yJ0_init_81219 : MethodName := ⟨"java/lang/String", "<init>", "(Ljava/lang/StringBuilder;)V"⟩
abbrev cJ0_init_db425 : ByteArray := prog_46_method_150_code
def yJ0_init_db425 : MethodName := ⟨"java/lang/String", "<init>", "(Ljava/lang/AbstractStringBuilder;Ljava/lang/Void;)V"⟩
abbrev cJ0_length_8abf5 : ByteArray := prog_46_method_54_code
def yJ0_length_8abf5 : MethodName := ⟨"java/lang/String", "length", "()I"⟩
abbrev cJ0_charAt_5068e : ByteArray := prog_46_method_56_code
def yJ0_charAt_5068e : MethodName := ⟨"java/lang/String", "charAt", "(I)C"⟩
abbrev cJ0_coder_7d493 : ByteArray := prog_46_method_152_code
def yJ0_coder_7d493 : MethodName := ⟨"java/lang/String", "coder", "()B"⟩
abbrev cJ0_isLatin1_aae02 : ByteArray := prog_46_method_154_code
def yJ0_isLatin1_aae02 : MethodName := ⟨"java/lang/String", "isLatin1", "()Z"⟩
abbrev cJ0_checkIndex_df160 : ByteArray := prog_46_method_155_code
def yJ0_checkIndex_df160 : MethodName := ⟨"java/lang/String", "checkIndex", "(II)V"⟩
abbrev cJ1_charAt_3b067 : ByteArray := prog_48_method_2_code
def yJ1_charAt_3b067 : MethodName := ⟨"java/lang/StringLatin1", "charAt", "([BI)C"⟩
abbrev cJ3_checkIndex_8e157 : ByteArray := prog_65_method_11_code
def yJ3_checkIndex_8e157 : MethodName := ⟨"jdk/internal/util/Preconditions", "checkIndex", "(IILjava/util/function/BiFunction;)I"⟩
abbrev cJ7_copyOfRange_39247 : ByteArray := prog_57_method_132_code
def yJ7_copyOfRange_39247 : MethodName := ⟨"java/util/Arrays", "copyOfRange", "([BII)[B"⟩
abbrev cJ7_copyOfRangeByte_39247 : ByteArray := prog_57_method_133_code
def yJ7_copyOfRangeByte_39247 : MethodName := ⟨"java/util/Arrays", "copyOfRangeByte", "([BII)[B"⟩
abbrev cJ7_checkLength_df160 : ByteArray := prog_57_method_131_code
def yJ7_checkLength_df160 : MethodName := ⟨"java/util/Arrays", "checkLength", "(II)V"⟩
abbrev cJxa1e45_init_da8c8 : ByteArray := prog_54_method_1_code
def yJxa1e45_init_da8c8 : MethodName := ⟨"java/util/AbstractCollection", "<init>", "()V"⟩
abbrev cJxc12de_init_da8c8 : ByteArray := prog_55_method_1_code
def yJxc12de_init_da8c8 : MethodName := ⟨"java/util/AbstractList", "<init>", "()V"⟩
abbrev cJx4a65c_init_da8c8 : ByteArray := prog_56_method_2_code
def yJx4a65c_init_da8c8 : MethodName := ⟨"java/util/ArrayList", "<init>", "()V"⟩
abbrev cJx4a65c_size_8abf5 : ByteArray := prog_56_method_8_code
def yJx4a65c_size_8abf5 : MethodName := ⟨"java/util/ArrayList", "size", "()I"⟩
def TB0 : List Cond := [.instanceMethod objectInit, .code objectInit ⟨#[0xb1]⟩ 1 none, .code yX12_init cX12_init 1 none, .initialized "LoanHouse", .instanceMethod yX12_init, .methodLink "LoanHouse" 3 objectInit, .arrayClass .byte, .fieldLink "LoanHouse" 9 "LoanHouse" "text" "[B", .arrayClass .long, .fieldLink "LoanHouse" 13 "LoanHouse" "given" "[J", .classLink "LoanHouse" 17 "LoanHouse$Tree", .instantiable "LoanHouse$Tree" 12, .initialized "LoanHouse$Tree", .fieldLink "LoanHouse" 20 "LoanHouse" "tree" "LLoanHouse$Tree;", .classLink "LoanHouse" 24 "LoanHouse$Reader", .instantiable "LoanHouse$Reader" 18, .initialized "LoanHouse$Reader", .fieldLink "LoanHouse" 29 "LoanHouse" "reader" "LLoanHouse$Reader;", .classLink "LoanHouse" 33 "LoanHouse$Checker", .instantiable "LoanHouse$Checker" 11, .initialized "LoanHouse$Checker", .fieldLink "LoanHouse" 36 "LoanHouse" "checker" "LLoanHouse$Checker;", .classLink "LoanHouse" 40 "LoanHouse$Emitter", .instantiable "LoanHouse$Emitter" 10, .initialized "LoanHouse$Emitter", .fieldLink "LoanHouse" 43 "LoanHouse" "emitter" "LLoanHouse$Emitter;", .classLink "LoanHouse" 47 "LoanHouse$Ways", .instantiable "LoanHouse$Ways" 22, .initialized "LoanHouse$Ways", .fieldLink "LoanHouse" 50 "LoanHouse" "ways" "LLoanHouse$Ways;"]
def TB1 : List Cond := [.classLink "LoanHouse" 54 "LoanHouse$Machine", .instantiable "LoanHouse$Machine" 21, .initialized "LoanHouse$Machine", .fieldLink "LoanHouse" 57 "LoanHouse" "machine" "LLoanHouse$Machine;", .classLink "LoanHouse" 61 "LoanHouse$Program", .instantiable "LoanHouse$Program" 15, .initialized "LoanHouse$Program", .fieldLink "LoanHouse" 64 "LoanHouse" "program" "LLoanHouse$Program;", .fieldLink "LoanHouse" 68 "LoanHouse" "faultKind" "I", .fieldLink "LoanHouse" 72 "LoanHouse" "faultPlace" "I", .fieldLink "LoanHouse" 75 "LoanHouse" "faultOther" "I", .code yX12_feed cX12_feed 6 (some .int), .instanceMethod yX12_feed, .selects "LoanHouse" yX12_feed yX12_feed, .fieldLink "LoanHouse" 78 "LoanHouse" "textLength" "I", .methodLink "LoanHouse" 81 yX12_feedNumber, .code yX12_feedNumber cX12_feedNumber 3 none, .instanceMethod yX12_feedNumber, .selects "LoanHouse" yX12_feedNumber yX12_feedNumber, .code yX12_judge cX12_judge 2 (some .int), .instanceMethod yX12_judge, .selects "LoanHouse" yX12_judge yX12_judge, .methodLink "LoanHouse" 89 yX12_judgeTree, .code yX12_judgeTree cX12_judgeTree 3 (some .int), .instanceMethod yX12_judgeTree, .selects "LoanHouse" yX12_judgeTree yX12_judgeTree, .fieldLink "LoanHouse" 96 "LoanHouse" "hasProgram" "Z", .fieldLink "LoanHouse" 100 "LoanHouse" "next" "LLoanHouse$Program;", .code yX12_fault cX12_fault 2 (some .int), .instanceMethod yX12_fault]
def TB2 : List Cond := [.selects "LoanHouse" yX12_fault yX12_fault, .code yX12_give cX12_give 3 (some .int), .instanceMethod yX12_give, .selects "LoanHouse" yX12_give yX12_give, .fieldLink "LoanHouse" 133 "LoanHouse" "givenTotal" "I", .code yX12_run cX12_run 2 (some .int), .instanceMethod yX12_run, .selects "LoanHouse" yX12_run yX12_run, .constant "LoanHouse" 136 (50000), .fieldLink "LoanHouse" 103 "LoanHouse" "hasRun" "Z", .code yX12_about cX12_about 2 (some .int), .instanceMethod yX12_about, .selects "LoanHouse" yX12_about yX12_about, .code yX12_out cX12_out 3 (some .long), .instanceMethod yX12_out, .selects "LoanHouse" yX12_out yX12_out, .code yX12_count cX12_count 2 (some .int), .instanceMethod yX12_count, .selects "LoanHouse" yX12_count yX12_count, .code yX12_place cX12_place 3 (some .int), .instanceMethod yX12_place, .selects "LoanHouse" yX12_place yX12_place, .code yX12_loan cX12_loan 3 (some .int), .instanceMethod yX12_loan, .selects "LoanHouse" yX12_loan yX12_loan, .code yX12_force cX12_force 3 (some .int), .instanceMethod yX12_force, .selects "LoanHouse" yX12_force yX12_force, .code yX12_function cX12_function 3 (some .int), .instanceMethod yX12_function]
def TB3 : List Cond := [.selects "LoanHouse" yX12_function yX12_function, .code yX12_size cX12_size 2 (some .int), .instanceMethod yX12_size, .selects "LoanHouse" yX12_size yX12_size, .code yX12_strays cX12_strays 1 (some .int), .instanceMethod yX12_strays, .selects "LoanHouse" yX12_strays yX12_strays, .code yX12_twices cX12_twices 1 (some .int), .instanceMethod yX12_twices, .selects "LoanHouse" yX12_twices yX12_twices, .code yX12_lefts cX12_lefts 1 (some .int), .instanceMethod yX12_lefts, .selects "LoanHouse" yX12_lefts yX12_lefts, .code yX12_clashes cX12_clashes 1 (some .int), .instanceMethod yX12_clashes, .selects "LoanHouse" yX12_clashes yX12_clashes, .code yX8_init cX8_init 1 none, .instanceMethod yX8_init, .methodLink "LoanHouse$Tree" 3 objectInit, .arrayClass .int, .fieldLink "LoanHouse$Tree" 9 "LoanHouse$Tree" "kind" "[I", .fieldLink "LoanHouse$Tree" 15 "LoanHouse$Tree" "pos" "[I", .fieldLink "LoanHouse$Tree" 18 "LoanHouse$Tree" "from" "[I", .fieldLink "LoanHouse$Tree" 21 "LoanHouse$Tree" "name" "[I", .fieldLink "LoanHouse$Tree" 24 "LoanHouse$Tree" "a" "[I", .fieldLink "LoanHouse$Tree" 27 "LoanHouse$Tree" "b" "[I", .fieldLink "LoanHouse$Tree" 30 "LoanHouse$Tree" "c" "[I", .fieldLink "LoanHouse$Tree" 33 "LoanHouse$Tree" "next" "[I", .fieldLink "LoanHouse$Tree" 36 "LoanHouse$Tree" "value" "[J", .fieldLink "LoanHouse$Tree" 40 "LoanHouse$Tree" "type" "[I"]
def TB4 : List Cond := [.fieldLink "LoanHouse$Tree" 43 "LoanHouse$Tree" "ref" "[I", .fieldLink "LoanHouse$Tree" 46 "LoanHouse$Tree" "total" "I", .code yX8_clear cX8_clear 1 none, .instanceMethod yX8_clear, .selects "LoanHouse$Tree" yX8_clear yX8_clear, .code yX8_add cX8_add 4 (some .int), .instanceMethod yX8_add, .selects "LoanHouse$Tree" yX8_add yX8_add, .code yX6_init cX6_init 3 none, .instanceMethod yX6_init, .methodLink "LoanHouse$Reader" 3 objectInit, .methodLink "LoanHouse$Reader" 11 yJ0_length_8abf5, .fieldLink "LoanHouse$Reader" 17 "LoanHouse$Reader" "pool" "[B", .fieldLink "LoanHouse$Reader" 23 "LoanHouse$Reader" "nameStart" "[I", .fieldLink "LoanHouse$Reader" 27 "LoanHouse$Reader" "nameLength" "[I", .fieldLink "LoanHouse$Reader" 30 "LoanHouse$Reader" "nameNext" "[I", .fieldLink "LoanHouse$Reader" 33 "LoanHouse$Reader" "heads" "[I", .fieldLink "LoanHouse$Reader" 36 "LoanHouse$Reader" "tokenKind" "[I", .fieldLink "LoanHouse$Reader" 39 "LoanHouse$Reader" "tokenPos" "[I", .fieldLink "LoanHouse$Reader" 42 "LoanHouse$Reader" "tokenValue" "[J", .fieldLink "LoanHouse$Reader" 46 "LoanHouse$Reader" "tree" "LLoanHouse$Tree;", .methodLink "LoanHouse$Reader" 50 yJ0_charAt_5068e, .code yX6_read cX6_read 8 (some .int), .instanceMethod yX6_read, .selects "LoanHouse$Reader" yX6_read yX6_read, .methodLink "LoanHouse$Reader" 54 arraycopyName, .static arraycopyName, .native arraycopyName, .initialized "java/lang/System", .fieldLink "LoanHouse$Reader" 60 "LoanHouse$Reader" "at" "I"]
def TB5 : List Cond := [.fieldLink "LoanHouse$Reader" 64 "LoanHouse$Reader" "end" "I", .fieldLink "LoanHouse$Reader" 67 "LoanHouse$Reader" "open" "I", .fieldLink "LoanHouse$Reader" 70 "LoanHouse$Reader" "wrong" "I", .methodLink "LoanHouse$Reader" 73 yX6_takeWords, .methodLink "LoanHouse$Reader" 76 yX6_takeTokens, .fieldLink "LoanHouse$Reader" 84 "LoanHouse$Reader" "current" "I", .methodLink "LoanHouse$Reader" 87 yX6_advance, .fieldLink "LoanHouse$Reader" 94 "LoanHouse$Reader" "kind" "I", .fieldLink "LoanHouse$Reader" 97 "LoanHouse$Reader" "pos" "I", .code yX6_takeWords cX6_takeWords 3 none, .instanceMethod yX6_takeWords, .selects "LoanHouse$Reader" yX6_takeWords yX6_takeWords, .fieldLink "LoanHouse$Reader" 119 "LoanHouse$Reader" "names" "I", .methodLink "LoanHouse$Reader" 122 yX6_nameOf, .code yX6_nameOf cX6_nameOf 6 (some .int), .instanceMethod yX6_nameOf, .selects "LoanHouse$Reader" yX6_nameOf yX6_nameOf, .methodLink "LoanHouse$Reader" 125 yX6_alike, .code yX6_alike cX6_alike 5 (some .boolean), .instanceMethod yX6_alike, .selects "LoanHouse$Reader" yX6_alike yX6_alike, .code yX6_takeTokens cX6_takeTokens 3 none, .instanceMethod yX6_takeTokens, .selects "LoanHouse$Reader" yX6_takeTokens yX6_takeTokens, .fieldLink "LoanHouse$Reader" 129 "LoanHouse$Reader" "tokens" "I", .methodLink "LoanHouse$Reader" 132 yX6_skipBlanks, .code yX6_skipBlanks cX6_skipBlanks 5 none, .instanceMethod yX6_skipBlanks, .selects "LoanHouse$Reader" yX6_skipBlanks yX6_skipBlanks, .code yX6_advance cX6_advance 1 none]
def TB6 : List Cond := [.instanceMethod yX6_advance, .selects "LoanHouse$Reader" yX6_advance yX6_advance, .code yX0_init cX0_init 2 none, .instanceMethod yX0_init, .methodLink "LoanHouse$Checker" 3 objectInit, .fieldLink "LoanHouse$Checker" 9 "LoanHouse$Checker" "tree" "LLoanHouse$Tree;", .code yX0_check cX0_check 6 (some .int), .instanceMethod yX0_check, .selects "LoanHouse$Checker" yX0_check yX0_check, .fieldLink "LoanHouse$Checker" 21 "LoanHouse$Checker" "types" "LLoanHouse$Types;", .fieldLink "LoanHouse$Checker" 26 "LoanHouse$Checker" "functions" "LLoanHouse$Functions;", .fieldLink "LoanHouse$Checker" 31 "LoanHouse$Checker" "variables" "LLoanHouse$Variables;", .fieldLink "LoanHouse$Checker" 36 "LoanHouse$Checker" "places" "LLoanHouse$Places;", .constant "LoanHouse$Checker" 37 (1073741824), .fieldLink "LoanHouse$Checker" 38 "LoanHouse$Checker" "least" "I", .methodLink "LoanHouse$Checker" 48 yX0_declareAll, .methodLink "LoanHouse$Checker" 67 yX0_measures, .methodLink "LoanHouse$Checker" 81 yX0_mainFunction, .code yX0_declareAll cX0_declareAll 4 none, .instanceMethod yX0_declareAll, .selects "LoanHouse$Checker" yX0_declareAll yX0_declareAll, .code yX0_measures cX0_measures 5 none, .instanceMethod yX0_measures, .selects "LoanHouse$Checker" yX0_measures yX0_measures, .methodLink "LoanHouse$Checker" 126 yX0_broken, .code yX0_mainFunction cX0_mainFunction 4 none, .instanceMethod yX0_mainFunction, .selects "LoanHouse$Checker" yX0_mainFunction yX0_mainFunction, .code yX0_broken cX0_broken 2 none, .instanceMethod yX0_broken]
def TB7 : List Cond := [.selects "LoanHouse$Checker" yX0_broken yX0_broken, .methodLink "LoanHouse$Checker" 84 Lib.Math.min.name, .static Lib.Math.min.name, .code Lib.Math.min.name Lib.Math.min.code 2 (some .int), .initialized "java/lang/Math", .code yX1_init cX1_init 2 none, .instanceMethod yX1_init, .methodLink "LoanHouse$Emitter" 3 objectInit, .fieldLink "LoanHouse$Emitter" 9 "LoanHouse$Emitter" "tree" "LLoanHouse$Tree;", .code yX11_init cX11_init 1 none, .instanceMethod yX11_init, .methodLink "LoanHouse$Ways" 5 objectInit, .fieldLink "LoanHouse$Ways" 11 "LoanHouse$Ways" "state" "[J", .fieldLink "LoanHouse$Ways" 15 "LoanHouse$Ways" "labelState" "[J", .arrayClass .boolean, .fieldLink "LoanHouse$Ways" 18 "LoanHouse$Ways" "labelCome" "[Z", .fieldLink "LoanHouse$Ways" 22 "LoanHouse$Ways" "temps" "[J", .fieldLink "LoanHouse$Ways" 25 "LoanHouse$Ways" "matched" "[J", .fieldLink "LoanHouse$Ways" 28 "LoanHouse$Ways" "used" "[J", .fieldLink "LoanHouse$Ways" 31 "LoanHouse$Ways" "met" "[Z", .code yX3_init cX3_init 1 none, .instanceMethod yX3_init, .methodLink "LoanHouse$Machine" 3 objectInit, .classLink "LoanHouse$Machine" 9 "LoanHouse$Store", .instantiable "LoanHouse$Store" 19, .initialized "LoanHouse$Store", .fieldLink "LoanHouse$Machine" 12 "LoanHouse$Machine" "store" "LLoanHouse$Store;", .classLink "LoanHouse$Machine" 18 "[[J", .fieldLink "LoanHouse$Machine" 20 "LoanHouse$Machine" "waiting" "[[J", .fieldLink "LoanHouse$Machine" 23 "LoanHouse$Machine" "parts" "[J"]
def TB8 : List Cond := [.code yX7_init cX7_init 1 none, .instanceMethod yX7_init, .methodLink "LoanHouse$Store" 3 objectInit, .fieldLink "LoanHouse$Store" 9 "LoanHouse$Store" "cells" "[J", .fieldLink "LoanHouse$Store" 15 "LoanHouse$Store" "boxUsed" "[Z", .fieldLink "LoanHouse$Store" 19 "LoanHouse$Store" "rowUsed" "[Z", .fieldLink "LoanHouse$Store" 22 "LoanHouse$Store" "rowLength" "[I", .fieldLink "LoanHouse$Store" 26 "LoanHouse$Store" "outKind" "[I", .fieldLink "LoanHouse$Store" 29 "LoanHouse$Store" "outNumber" "[J", .fieldLink "LoanHouse$Store" 32 "LoanHouse$Store" "dropType" "[I", .fieldLink "LoanHouse$Store" 35 "LoanHouse$Store" "dropAt" "[I", .code yX5_init cX5_init 1 none, .instanceMethod yX5_init, .methodLink "LoanHouse$Program" 3 objectInit, .classLink "LoanHouse$Program" 9 "LoanHouse$Types", .instantiable "LoanHouse$Types" 19, .initialized "LoanHouse$Types", .fieldLink "LoanHouse$Program" 12 "LoanHouse$Program" "types" "LLoanHouse$Types;", .classLink "LoanHouse$Program" 18 "LoanHouse$Functions", .instantiable "LoanHouse$Functions" 19, .initialized "LoanHouse$Functions", .fieldLink "LoanHouse$Program" 21 "LoanHouse$Program" "functions" "LLoanHouse$Functions;", .classLink "LoanHouse$Program" 25 "LoanHouse$Variables", .instantiable "LoanHouse$Variables" 12, .initialized "LoanHouse$Variables", .fieldLink "LoanHouse$Program" 28 "LoanHouse$Program" "variables" "LLoanHouse$Variables;", .classLink "LoanHouse$Program" 32 "LoanHouse$Places", .instantiable "LoanHouse$Places" 20, .initialized "LoanHouse$Places", .fieldLink "LoanHouse$Program" 35 "LoanHouse$Program" "places" "LLoanHouse$Places;"]
def TB9 : List Cond := [.fieldLink "LoanHouse$Program" 39 "LoanHouse$Program" "op" "[I", .fieldLink "LoanHouse$Program" 43 "LoanHouse$Program" "x" "[I", .fieldLink "LoanHouse$Program" 46 "LoanHouse$Program" "y" "[I", .fieldLink "LoanHouse$Program" 49 "LoanHouse$Program" "z" "[I", .fieldLink "LoanHouse$Program" 52 "LoanHouse$Program" "pos" "[I", .fieldLink "LoanHouse$Program" 55 "LoanHouse$Program" "label" "[I", .fieldLink "LoanHouse$Program" 58 "LoanHouse$Program" "order" "[I", .code yX5_clear cX5_clear 1 none, .instanceMethod yX5_clear, .selects "LoanHouse$Program" yX5_clear yX5_clear, .fieldLink "LoanHouse$Program" 67 "LoanHouse$Program" "slots" "I", .fieldLink "LoanHouse$Program" 71 "LoanHouse$Program" "labels" "I", .fieldLink "LoanHouse$Program" 74 "LoanHouse$Program" "matches" "I", .fieldLink "LoanHouse$Program" 77 "LoanHouse$Program" "orders" "I", .code yX9_init cX9_init 1 none, .instanceMethod yX9_init, .methodLink "LoanHouse$Types" 3 objectInit, .fieldLink "LoanHouse$Types" 9 "LoanHouse$Types" "kind" "[I", .fieldLink "LoanHouse$Types" 15 "LoanHouse$Types" "arg" "[I", .fieldLink "LoanHouse$Types" 18 "LoanHouse$Types" "declName" "[I", .fieldLink "LoanHouse$Types" 21 "LoanHouse$Types" "declForm" "[I", .fieldLink "LoanHouse$Types" 24 "LoanHouse$Types" "declFirst" "[I", .fieldLink "LoanHouse$Types" 27 "LoanHouse$Types" "declWidth" "[I", .fieldLink "LoanHouse$Types" 30 "LoanHouse$Types" "declCells" "[I", .fieldLink "LoanHouse$Types" 33 "LoanHouse$Types" "declParts" "[I", .fieldLink "LoanHouse$Types" 36 "LoanHouse$Types" "declLeaves" "[I", .fieldLink "LoanHouse$Types" 39 "LoanHouse$Types" "variantName" "[I", .fieldLink "LoanHouse$Types" 42 "LoanHouse$Types" "variantFirst" "[I", .fieldLink "LoanHouse$Types" 45 "LoanHouse$Types" "variantWidth" "[I", .fieldLink "LoanHouse$Types" 48 "LoanHouse$Types" "memberName" "[I"]
def TB10 : List Cond := [.fieldLink "LoanHouse$Types" 51 "LoanHouse$Types" "memberType" "[I", .fieldLink "LoanHouse$Types" 54 "LoanHouse$Types" "memberCell" "[I", .code yX9_clear cX9_clear 1 none, .instanceMethod yX9_clear, .selects "LoanHouse$Types" yX9_clear yX9_clear, .fieldLink "LoanHouse$Types" 57 "LoanHouse$Types" "decls" "I", .fieldLink "LoanHouse$Types" 61 "LoanHouse$Types" "variants" "I", .fieldLink "LoanHouse$Types" 64 "LoanHouse$Types" "members" "I", .fieldLink "LoanHouse$Types" 67 "LoanHouse$Types" "total" "I", .code yX9_measure cX9_measure 4 none, .instanceMethod yX9_measure, .selects "LoanHouse$Types" yX9_measure yX9_measure, .code yX2_init cX2_init 1 none, .instanceMethod yX2_init, .methodLink "LoanHouse$Functions" 3 objectInit, .fieldLink "LoanHouse$Functions" 9 "LoanHouse$Functions" "name" "[I", .fieldLink "LoanHouse$Functions" 15 "LoanHouse$Functions" "node" "[I", .fieldLink "LoanHouse$Functions" 18 "LoanHouse$Functions" "result" "[I", .fieldLink "LoanHouse$Functions" 21 "LoanHouse$Functions" "of" "[J", .fieldLink "LoanHouse$Functions" 25 "LoanHouse$Functions" "params" "[I", .fieldLink "LoanHouse$Functions" 28 "LoanHouse$Functions" "firstParam" "[I", .fieldLink "LoanHouse$Functions" 31 "LoanHouse$Functions" "paramType" "[I", .fieldLink "LoanHouse$Functions" 34 "LoanHouse$Functions" "firstVariable" "[I", .fieldLink "LoanHouse$Functions" 37 "LoanHouse$Functions" "variables" "[I", .fieldLink "LoanHouse$Functions" 40 "LoanHouse$Functions" "firstLeaf" "[I", .fieldLink "LoanHouse$Functions" 43 "LoanHouse$Functions" "leaves" "[I", .fieldLink "LoanHouse$Functions" 46 "LoanHouse$Functions" "splits" "[I", .fieldLink "LoanHouse$Functions" 49 "LoanHouse$Functions" "firstLoan" "[I", .fieldLink "LoanHouse$Functions" 52 "LoanHouse$Functions" "loans" "[I", .fieldLink "LoanHouse$Functions" 55 "LoanHouse$Functions" "entry" "[I"]
def TB11 : List Cond := [.fieldLink "LoanHouse$Functions" 58 "LoanHouse$Functions" "cells" "[I", .code yX2_clear cX2_clear 1 none, .instanceMethod yX2_clear, .selects "LoanHouse$Functions" yX2_clear yX2_clear, .fieldLink "LoanHouse$Functions" 61 "LoanHouse$Functions" "total" "I", .fieldLink "LoanHouse$Functions" 65 "LoanHouse$Functions" "paramTotal" "I", .fieldLink "LoanHouse$Functions" 68 "LoanHouse$Functions" "main" "I", .code yX10_init cX10_init 1 none, .instanceMethod yX10_init, .methodLink "LoanHouse$Variables" 3 objectInit, .fieldLink "LoanHouse$Variables" 9 "LoanHouse$Variables" "name" "[I", .fieldLink "LoanHouse$Variables" 15 "LoanHouse$Variables" "pos" "[I", .fieldLink "LoanHouse$Variables" 18 "LoanHouse$Variables" "type" "[I", .fieldLink "LoanHouse$Variables" 21 "LoanHouse$Variables" "outer" "[I", .fieldLink "LoanHouse$Variables" 24 "LoanHouse$Variables" "firstLeaf" "[I", .fieldLink "LoanHouse$Variables" 27 "LoanHouse$Variables" "leafCount" "[I", .fieldLink "LoanHouse$Variables" 30 "LoanHouse$Variables" "cell" "[I", .fieldLink "LoanHouse$Variables" 33 "LoanHouse$Variables" "loans" "[J", .fieldLink "LoanHouse$Variables" 37 "LoanHouse$Variables" "leafType" "[I", .fieldLink "LoanHouse$Variables" 40 "LoanHouse$Variables" "leafCell" "[I", .code yX10_clear cX10_clear 1 none, .instanceMethod yX10_clear, .selects "LoanHouse$Variables" yX10_clear yX10_clear, .fieldLink "LoanHouse$Variables" 43 "LoanHouse$Variables" "total" "I", .fieldLink "LoanHouse$Variables" 47 "LoanHouse$Variables" "leaves" "I", .code yX4_init cX4_init 1 none, .instanceMethod yX4_init, .methodLink "LoanHouse$Places" 3 objectInit, .fieldLink "LoanHouse$Places" 9 "LoanHouse$Places" "pos" "[I", .fieldLink "LoanHouse$Places" 15 "LoanHouse$Places" "act" "[I"]
def TB12 : List Cond := [.fieldLink "LoanHouse$Places" 18 "LoanHouse$Places" "fn" "[I", .fieldLink "LoanHouse$Places" 21 "LoanHouse$Places" "variable" "[I", .fieldLink "LoanHouse$Places" 24 "LoanHouse$Places" "type" "[I", .fieldLink "LoanHouse$Places" 27 "LoanHouse$Places" "firstStep" "[I", .fieldLink "LoanHouse$Places" 30 "LoanHouse$Places" "steps" "[I", .fieldLink "LoanHouse$Places" 33 "LoanHouse$Places" "leaf" "[I", .fieldLink "LoanHouse$Places" 36 "LoanHouse$Places" "leaves" "[I", .fieldLink "LoanHouse$Places" 39 "LoanHouse$Places" "further" "[Z", .fieldLink "LoanHouse$Places" 43 "LoanHouse$Places" "come" "[Z", .fieldLink "LoanHouse$Places" 46 "LoanHouse$Places" "force" "[J", .fieldLink "LoanHouse$Places" 50 "LoanHouse$Places" "stepKind" "[I", .fieldLink "LoanHouse$Places" 53 "LoanHouse$Places" "stepCell" "[I", .fieldLink "LoanHouse$Places" 56 "LoanHouse$Places" "stepPos" "[I", .fieldLink "LoanHouse$Places" 59 "LoanHouse$Places" "loanPos" "[I", .fieldLink "LoanHouse$Places" 62 "LoanHouse$Places" "loanPlace" "[I", .code yX4_clear cX4_clear 1 none, .instanceMethod yX4_clear, .selects "LoanHouse$Places" yX4_clear yX4_clear, .fieldLink "LoanHouse$Places" 65 "LoanHouse$Places" "total" "I", .fieldLink "LoanHouse$Places" 69 "LoanHouse$Places" "stepTotal" "I", .fieldLink "LoanHouse$Places" 72 "LoanHouse$Places" "loans" "I", .code yX30_init cX30_init 1 none, .initialized "LoanHouseModel", .instanceMethod yX30_init, .methodLink "LoanHouseModel" 3 objectInit, .fieldLink "LoanHouseModel" 9 "LoanHouseModel" "text" "[B", .fieldLink "LoanHouseModel" 13 "LoanHouseModel" "kindOf" "[I", .fieldLink "LoanHouseModel" 17 "LoanHouseModel" "placeOf" "[I", .fieldLink "LoanHouseModel" 20 "LoanHouseModel" "endOf" "[I", .classLink "LoanHouseModel" 23 "java/lang/String"]
def TB13 : List Cond := [.instantiable "java/lang/String" 4, .initialized "java/lang/String", .fieldLink "LoanHouseModel" 25 "LoanHouseModel" "wordOf" "[Ljava/lang/String;", .fieldLink "LoanHouseModel" 29 "LoanHouseModel" "late" "[Ljava/lang/String;", .classLink "LoanHouseModel" 32 "java/lang/StringBuilder", .instantiable "java/lang/StringBuilder" 4, .initialized "java/lang/StringBuilder", .methodLink "LoanHouseModel" 34 yJ4_init_d00df, .fieldLink "LoanHouseModel" 37 "LoanHouseModel" "builder" "Ljava/lang/StringBuilder;", .fieldLink "LoanHouseModel" 41 "LoanHouseModel" "ones" "[Ljava/lang/String;", .classLink "LoanHouseModel" 44 "java/util/ArrayList", .instantiable "java/util/ArrayList" 3, .initialized "java/util/ArrayList", .methodLink "LoanHouseModel" 46 yJx4a65c_init_da8c8, .fieldLink "LoanHouseModel" 47 "LoanHouseModel" "exps" "Ljava/util/ArrayList;", .fieldLink "LoanHouseModel" 51 "LoanHouseModel" "takenExps" "Ljava/util/ArrayList;", .classLink "LoanHouseModel" 54 "LoanHouseModel$Type", .instantiable "LoanHouseModel$Type" 3, .initialized "LoanHouseModel$Type", .methodLink "LoanHouseModel" 56 yX26_init, .fieldLink "LoanHouseModel" 59 "LoanHouseModel" "intType" "LLoanHouseModel$Type;", .fieldLink "LoanHouseModel" 63 "LoanHouseModel" "boolType" "LLoanHouseModel$Type;", .fieldLink "LoanHouseModel" 66 "LoanHouseModel" "scope" "Ljava/util/ArrayList;", .fieldLink "LoanHouseModel" 69 "LoanHouseModel" "nodes" "Ljava/util/ArrayList;", .fieldLink "LoanHouseModel" 72 "LoanHouseModel" "live" "Ljava/util/ArrayList;", .fieldLink "LoanHouseModel" 75 "LoanHouseModel" "allNodes" "Ljava/util/ArrayList;", .fieldLink "LoanHouseModel" 78 "LoanHouseModel" "takenNodes" "Ljava/util/ArrayList;", .fieldLink "LoanHouseModel" 81 "LoanHouseModel" "all" "[J", .fieldLink "LoanHouseModel" 85 "LoanHouseModel" "some" "[J", .fieldLink "LoanHouseModel" 88 "LoanHouseModel" "used" "[J"]
def TB14 : List Cond := [.fieldLink "LoanHouseModel" 91 "LoanHouseModel" "holds" "[J", .fieldLink "LoanHouseModel" 94 "LoanHouseModel" "column" "[I", .fieldLink "LoanHouseModel" 97 "LoanHouseModel" "mark" "[Z", .fieldLink "LoanHouseModel" 101 "LoanHouseModel" "now" "[J", .fieldLink "LoanHouseModel" 104 "LoanHouseModel" "forces" "[J", .fieldLink "LoanHouseModel" 107 "LoanHouseModel" "entries" "Ljava/util/ArrayList;", .fieldLink "LoanHouseModel" 110 "LoanHouseModel" "lastFault" "I", .fieldLink "LoanHouseModel" 114 "LoanHouseModel" "lastPlace" "I", .fieldLink "LoanHouseModel" 117 "LoanHouseModel" "lastOther" "I", .fieldLink "LoanHouseModel" 120 "LoanHouseModel" "made" "Ljava/util/ArrayList;", .fieldLink "LoanHouseModel" 123 "LoanHouseModel" "takenForces" "[J", .fieldLink "LoanHouseModel" 126 "LoanHouseModel" "type" "[LLoanHouseModel$Type;", .fieldLink "LoanHouseModel" 130 "LoanHouseModel" "num" "[J", .fieldLink "LoanHouseModel" 133 "LoanHouseModel" "times" "[J", .fieldLink "LoanHouseModel" 136 "LoanHouseModel" "tree" "[J", .fieldLink "LoanHouseModel" 139 "LoanHouseModel" "kin" "[J", .fieldLink "LoanHouseModel" 142 "LoanHouseModel" "by" "[J", .constant "LoanHouseModel" 145 (65536), .fieldLink "LoanHouseModel" 146 "LoanHouseModel" "lentOf" "[I", .fieldLink "LoanHouseModel" 149 "LoanHouseModel" "heap" "[I", .fieldLink "LoanHouseModel" 152 "LoanHouseModel" "outKind" "[I", .fieldLink "LoanHouseModel" 155 "LoanHouseModel" "outNumber" "[J", .fieldLink "LoanHouseModel" 158 "LoanHouseModel" "renamed" "[I", .fieldLink "LoanHouseModel" 161 "LoanHouseModel" "gave" "[J", .fieldLink "LoanHouseModel" 164 "LoanHouseModel" "stack" "[I", .classLink "LoanHouseModel" 167 "LoanHouseModel$Fn", .instantiable "LoanHouseModel$Fn" 17, .initialized "LoanHouseModel$Fn", .fieldLink "LoanHouseModel" 169 "LoanHouseModel" "callFn" "[LLoanHouseModel$Fn;", .classLink "LoanHouseModel" 173 "LoanHouseModel$Node"]
def TB15 : List Cond := [.instantiable "LoanHouseModel$Node" 15, .initialized "LoanHouseModel$Node", .fieldLink "LoanHouseModel" 175 "LoanHouseModel" "callBack" "[LLoanHouseModel$Node;", .fieldLink "LoanHouseModel" 179 "LoanHouseModel" "callBase" "[I", .fieldLink "LoanHouseModel" 182 "LoanHouseModel" "actives" "[I", .fieldLink "LoanHouseModel" 185 "LoanHouseModel" "variable" "[I", .fieldLink "LoanHouseModel" 188 "LoanHouseModel" "active" "[I", .fieldLink "LoanHouseModel" 191 "LoanHouseModel" "keptParts" "[I", .code yX30_feed cX30_feed 8 (some .int), .instanceMethod yX30_feed, .selects "LoanHouseModel" yX30_feed yX30_feed, .fieldLink "LoanHouseModel" 1231 "LoanHouseModel" "textSize" "I", .code yX30_judge cX30_judge 4 (some .int), .instanceMethod yX30_judge, .selects "LoanHouseModel" yX30_judge yX30_judge, .fieldLink "LoanHouseModel" 291 "LoanHouseModel" "fault" "I", .fieldLink "LoanHouseModel" 294 "LoanHouseModel" "faultPlace" "I", .fieldLink "LoanHouseModel" 297 "LoanHouseModel" "otherPlace" "I", .methodLink "LoanHouseModel" 1234 yX30_split, .fieldLink "LoanHouseModel" 284 "LoanHouseModel" "at" "I", .fieldLink "LoanHouseModel" 313 "LoanHouseModel" "open" "I", .classLink "LoanHouseModel" 400 "LoanHouseModel$Program", .instantiable "LoanHouseModel$Program" 4, .initialized "LoanHouseModel$Program", .fieldLink "LoanHouseModel" 395 "LoanHouseModel" "program" "LLoanHouseModel$Program;", .fieldLink "LoanHouseModel" 621 "LoanHouseModel" "expsUsed" "I", .fieldLink "LoanHouseModel" 1010 "LoanHouseModel" "nodesUsed" "I", .fieldLink "LoanHouseModel" 489 "LoanHouseModel" "inHand" "LLoanHouseModel$Fn;", .methodLink "LoanHouseModel" 1238 yX30_readText, .methodLink "LoanHouseModel" 1241 yX30_ruleItems]
def TB16 : List Cond := [.methodLink "LoanHouseModel" 1244 yX30_ruleFns, .fieldLink "LoanHouseModel" 1250 "LoanHouseModel" "taken" "LLoanHouseModel$Program;", .fieldLink "LoanHouseModel" 1253 "LoanHouseModel" "wasRun" "Z", .code yX30_split cX30_split 9 none, .instanceMethod yX30_split, .selects "LoanHouseModel" yX30_split yX30_split, .fieldLink "LoanHouseModel" 201 "LoanHouseModel" "tokens" "I", .methodLink "LoanHouseModel" 263 yX30_token, .constantLong "LoanHouseModel" 274 (9223372036854775807), .constantLong "LoanHouseModel" 276 (10), .code yX30_token cX30_token 4 none, .instanceMethod yX30_token, .selects "LoanHouseModel" yX30_token yX30_token, .methodLink "LoanHouseModel" 210 yX30_known, .code yX30_known cX30_known 5 (some (.object "java/lang/String")), .instanceMethod yX30_known, .selects "LoanHouseModel" yX30_known yX30_known, .methodLink "LoanHouseModel" 213 yX30_isLate, .methodLink "LoanHouseModel" 217 yX30_word, .code yX30_isLate cX30_isLate 5 (some .boolean), .instanceMethod yX30_isLate, .selects "LoanHouseModel" yX30_isLate yX30_isLate, .methodLink "LoanHouseModel" 220 yJ0_length_8abf5, .methodLink "LoanHouseModel" 224 yJ0_charAt_5068e, .code yX30_word cX30_word 4 (some (.object "java/lang/String")), .instanceMethod yX30_word, .selects "LoanHouseModel" yX30_word yX30_word, .methodLink "LoanHouseModel" 228 yJ4_setLength_d00df, .methodLink "LoanHouseModel" 235 yJ4_toString_0e30d, .code yX30_readText cX30_readText 1 none]
def TB17 : List Cond := [.instanceMethod yX30_readText, .selects "LoanHouseModel" yX30_readText yX30_readText, .methodLink "LoanHouseModel" 300 yX30_isOver, .code yX30_isOver cX30_isOver 1 (some .boolean), .instanceMethod yX30_isOver, .selects "LoanHouseModel" yX30_isOver yX30_isOver, .code yX30_ruleItems cX30_ruleItems 5 none, .instanceMethod yX30_ruleItems, .selects "LoanHouseModel" yX30_ruleItems yX30_ruleItems, .fieldLink "LoanHouseModel" 399 "LoanHouseModel$Program" "items" "Ljava/util/ArrayList;", .methodLink "LoanHouseModel" 404 yJx4a65c_size_8abf5, .classLink "LoanHouseModel" 348 "LoanHouseModel$Item", .instantiable "LoanHouseModel$Item" 13, .initialized "LoanHouseModel$Item", .fieldLink "LoanHouseModel" 351 "LoanHouseModel$Item" "first" "I", .methodLink "LoanHouseModel" 746 yX30_wrong, .fieldLink "LoanHouseModel" 364 "LoanHouseModel$Item" "name" "Ljava/lang/String;", .fieldLink "LoanHouseModel" 358 "LoanHouseModel$Item" "place" "I", .fieldLink "LoanHouseModel" 383 "LoanHouseModel$Item" "fields" "Ljava/util/ArrayList;", .classLink "LoanHouseModel" 441 "LoanHouseModel$Field", .instantiable "LoanHouseModel$Field" 4, .initialized "LoanHouseModel$Field", .fieldLink "LoanHouseModel" 444 "LoanHouseModel$Field" "place" "I", .fieldLink "LoanHouseModel" 445 "LoanHouseModel$Field" "name" "Ljava/lang/String;", .fieldLink "LoanHouseModel" 448 "LoanHouseModel$Field" "told" "LLoanHouseModel$Told;", .fieldLink "LoanHouseModel" 760 "LoanHouseModel$Field" "type" "LLoanHouseModel$Type;", .fieldLink "LoanHouseModel" 418 "LoanHouseModel$Item" "variants" "Ljava/util/ArrayList;", .fieldLink "LoanHouseModel" 369 "LoanHouseModel$Item" "isTold" "Z", .fieldLink "LoanHouseModel" 769 "LoanHouseModel$Type" "kind" "I", .fieldLink "LoanHouseModel" 773 "LoanHouseModel$Item" "isBad" "Z"]
def TB18 : List Cond := [.fieldLink "LoanHouseModel" 776 "LoanHouseModel$Item" "size" "I", .fieldLink "LoanHouseModel" 778 "LoanHouseModel$Item" "parts" "I", .code yX30_ruleFns cX30_ruleFns 5 none, .instanceMethod yX30_ruleFns, .selects "LoanHouseModel" yX30_ruleFns yX30_ruleFns, .fieldLink "LoanHouseModel" 501 "LoanHouseModel$Program" "fns" "Ljava/util/ArrayList;", .fieldLink "LoanHouseModel" 473 "LoanHouseModel$Fn" "first" "I", .fieldLink "LoanHouseModel" 475 "LoanHouseModel$Fn" "name" "Ljava/lang/String;", .methodLink "LoanHouseModel" 805 yX30_fnOf, .fieldLink "LoanHouseModel" 474 "LoanHouseModel$Fn" "place" "I", .fieldLink "LoanHouseModel" 476 "LoanHouseModel$Fn" "params" "Ljava/util/ArrayList;", .fieldLink "LoanHouseModel" 479 "LoanHouseModel$Fn" "told" "LLoanHouseModel$Told;", .fieldLink "LoanHouseModel" 809 "LoanHouseModel$Fn" "result" "LLoanHouseModel$Type;", .fieldLink "LoanHouseModel" 724 "LoanHouseModel$Program" "places" "Ljava/util/ArrayList;", .classLink "LoanHouseModel" 717 "LoanHouseModel$Place", .instantiable "LoanHouseModel$Place" 11, .initialized "LoanHouseModel$Place", .fieldLink "LoanHouseModel" 720 "LoanHouseModel$Place" "place" "I", .code yX30_fnOf cX30_fnOf 3 (some (.object "LoanHouseModel$Fn")), .instanceMethod yX30_fnOf, .selects "LoanHouseModel" yX30_fnOf yX30_fnOf, .code yX30_wrong cX30_wrong 2 none, .instanceMethod yX30_wrong, .selects "LoanHouseModel" yX30_wrong yX30_wrong, .methodLink "LoanHouseModel" 307 yX30_breaks, .code yX30_breaks cX30_breaks 4 none, .instanceMethod yX30_breaks, .selects "LoanHouseModel" yX30_breaks yX30_breaks, .code yX30_fault cX30_fault 2 (some .int), .instanceMethod yX30_fault]
def TB19 : List Cond := [.selects "LoanHouseModel" yX30_fault yX30_fault, .code yX30_give_ cX30_give_ 3 (some .int), .instanceMethod yX30_give_, .selects "LoanHouseModel" yX30_give_ yX30_give_, .fieldLink "LoanHouseModel" 1502 "LoanHouseModel" "gaves" "I", .code yX30_run cX30_run 4 (some .int), .instanceMethod yX30_run, .selects "LoanHouseModel" yX30_run yX30_run, .constant "LoanHouseModel" 1545 (50000), .fieldLink "LoanHouseModel" 1294 "LoanHouseModel" "pool" "I", .fieldLink "LoanHouseModel" 1288 "LoanHouseModel" "spare" "I", .fieldLink "LoanHouseModel" 1341 "LoanHouseModel" "time" "J", .fieldLink "LoanHouseModel" 1401 "LoanHouseModel" "lends" "I", .fieldLink "LoanHouseModel" 1359 "LoanHouseModel" "strays" "I", .fieldLink "LoanHouseModel" 1387 "LoanHouseModel" "twices" "I", .fieldLink "LoanHouseModel" 1417 "LoanHouseModel" "clashes" "I", .fieldLink "LoanHouseModel" 1546 "LoanHouseModel" "lefts" "I", .fieldLink "LoanHouseModel" 1375 "LoanHouseModel" "outs" "I", .fieldLink "LoanHouseModel" 1477 "LoanHouseModel" "toldMade" "I", .fieldLink "LoanHouseModel" 1393 "LoanHouseModel" "toldDropped" "I", .fieldLink "LoanHouseModel" 1396 "LoanHouseModel" "boxes" "I", .fieldLink "LoanHouseModel" 1399 "LoanHouseModel" "rows" "I", .fieldLink "LoanHouseModel" 1480 "LoanHouseModel" "mostBoxes" "I", .fieldLink "LoanHouseModel" 1486 "LoanHouseModel" "mostRows" "I", .fieldLink "LoanHouseModel" 1496 "LoanHouseModel" "ended" "I", .fieldLink "LoanHouseModel" 1425 "LoanHouseModel" "failWhy" "I", .fieldLink "LoanHouseModel" 1428 "LoanHouseModel" "failPlace" "I", .fieldLink "LoanHouseModel" 1493 "LoanHouseModel" "steps" "I", .fieldLink "LoanHouseModel" 1499 "LoanHouseModel" "reads" "I", .fieldLink "LoanHouseModel" 1422 "LoanHouseModel" "high" "I"]
def TB20 : List Cond := [.fieldLink "LoanHouseModel" 1431 "LoanHouseModel" "calls" "I", .fieldLink "LoanHouseModel" 504 "LoanHouseModel$Fn" "index" "I", .code yX30_about cX30_about 2 (some .int), .instanceMethod yX30_about, .selects "LoanHouseModel" yX30_about yX30_about, .code yX30_out_ cX30_out_ 3 (some .long), .instanceMethod yX30_out_, .selects "LoanHouseModel" yX30_out_ yX30_out_, .code yX30_count cX30_count 2 (some .int), .instanceMethod yX30_count, .selects "LoanHouseModel" yX30_count yX30_count, .fieldLink "LoanHouseModel" 1256 "LoanHouseModel$Program" "loans" "Ljava/util/ArrayList;", .code yX30_place_ cX30_place_ 4 (some .int), .instanceMethod yX30_place_, .selects "LoanHouseModel" yX30_place_ yX30_place_, .fieldLink "LoanHouseModel" 937 "LoanHouseModel$Place" "act" "I", .fieldLink "LoanHouseModel" 722 "LoanHouseModel$Place" "fn" "LLoanHouseModel$Fn;", .fieldLink "LoanHouseModel" 1221 "LoanHouseModel$Place" "inForce" "I", .fieldLink "LoanHouseModel" 1138 "LoanHouseModel$Place" "isCome" "Z", .code yX30_loan cX30_loan 4 (some .int), .instanceMethod yX30_loan, .selects "LoanHouseModel" yX30_loan yX30_loan, .classLink "LoanHouseModel" 876 "LoanHouseModel$Loan", .instantiable "LoanHouseModel$Loan" 6, .initialized "LoanHouseModel$Loan", .fieldLink "LoanHouseModel" 878 "LoanHouseModel$Loan" "sign" "I", .fieldLink "LoanHouseModel" 980 "LoanHouseModel$Loan" "isSole" "Z", .fieldLink "LoanHouseModel" 983 "LoanHouseModel$Loan" "place" "LLoanHouseModel$Place;", .fieldLink "LoanHouseModel" 727 "LoanHouseModel$Place" "number" "I", .fieldLink "LoanHouseModel" 1223 "LoanHouseModel$Loan" "acts" "I"]
def TB21 : List Cond := [.code yX30_force cX30_force 3 (some .int), .instanceMethod yX30_force, .selects "LoanHouseModel" yX30_force yX30_force, .code yX30_function cX30_function 4 (some .int), .instanceMethod yX30_function, .selects "LoanHouseModel" yX30_function yX30_function, .fieldLink "LoanHouseModel" 836 "LoanHouseModel$Fn" "vars" "Ljava/util/ArrayList;", .fieldLink "LoanHouseModel" 840 "LoanHouseModel$Fn" "leaves" "I", .fieldLink "LoanHouseModel" 1150 "LoanHouseModel$Fn" "torn" "I", .fieldLink "LoanHouseModel" 873 "LoanHouseModel$Fn" "loans" "Ljava/util/ArrayList;", .code yX30_size cX30_size 2 (some .int), .instanceMethod yX30_size, .selects "LoanHouseModel" yX30_size yX30_size, .code yX30_strays cX30_strays 1 (some .int), .instanceMethod yX30_strays, .selects "LoanHouseModel" yX30_strays yX30_strays, .code yX30_twices cX30_twices 1 (some .int), .instanceMethod yX30_twices, .selects "LoanHouseModel" yX30_twices yX30_twices, .code yX30_lefts cX30_lefts 1 (some .int), .instanceMethod yX30_lefts, .selects "LoanHouseModel" yX30_lefts yX30_lefts, .code yX30_clashes_ cX30_clashes_ 1 (some .int), .instanceMethod yX30_clashes_, .selects "LoanHouseModel" yX30_clashes_ yX30_clashes_, .code yX26_init cX26_init 4 none, .instanceMethod yX26_init, .methodLink "LoanHouseModel$Type" 3 objectInit, .fieldLink "LoanHouseModel$Type" 9 "LoanHouseModel$Type" "kind" "I", .fieldLink "LoanHouseModel$Type" 15 "LoanHouseModel$Type" "item" "LLoanHouseModel$Item;"]
def TB22 : List Cond := [.fieldLink "LoanHouseModel$Type" 19 "LoanHouseModel$Type" "of" "LLoanHouseModel$Type;", .code yX23_init cX23_init 1 none, .instanceMethod yX23_init, .methodLink "LoanHouseModel$Program" 1 objectInit, .classLink "LoanHouseModel$Program" 7 "java/util/ArrayList", .methodLink "LoanHouseModel$Program" 9 yJx4a65c_init_da8c8, .fieldLink "LoanHouseModel$Program" 10 "LoanHouseModel$Program" "items" "Ljava/util/ArrayList;", .fieldLink "LoanHouseModel$Program" 16 "LoanHouseModel$Program" "fns" "Ljava/util/ArrayList;", .fieldLink "LoanHouseModel$Program" 19 "LoanHouseModel$Program" "places" "Ljava/util/ArrayList;", .fieldLink "LoanHouseModel$Program" 22 "LoanHouseModel$Program" "loans" "Ljava/util/ArrayList;", .code yJ5_init_d00df cJ5_init_d00df 2 none, .initialized "java/lang/AbstractStringBuilder", .instanceMethod yJ5_init_d00df, .methodLink "java/lang/AbstractStringBuilder" 3 objectInit, .fieldLink "java/lang/AbstractStringBuilder" 18 "java/lang/String" "COMPACT_STRINGS" "Z", .fieldLink "java/lang/AbstractStringBuilder" 15 "java/lang/AbstractStringBuilder" "value" "[B", .fieldLink "java/lang/AbstractStringBuilder" 22 "java/lang/AbstractStringBuilder" "coder" "B", .code yJ5_length_8abf5 cJ5_length_8abf5 1 (some .int), .instanceMethod yJ5_length_8abf5, .fieldLink "java/lang/AbstractStringBuilder" 79 "java/lang/AbstractStringBuilder" "count" "I", .code yJ5_ensureCapacityInternal_d00df cJ5_ensureCapacityInternal_d00df 3 none, .instanceMethod yJ5_ensureCapacityInternal_d00df, .code yJ5_setLength_d00df cJ5_setLength_d00df 2 none, .instanceMethod yJ5_setLength_d00df, .methodLink "java/lang/AbstractStringBuilder" 100 yJ5_ensureCapacityInternal_d00df, .methodLink "java/lang/AbstractStringBuilder" 83 yJ5_isLatin1_aae02, .fieldLink "java/lang/AbstractStringBuilder" 73 "java/lang/AbstractStringBuilder" "maybeLatin1" "Z", .code yJ5_getValue_6d5f1 cJ5_getValue_6d5f1 1 (some (.array .byte)), .instanceMethod yJ5_getValue_6d5f1, .code yJ5_isLatin1_aae02 cJ5_isLatin1_aae02 1 (some .boolean)]
def TB23 : List Cond := [.instanceMethod yJ5_isLatin1_aae02, .code yJ4_init_d00df cJ4_init_d00df 2 none, .instanceMethod yJ4_init_d00df, .methodLink "java/lang/StringBuilder" 1 yJ5_init_d00df, .code yJ4_toString_0e30d cJ4_toString_0e30d 1 (some (.object "java/lang/String")), .instanceMethod yJ4_toString_0e30d, .selects "java/lang/StringBuilder" yJ4_toString_0e30d yJ4_toString_0e30d, .classLink "java/lang/StringBuilder" 18 "java/lang/String", .methodLink "java/lang/StringBuilder" 137 yJ0_init_81219, .code yJ4_setLength_d00df cJ4_setLength_d00df 2 none, .instanceMethod yJ4_setLength_d00df, .selects "java/lang/StringBuilder" yJ4_setLength_d00df yJ4_setLength_d00df, .methodLink "java/lang/StringBuilder" 333 yJ5_setLength_d00df, .code yJ4_length_8abf5 cJ4_length_8abf5 1 (some .int), .instanceMethod yJ4_length_8abf5, .methodLink "java/lang/StringBuilder" 343 yJ5_length_8abf5, .code yJ0_init_81219 cJ0_init_81219 2 none, .instanceMethod yJ0_init_81219, .methodLink "java/lang/String" 489 yJ0_init_db425, .code yJ0_init_db425 cJ0_init_db425 5 none, .instanceMethod yJ0_init_db425, .methodLink "java/lang/String" 1 objectInit, .methodLink "java/lang/String" 552 yJ5_getValue_6d5f1, .methodLink "java/lang/String" 549 yJ5_length_8abf5, .methodLink "java/lang/String" 1047 yJ5_isLatin1_aae02, .fieldLink "java/lang/String" 15 "java/lang/String" "coder" "B", .methodLink "java/lang/String" 54 yJ7_copyOfRange_39247, .fieldLink "java/lang/String" 9 "java/lang/String" "value" "[B", .fieldLink "java/lang/String" 38 "java/lang/String" "COMPACT_STRINGS" "Z", .fieldLink "java/lang/String" 1048 "java/lang/AbstractStringBuilder" "maybeLatin1" "Z"]
def TB24 : List Cond := [.code yJ0_length_8abf5 cJ0_length_8abf5 1 (some .int), .instanceMethod yJ0_length_8abf5, .selects "java/lang/String" yJ0_length_8abf5 yJ0_length_8abf5, .methodLink "java/lang/String" 335 yJ0_coder_7d493, .code yJ0_charAt_5068e cJ0_charAt_5068e 2 (some .char), .instanceMethod yJ0_charAt_5068e, .selects "java/lang/String" yJ0_charAt_5068e yJ0_charAt_5068e, .methodLink "java/lang/String" 492 yJ0_isLatin1_aae02, .methodLink "java/lang/String" 495 yJ1_charAt_3b067, .code yJ0_coder_7d493 cJ0_coder_7d493 1 (some .byte), .instanceMethod yJ0_coder_7d493, .selects "java/lang/String" yJ0_coder_7d493 yJ0_coder_7d493, .code yJ0_isLatin1_aae02 cJ0_isLatin1_aae02 1 (some .boolean), .instanceMethod yJ0_isLatin1_aae02, .selects "java/lang/String" yJ0_isLatin1_aae02 yJ0_isLatin1_aae02, .code yJ0_checkIndex_df160 cJ0_checkIndex_df160 2 none, .static yJ0_checkIndex_df160, .fieldLink "java/lang/String" 1053 "jdk/internal/util/Preconditions" "SIOOBE_FORMATTER" "Ljava/util/function/BiFunction;", .methodLink "java/lang/String" 1059 yJ3_checkIndex_8e157, .code yJ1_charAt_3b067 cJ1_charAt_3b067 2 (some .char), .initialized "java/lang/StringLatin1", .static yJ1_charAt_3b067, .methodLink "java/lang/StringLatin1" 9 yJ0_checkIndex_df160, .code yJ3_checkIndex_8e157 cJ3_checkIndex_8e157 3 (some .int), .initialized "jdk/internal/util/Preconditions", .static yJ3_checkIndex_8e157, .code yJ7_copyOfRange_39247 cJ7_copyOfRange_39247 3 (some (.array .byte)), .initialized "java/util/Arrays", .static yJ7_copyOfRange_39247, .methodLink "java/util/Arrays" 339 yJ7_copyOfRangeByte_39247]
def TB25 : List Cond := [.classLink "java/util/Arrays" 311 "[B", .code yJ7_copyOfRangeByte_39247 cJ7_copyOfRangeByte_39247 5 (some (.array .byte)), .static yJ7_copyOfRangeByte_39247, .methodLink "java/util/Arrays" 343 yJ7_checkLength_df160, .methodLink "java/util/Arrays" 304 Lib.Math.min.name, .methodLink "java/util/Arrays" 150 arraycopyName, .code yJ7_checkLength_df160 cJ7_checkLength_df160 2 none, .static yJ7_checkLength_df160, .code yJxa1e45_init_da8c8 cJxa1e45_init_da8c8 1 none, .initialized "java/util/AbstractCollection", .instanceMethod yJxa1e45_init_da8c8, .methodLink "java/util/AbstractCollection" 1 objectInit, .code yJxc12de_init_da8c8 cJxc12de_init_da8c8 1 none, .initialized "java/util/AbstractList", .instanceMethod yJxc12de_init_da8c8, .methodLink "java/util/AbstractList" 1 yJxa1e45_init_da8c8, .fieldLink "java/util/AbstractList" 7 "java/util/AbstractList" "modCount" "I", .code yJx4a65c_init_da8c8 cJx4a65c_init_da8c8 1 none, .instanceMethod yJx4a65c_init_da8c8, .methodLink "java/util/ArrayList" 1 yJxc12de_init_da8c8, .fieldLink "java/util/ArrayList" 39 "java/util/ArrayList" "DEFAULTCAPACITY_EMPTY_ELEMENTDATA" "[Ljava/lang/Object;", .fieldLink "java/util/ArrayList" 9 "java/util/ArrayList" "elementData" "[Ljava/lang/Object;", .code yJx4a65c_size_8abf5 cJx4a65c_size_8abf5 1 (some .int), .instanceMethod yJx4a65c_size_8abf5, .selects "java/util/ArrayList" yJx4a65c_size_8abf5 yJx4a65c_size_8abf5, .fieldLink "java/util/ArrayList" 48 "java/util/ArrayList" "size" "I", .classLink "LoanHouseLaw" 7 "LoanHouse", .instantiable "LoanHouse" 17, .methodLink "LoanHouseLaw" 9 yX12_init, .classLink "LoanHouseLaw" 10 "LoanHouseModel"]
def TB26 : List Cond := [.instantiable "LoanHouseModel" 95, .methodLink "LoanHouseLaw" 12 yX30_init, .methodLink "LoanHouseLaw" 13 yX12_feed, .methodLink "LoanHouseLaw" 17 yX30_feed, .methodLink "LoanHouseLaw" 18 yX12_judge, .methodLink "LoanHouseLaw" 22 yX30_judge, .methodLink "LoanHouseLaw" 23 yX12_fault, .methodLink "LoanHouseLaw" 26 yX30_fault, .constantLong "LoanHouseLaw" 27 (4294967295), .methodLink "LoanHouseLaw" 29 yX12_give, .methodLink "LoanHouseLaw" 33 yX30_give_, .methodLink "LoanHouseLaw" 34 yX12_run, .methodLink "LoanHouseLaw" 37 yX30_run, .methodLink "LoanHouseLaw" 38 yX12_about, .methodLink "LoanHouseLaw" 41 yX30_about, .methodLink "LoanHouseLaw" 42 yX12_out, .methodLink "LoanHouseLaw" 46 yX30_out_, .methodLink "LoanHouseLaw" 47 yX12_count, .methodLink "LoanHouseLaw" 50 yX30_count, .methodLink "LoanHouseLaw" 51 yX12_place, .methodLink "LoanHouseLaw" 55 yX30_place_, .methodLink "LoanHouseLaw" 56 yX12_loan, .methodLink "LoanHouseLaw" 59 yX30_loan, .methodLink "LoanHouseLaw" 60 yX12_force, .methodLink "LoanHouseLaw" 63 yX30_force, .methodLink "LoanHouseLaw" 64 yX12_function, .methodLink "LoanHouseLaw" 67 yX30_function, .methodLink "LoanHouseLaw" 68 yX12_size, .methodLink "LoanHouseLaw" 71 yX30_size, .methodLink "LoanHouseLaw" 72 yX12_strays]
def TB27 : List Cond := [.methodLink "LoanHouseLaw" 76 yX30_strays, .methodLink "LoanHouseLaw" 77 yX12_twices, .methodLink "LoanHouseLaw" 80 yX30_twices, .methodLink "LoanHouseLaw" 81 yX12_lefts, .methodLink "LoanHouseLaw" 84 yX30_lefts, .methodLink "LoanHouseLaw" 85 yX12_clashes, .methodLink "LoanHouseLaw" 88 yX30_clashes_, .sameField "java/util/ArrayList" "java/util/AbstractList" "modCount" "I", .superclass "java/lang/StringBuilder" "java/lang/AbstractStringBuilder", .sameMethod "java/lang/AbstractStringBuilder" "java/lang/AbstractStringBuilder" "isLatin1" "()Z", .selects "java/lang/StringBuilder" yJ5_isLatin1_aae02 yJ5_isLatin1_aae02, .sameMethod "java/lang/AbstractStringBuilder" "java/lang/AbstractStringBuilder" "getValue" "()[B", .selects "java/lang/StringBuilder" yJ5_getValue_6d5f1 yJ5_getValue_6d5f1, .sameMethod "java/lang/AbstractStringBuilder" "java/lang/AbstractStringBuilder" "length" "()I", .selects "java/lang/StringBuilder" yJ5_length_8abf5 yJ4_length_8abf5, .sameMethod "java/lang/AbstractStringBuilder" "java/lang/AbstractStringBuilder" "setLength" "(I)V", .sameMethod "java/lang/AbstractStringBuilder" "java/lang/AbstractStringBuilder" "ensureCapacityInternal" "(I)V"]
def TBX : List Cond := [.selects "java/lang/StringBuilder" yJ5_ensureCapacityInternal_d00df yJ5_ensureCapacityInternal_d00df]
def TBL : List Cond := TBX ++ (TB0 ++ (TB1 ++ (TB2 ++ (TB3 ++ (TB4 ++ (TB5 ++ (TB6 ++ (TB7 ++ (TB8 ++ (TB9 ++ (TB10 ++ (TB11 ++ (TB12 ++ (TB13 ++ (TB14 ++ (TB15 ++ (TB16 ++ (TB17 ++ (TB18 ++ (TB19 ++ (TB20 ++ (TB21 ++ (TB22 ++ (TB23 ++ (TB24 ++ (TB25 ++ (TB26 ++ (TB27 ++ (wsX120 ++ (wsX80 ++ (wsX60 ++ (wsX00 ++ (wsX10 ++ (wsX110 ++ (wsX30 ++ (wsX70 ++ (wsX50 ++ (wsX90 ++ (wsX20 ++ (wsX100 ++ (wsX40 ++ (wsX300 ++ (wsX260 ++ (wsX230 ++ (wsJ40 ++ (wsJ00 ++ (wsJx4a65c0)))))))))))))))))))))))))))))))))))))))))))))))
theorem w_x : Cond.selects "java/lang/StringBuilder" yJ5_ensureCapacityInternal_d00df yJ5_ensureCapacityInternal_d00df ∈ TBL := List.mem_append_left _ (List.mem_of_getElem? (i := 0) rfl)
theorem tb_0 : ∀ w ∈ TB0, w ∈ TBL := fun w h => List.mem_append_right _ (List.mem_append_left _ h)
theorem tb_1 : ∀ w ∈ TB1, w ∈ TBL := fun w h => List.mem_append_right _ (List.mem_append_right _ (List.mem_append_left _ h))
theorem tb_2 : ∀ w ∈ TB2, w ∈ TBL := fun w h => List.mem_append_right _ (List.mem_append_right _ (List.mem_append_right _ (List.mem_append_left _ h)))
theorem tb_3 : ∀ w ∈ TB3, w ∈ TBL := fun w h => List.mem_append_right _ (List.mem_append_right _ (List.mem_append_right _ (List.mem_append_right _ (List.mem_append_left _ h))))
theorem tb_4 : ∀ w ∈ TB4, w ∈ TBL := fun w h => List.mem_append_right _ (List.mem_append_right _ (List.mem_append_right _ (List.mem_append_right _ (List.mem_append_right _ (List.mem_append_left _ h)))))
theorem tb_5 : ∀ w ∈ TB5, w ∈ TBL := fun w h => List.mem_append_right _ (List.mem_append_right _ (List.mem_append_right _ (List.mem_append_right _ (List.mem_append_right _ (List.mem_append_right _ (List.mem_append_left _ h))))))
theorem tb_6 : ∀ w ∈ TB6, w ∈ TBL := fun w h => List.mem_append_right _ (List.mem_append_right _ (List.mem_append_right _ (List.mem_append_right _ (List.mem_append_right _ (List.mem_append_right _ (List.mem_append_right _ (List.mem_append_left _ h)))))))
theorem tb_7 : ∀ w ∈ TB7, w ∈ TBL := fun w h => List.mem_append_right _ (List.mem_append_right _ (List.mem_append_right _ (List.mem_append_right _ (List.mem_append_right _ (List.mem_append_right _ (List.mem_append_right _ (List.mem_append_right _ (List.mem_append_left _ h))))))))
theorem tb_8 : ∀ w ∈ TB8, w ∈ TBL := fun w h => List.mem_append_right _ (List.mem_append_right _ (List.mem_append_right _ (List.mem_append_right _ (List.mem_append_right _ (List.mem_append_right _ (List.mem_append_right _ (List.mem_append_right _ (List.mem_append_right _ (List.mem_append_left _ h)))))))))
theorem tb_9 : ∀ w ∈ TB9, w ∈ TBL := fun w h => List.mem_append_right _ (List.mem_append_right _ (List.mem_append_right _ (List.mem_append_right _ (List.mem_append_right _ (List.mem_append_right _ (List.mem_append_right _ (List.mem_append_right _ (List.mem_append_right _ (List.mem_append_right _ (List.mem_append_left _ h))))))))))
theorem tb_10 : ∀ w ∈ TB10, w ∈ TBL := fun w h => List.mem_append_right _ (List.mem_append_right _ (List.mem_append_right _ (List.mem_append_right _ (List.mem_append_right _ (List.mem_append_right _ (List.mem_append_right _ (List.mem_append_right _ (List.mem_append_right _ (List.mem_append_right _ (List.mem_append_right _ (List.mem_append_left _ h)))))))))))
theorem tb_11 : ∀ w ∈ TB11, w ∈ TBL := fun w h => List.mem_append_right _ (List.mem_append_right _ (List.mem_append_right _ (List.mem_append_right _ (List.mem_append_right _ (List.mem_append_right _ (List.mem_append_right _ (List.mem_append_right _ (List.mem_append_right _ (List.mem_append_right _ (List.mem_append_right _ (List.mem_append_right _ (List.mem_append_left _ h))))))))))))
theorem tb_12 : ∀ w ∈ TB12, w ∈ TBL := fun w h => List.mem_append_right _ (List.mem_append_right _ (List.mem_append_right _ (List.mem_append_right _ (List.mem_append_right _ (List.mem_append_right _ (List.mem_append_right _ (List.mem_append_right _ (List.mem_append_right _ (List.mem_append_right _ (List.mem_append_right _ (List.mem_append_right _ (List.mem_append_right _ (List.mem_append_left _ h)))))))))))))
theorem tb_13 : ∀ w ∈ TB13, w ∈ TBL := fun w h => List.mem_append_right _ (List.mem_append_right _ (List.mem_append_right _ (List.mem_append_right _ (List.mem_append_right _ (List.mem_append_right _ (List.mem_append_right _ (List.mem_append_right _ (List.mem_append_right _ (List.mem_append_right _ (List.mem_append_right _ (List.mem_append_right _ (List.mem_append_right _ (List.mem_append_right _ (List.mem_append_left _ h))))))))))))))
theorem tb_14 : ∀ w ∈ TB14, w ∈ TBL := fun w h => List.mem_append_right _ (List.mem_append_right _ (List.mem_append_right _ (List.mem_append_right _ (List.mem_append_right _ (List.mem_append_right _ (List.mem_append_right _ (List.mem_append_right _ (List.mem_append_right _ (List.mem_append_right _ (List.mem_append_right _ (List.mem_append_right _ (List.mem_append_right _ (List.mem_append_right _ (List.mem_append_right _ (List.mem_append_left _ h)))))))))))))))
theorem tb_15 : ∀ w ∈ TB15, w ∈ TBL := fun w h => List.mem_append_right _ (List.mem_append_right _ (List.mem_append_right _ (List.mem_append_right _ (List.mem_append_right _ (List.mem_append_right _ (List.mem_append_right _ (List.mem_append_right _ (List.mem_append_right _ (List.mem_append_right _ (List.mem_append_right _ (List.mem_append_right _ (List.mem_append_right _ (List.mem_append_right _ (List.mem_append_right _ (List.mem_append_right _ (List.mem_append_left _ h))))))))))))))))
theorem tb_16 : ∀ w ∈ TB16, w ∈ TBL := fun w h => List.mem_append_right _ (List.mem_append_right _ (List.mem_append_right _ (List.mem_append_right _ (List.mem_append_right _ (List.mem_append_right _ (List.mem_append_right _ (List.mem_append_right _ (List.mem_append_right _ (List.mem_append_right _ (List.mem_append_right _ (List.mem_append_right _ (List.mem_append_right _ (List.mem_append_right _ (List.mem_append_right _ (List.mem_append_right _ (List.mem_append_right _ (List.mem_append_left _ h)))))))))))))))))
theorem tb_17 : ∀ w ∈ TB17, w ∈ TBL := fun w h => List.mem_append_right _ (List.mem_append_right _ (List.mem_append_right _ (List.mem_append_right _ (List.mem_append_right _ (List.mem_append_right _ (List.mem_append_right _ (List.mem_append_right _ (List.mem_append_right _ (List.mem_append_right _ (List.mem_append_right _ (List.mem_append_right _ (List.mem_append_right _ (List.mem_append_right _ (List.mem_append_right _ (List.mem_append_right _ (List.mem_append_right _ (List.mem_append_right _ (List.mem_append_left _ h))))))))))))))))))
theorem tb_18 : ∀ w ∈ TB18, w ∈ TBL := fun w h => List.mem_append_right _ (List.mem_append_right _ (List.mem_append_right _ (List.mem_append_right _ (List.mem_append_right _ (List.mem_append_right _ (List.mem_append_right _ (List.mem_append_right _ (List.mem_append_right _ (List.mem_append_right _ (List.mem_append_right _ (List.mem_append_right _ (List.mem_append_right _ (List.mem_append_right _ (List.mem_append_right _ (List.mem_append_right _ (List.mem_append_right _ (List.mem_append_right _ (List.mem_append_right _ (List.mem_append_left _ h)))))))))))))))))))
theorem tb_19 : ∀ w ∈ TB19, w ∈ TBL := fun w h => List.mem_append_right _ (List.mem_append_right _ (List.mem_append_right _ (List.mem_append_right _ (List.mem_append_right _ (List.mem_append_right _ (List.mem_append_right _ (List.mem_append_right _ (List.mem_append_right _ (List.mem_append_right _ (List.mem_append_right _ (List.mem_append_right _ (List.mem_append_right _ (List.mem_append_right _ (List.mem_append_right _ (List.mem_append_right _ (List.mem_append_right _ (List.mem_append_right _ (List.mem_append_right _ (List.mem_append_right _ (List.mem_append_left _ h))))))))))))))))))))
theorem tb_20 : ∀ w ∈ TB20, w ∈ TBL := fun w h => List.mem_append_right _ (List.mem_append_right _ (List.mem_append_right _ (List.mem_append_right _ (List.mem_append_right _ (List.mem_append_right _ (List.mem_append_right _ (List.mem_append_right _ (List.mem_append_right _ (List.mem_append_right _ (List.mem_append_right _ (List.mem_append_right _ (List.mem_append_right _ (List.mem_append_right _ (List.mem_append_right _ (List.mem_append_right _ (List.mem_append_right _ (List.mem_append_right _ (List.mem_append_right _ (List.mem_append_right _ (List.mem_append_right _ (List.mem_append_left _ h)))))))))))))))))))))
theorem tb_21 : ∀ w ∈ TB21, w ∈ TBL := fun w h => List.mem_append_right _ (List.mem_append_right _ (List.mem_append_right _ (List.mem_append_right _ (List.mem_append_right _ (List.mem_append_right _ (List.mem_append_right _ (List.mem_append_right _ (List.mem_append_right _ (List.mem_append_right _ (List.mem_append_right _ (List.mem_append_right _ (List.mem_append_right _ (List.mem_append_right _ (List.mem_append_right _ (List.mem_append_right _ (List.mem_append_right _ (List.mem_append_right _ (List.mem_append_right _ (List.mem_append_right _ (List.mem_append_right _ (List.mem_append_right _ (List.mem_append_left _ h))))))))))))))))))))))
theorem tb_22 : ∀ w ∈ TB22, w ∈ TBL := fun w h => List.mem_append_right _ (List.mem_append_right _ (List.mem_append_right _ (List.mem_append_right _ (List.mem_append_right _ (List.mem_append_right _ (List.mem_append_right _ (List.mem_append_right _ (List.mem_append_right _ (List.mem_append_right _ (List.mem_append_right _ (List.mem_append_right _ (List.mem_append_right _ (List.mem_append_right _ (List.mem_append_right _ (List.mem_append_right _ (List.mem_append_right _ (List.mem_append_right _ (List.mem_append_right _ (List.mem_append_right _ (List.mem_append_right _ (List.mem_append_right _ (List.mem_append_right _ (List.mem_append_left _ h)))))))))))))))))))))))
theorem tb_23 : ∀ w ∈ TB23, w ∈ TBL := fun w h => List.mem_append_right _ (List.mem_append_right _ (List.mem_append_right _ (List.mem_append_right _ (List.mem_append_right _ (List.mem_append_right _ (List.mem_append_right _ (List.mem_append_right _ (List.mem_append_right _ (List.mem_append_right _ (List.mem_append_right _ (List.mem_append_right _ (List.mem_append_right _ (List.mem_append_right _ (List.mem_append_right _ (List.mem_append_right _ (List.mem_append_right _ (List.mem_append_right _ (List.mem_append_right _ (List.mem_append_right _ (List.mem_append_right _ (List.mem_append_right _ (List.mem_append_right _ (List.mem_append_right _ (List.mem_append_left _ h))))))))))))))))))))))))
theorem tb_24 : ∀ w ∈ TB24, w ∈ TBL := fun w h => List.mem_append_right _ (List.mem_append_right _ (List.mem_append_right _ (List.mem_append_right _ (List.mem_append_right _ (List.mem_append_right _ (List.mem_append_right _ (List.mem_append_right _ (List.mem_append_right _ (List.mem_append_right _ (List.mem_append_right _ (List.mem_append_right _ (List.mem_append_right _ (List.mem_append_right _ (List.mem_append_right _ (List.mem_append_right _ (List.mem_append_right _ (List.mem_append_right _ (List.mem_append_right _ (List.mem_append_right _ (List.mem_append_right _ (List.mem_append_right _ (List.mem_append_right _ (List.mem_append_right _ (List.mem_append_right _ (List.mem_append_left _ h)))))))))))))))))))))))))
theorem tb_25 : ∀ w ∈ TB25, w ∈ TBL := fun w h => List.mem_append_right _ (List.mem_append_right _ (List.mem_append_right _ (List.mem_append_right _ (List.mem_append_right _ (List.mem_append_right _ (List.mem_append_right _ (List.mem_append_right _ (List.mem_append_right _ (List.mem_append_right _ (List.mem_append_right _ (List.mem_append_right _ (List.mem_append_right _ (List.mem_append_right _ (List.mem_append_right _ (List.mem_append_right _ (List.mem_append_right _ (List.mem_append_right _ (List.mem_append_right _ (List.mem_append_right _ (List.mem_append_right _ (List.mem_append_right _ (List.mem_append_right _ (List.mem_append_right _ (List.mem_append_right _ (List.mem_append_right _ (List.mem_append_left _ h))))))))))))))))))))))))))
theorem tb_26 : ∀ w ∈ TB26, w ∈ TBL := fun w h => List.mem_append_right _ (List.mem_append_right _ (List.mem_append_right _ (List.mem_append_right _ (List.mem_append_right _ (List.mem_append_right _ (List.mem_append_right _ (List.mem_append_right _ (List.mem_append_right _ (List.mem_append_right _ (List.mem_append_right _ (List.mem_append_right _ (List.mem_append_right _ (List.mem_append_right _ (List.mem_append_right _ (List.mem_append_right _ (List.mem_append_right _ (List.mem_append_right _ (List.mem_append_right _ (List.mem_append_right _ (List.mem_append_right _ (List.mem_append_right _ (List.mem_append_right _ (List.mem_append_right _ (List.mem_append_right _ (List.mem_append_right _ (List.mem_append_right _ (List.mem_append_left _ h)))))))))))))))))))))))))))
theorem tb_27 : ∀ w ∈ TB27, w ∈ TBL := fun w h => List.mem_append_right _ (List.mem_append_right _ (List.mem_append_right _ (List.mem_append_right _ (List.mem_append_right _ (List.mem_append_right _ (List.mem_append_right _ (List.mem_append_right _ (List.mem_append_right _ (List.mem_append_right _ (List.mem_append_right _ (List.mem_append_right _ (List.mem_append_right _ (List.mem_append_right _ (List.mem_append_right _ (List.mem_append_right _ (List.mem_append_right _ (List.mem_append_right _ (List.mem_append_right _ (List.mem_append_right _ (List.mem_append_right _ (List.mem_append_right _ (List.mem_append_right _ (List.mem_append_right _ (List.mem_append_right _ (List.mem_append_right _ (List.mem_append_right _ (List.mem_append_right _ (List.mem_append_left _ h))))))))))))))))))))))))))))
theorem inX12 : ∀ w ∈ u_ws "LoanHouse" TX12 17, w ∈ TBL := fun w h => List.mem_append_right _ (List.mem_append_right _ (List.mem_append_right _ (List.mem_append_right _ (List.mem_append_right _ (List.mem_append_right _ (List.mem_append_right _ (List.mem_append_right _ (List.mem_append_right _ (List.mem_append_right _ (List.mem_append_right _ (List.mem_append_right _ (List.mem_append_right _ (List.mem_append_right _ (List.mem_append_right _ (List.mem_append_right _ (List.mem_append_right _ (List.mem_append_right _ (List.mem_append_right _ (List.mem_append_right _ (List.mem_append_right _ (List.mem_append_right _ (List.mem_append_right _ (List.mem_append_right _ (List.mem_append_right _ (List.mem_append_right _ (List.mem_append_right _ (List.mem_append_right _ (List.mem_append_right _ (List.mem_append_left _ h)))))))))))))))))))))))))))))
theorem inX8 : ∀ w ∈ u_ws "LoanHouse$Tree" TX8 12, w ∈ TBL := fun w h => List.mem_append_right _ (List.mem_append_right _ (List.mem_append_right _ (List.mem_append_right _ (List.mem_append_right _ (List.mem_append_right _ (List.mem_append_right _ (List.mem_append_right _ (List.mem_append_right _ (List.mem_append_right _ (List.mem_append_right _ (List.mem_append_right _ (List.mem_append_right _ (List.mem_append_right _ (List.mem_append_right _ (List.mem_append_right _ (List.mem_append_right _ (List.mem_append_right _ (List.mem_append_right _ (List.mem_append_right _ (List.mem_append_right _ (List.mem_append_right _ (List.mem_append_right _ (List.mem_append_right _ (List.mem_append_right _ (List.mem_append_right _ (List.mem_append_right _ (List.mem_append_right _ (List.mem_append_right _ (List.mem_append_right _ (List.mem_append_left _ h))))))))))))))))))))))))))))))
theorem inX6 : ∀ w ∈ u_ws "LoanHouse$Reader" TX6 18, w ∈ TBL := fun w h => List.mem_append_right _ (List.mem_append_right _ (List.mem_append_right _ (List.mem_append_right _ (List.mem_append_right _ (List.mem_append_right _ (List.mem_append_right _ (List.mem_append_right _ (List.mem_append_right _ (List.mem_append_right _ (List.mem_append_right _ (List.mem_append_right _ (List.mem_append_right _ (List.mem_append_right _ (List.mem_append_right _ (List.mem_append_right _ (List.mem_append_right _ (List.mem_append_right _ (List.mem_append_right _ (List.mem_append_right _ (List.mem_append_right _ (List.mem_append_right _ (List.mem_append_right _ (List.mem_append_right _ (List.mem_append_right _ (List.mem_append_right _ (List.mem_append_right _ (List.mem_append_right _ (List.mem_append_right _ (List.mem_append_right _ (List.mem_append_right _ (List.mem_append_left _ h)))))))))))))))))))))))))))))))
theorem inX0 : ∀ w ∈ u_ws "LoanHouse$Checker" TX0 11, w ∈ TBL := fun w h => List.mem_append_right _ (List.mem_append_right _ (List.mem_append_right _ (List.mem_append_right _ (List.mem_append_right _ (List.mem_append_right _ (List.mem_append_right _ (List.mem_append_right _ (List.mem_append_right _ (List.mem_append_right _ (List.mem_append_right _ (List.mem_append_right _ (List.mem_append_right _ (List.mem_append_right _ (List.mem_append_right _ (List.mem_append_right _ (List.mem_append_right _ (List.mem_append_right _ (List.mem_append_right _ (List.mem_append_right _ (List.mem_append_right _ (List.mem_append_right _ (List.mem_append_right _ (List.mem_append_right _ (List.mem_append_right _ (List.mem_append_right _ (List.mem_append_right _ (List.mem_append_right _ (List.mem_append_right _ (List.mem_append_right _ (List.mem_append_right _ (List.mem_append_right _ (List.mem_append_left _ h))))))))))))))))))))))))))))))))
theorem inX1 : ∀ w ∈ u_ws "LoanHouse$Emitter" TX1 10, w ∈ TBL := fun w h => List.mem_append_right _ (List.mem_append_right _ (List.mem_append_right _ (List.mem_append_right _ (List.mem_append_right _ (List.mem_append_right _ (List.mem_append_right _ (List.mem_append_right _ (List.mem_append_right _ (List.mem_append_right _ (List.mem_append_right _ (List.mem_append_right _ (List.mem_append_right _ (List.mem_append_right _ (List.mem_append_right _ (List.mem_append_right _ (List.mem_append_right _ (List.mem_append_right _ (List.mem_append_right _ (List.mem_append_right _ (List.mem_append_right _ (List.mem_append_right _ (List.mem_append_right _ (List.mem_append_right _ (List.mem_append_right _ (List.mem_append_right _ (List.mem_append_right _ (List.mem_append_right _ (List.mem_append_right _ (List.mem_append_right _ (List.mem_append_right _ (List.mem_append_right _ (List.mem_append_right _ (List.mem_append_left _ h)))))))))))))))))))))))))))))))))
theorem inX11 : ∀ w ∈ u_ws "LoanHouse$Ways" TX11 22, w ∈ TBL := fun w h => List.mem_append_right _ (List.mem_append_right _ (List.mem_append_right _ (List.mem_append_right _ (List.mem_append_right _ (List.mem_append_right _ (List.mem_append_right _ (List.mem_append_right _ (List.mem_append_right _ (List.mem_append_right _ (List.mem_append_right _ (List.mem_append_right _ (List.mem_append_right _ (List.mem_append_right _ (List.mem_append_right _ (List.mem_append_right _ (List.mem_append_right _ (List.mem_append_right _ (List.mem_append_right _ (List.mem_append_right _ (List.mem_append_right _ (List.mem_append_right _ (List.mem_append_right _ (List.mem_append_right _ (List.mem_append_right _ (List.mem_append_right _ (List.mem_append_right _ (List.mem_append_right _ (List.mem_append_right _ (List.mem_append_right _ (List.mem_append_right _ (List.mem_append_right _ (List.mem_append_right _ (List.mem_append_right _ (List.mem_append_left _ h))))))))))))))))))))))))))))))))))
theorem inX3 : ∀ w ∈ u_ws "LoanHouse$Machine" TX3 21, w ∈ TBL := fun w h => List.mem_append_right _ (List.mem_append_right _ (List.mem_append_right _ (List.mem_append_right _ (List.mem_append_right _ (List.mem_append_right _ (List.mem_append_right _ (List.mem_append_right _ (List.mem_append_right _ (List.mem_append_right _ (List.mem_append_right _ (List.mem_append_right _ (List.mem_append_right _ (List.mem_append_right _ (List.mem_append_right _ (List.mem_append_right _ (List.mem_append_right _ (List.mem_append_right _ (List.mem_append_right _ (List.mem_append_right _ (List.mem_append_right _ (List.mem_append_right _ (List.mem_append_right _ (List.mem_append_right _ (List.mem_append_right _ (List.mem_append_right _ (List.mem_append_right _ (List.mem_append_right _ (List.mem_append_right _ (List.mem_append_right _ (List.mem_append_right _ (List.mem_append_right _ (List.mem_append_right _ (List.mem_append_right _ (List.mem_append_right _ (List.mem_append_left _ h)))))))))))))))))))))))))))))))))))
theorem inX7 : ∀ w ∈ u_ws "LoanHouse$Store" TX7 19, w ∈ TBL := fun w h => List.mem_append_right _ (List.mem_append_right _ (List.mem_append_right _ (List.mem_append_right _ (List.mem_append_right _ (List.mem_append_right _ (List.mem_append_right _ (List.mem_append_right _ (List.mem_append_right _ (List.mem_append_right _ (List.mem_append_right _ (List.mem_append_right _ (List.mem_append_right _ (List.mem_append_right _ (List.mem_append_right _ (List.mem_append_right _ (List.mem_append_right _ (List.mem_append_right _ (List.mem_append_right _ (List.mem_append_right _ (List.mem_append_right _ (List.mem_append_right _ (List.mem_append_right _ (List.mem_append_right _ (List.mem_append_right _ (List.mem_append_right _ (List.mem_append_right _ (List.mem_append_right _ (List.mem_append_right _ (List.mem_append_right _ (List.mem_append_right _ (List.mem_append_right _ (List.mem_append_right _ (List.mem_append_right _ (List.mem_append_right _ (List.mem_append_right _ (List.mem_append_left _ h))))))))))))))))))))))))))))))))))))
theorem inX5 : ∀ w ∈ u_ws "LoanHouse$Program" TX5 15, w ∈ TBL := fun w h => List.mem_append_right _ (List.mem_append_right _ (List.mem_append_right _ (List.mem_append_right _ (List.mem_append_right _ (List.mem_append_right _ (List.mem_append_right _ (List.mem_append_right _ (List.mem_append_right _ (List.mem_append_right _ (List.mem_append_right _ (List.mem_append_right _ (List.mem_append_right _ (List.mem_append_right _ (List.mem_append_right _ (List.mem_append_right _ (List.mem_append_right _ (List.mem_append_right _ (List.mem_append_right _ (List.mem_append_right _ (List.mem_append_right _ (List.mem_append_right _ (List.mem_append_right _ (List.mem_append_right _ (List.mem_append_right _ (List.mem_append_right _ (List.mem_append_right _ (List.mem_append_right _ (List.mem_append_right _ (List.mem_append_right _ (List.mem_append_right _ (List.mem_append_right _ (List.mem_append_right _ (List.mem_append_right _ (List.mem_append_right _ (List.mem_append_right _ (List.mem_append_right _ (List.mem_append_left _ h)))))))))))))))))))))))))))))))))))))
theorem inX9 : ∀ w ∈ u_ws "LoanHouse$Types" TX9 19, w ∈ TBL := fun w h => List.mem_append_right _ (List.mem_append_right _ (List.mem_append_right _ (List.mem_append_right _ (List.mem_append_right _ (List.mem_append_right _ (List.mem_append_right _ (List.mem_append_right _ (List.mem_append_right _ (List.mem_append_right _ (List.mem_append_right _ (List.mem_append_right _ (List.mem_append_right _ (List.mem_append_right _ (List.mem_append_right _ (List.mem_append_right _ (List.mem_append_right _ (List.mem_append_right _ (List.mem_append_right _ (List.mem_append_right _ (List.mem_append_right _ (List.mem_append_right _ (List.mem_append_right _ (List.mem_append_right _ (List.mem_append_right _ (List.mem_append_right _ (List.mem_append_right _ (List.mem_append_right _ (List.mem_append_right _ (List.mem_append_right _ (List.mem_append_right _ (List.mem_append_right _ (List.mem_append_right _ (List.mem_append_right _ (List.mem_append_right _ (List.mem_append_right _ (List.mem_append_right _ (List.mem_append_right _ (List.mem_append_left _ h))))))))))))))))))))))))))))))))))))))
theorem inX2 : ∀ w ∈ u_ws "LoanHouse$Functions" TX2 19, w ∈ TBL := fun w h => List.mem_append_right _ (List.mem_append_right _ (List.mem_append_right _ (List.mem_append_right _ (List.mem_append_right _ (List.mem_append_right _ (List.mem_append_right _ (List.mem_append_right _ (List.mem_append_right _ (List.mem_append_right _ (List.mem_append_right _ (List.mem_append_right _ (List.mem_append_right _ (List.mem_append_right _ (List.mem_append_right _ (List.mem_append_right _ (List.mem_append_right _ (List.mem_append_right _ (List.mem_append_right _ (List.mem_append_right _ (List.mem_append_right _ (List.mem_append_right _ (List.mem_append_right _ (List.mem_append_right _ (List.mem_append_right _ (List.mem_append_right _ (List.mem_append_right _ (List.mem_append_right _ (List.mem_append_right _ (List.mem_append_right _ (List.mem_append_right _ (List.mem_append_right _ (List.mem_append_right _ (List.mem_append_right _ (List.mem_append_right _ (List.mem_append_right _ (List.mem_append_right _ (List.mem_append_right _ (List.mem_append_right _ (List.mem_append_left _ h)))))))))))))))))))))))))))))))))))))))
theorem inX10 : ∀ w ∈ u_ws "LoanHouse$Variables" TX10 12, w ∈ TBL := fun w h => List.mem_append_right _ (List.mem_append_right _ (List.mem_append_right _ (List.mem_append_right _ (List.mem_append_right _ (List.mem_append_right _ (List.mem_append_right _ (List.mem_append_right _ (List.mem_append_right _ (List.mem_append_right _ (List.mem_append_right _ (List.mem_append_right _ (List.mem_append_right _ (List.mem_append_right _ (List.mem_append_right _ (List.mem_append_right _ (List.mem_append_right _ (List.mem_append_right _ (List.mem_append_right _ (List.mem_append_right _ (List.mem_append_right _ (List.mem_append_right _ (List.mem_append_right _ (List.mem_append_right _ (List.mem_append_right _ (List.mem_append_right _ (List.mem_append_right _ (List.mem_append_right _ (List.mem_append_right _ (List.mem_append_right _ (List.mem_append_right _ (List.mem_append_right _ (List.mem_append_right _ (List.mem_append_right _ (List.mem_append_right _ (List.mem_append_right _ (List.mem_append_right _ (List.mem_append_right _ (List.mem_append_right _ (List.mem_append_right _ (List.mem_append_left _ h))))))))))))))))))))))))))))))))))))))))
theorem inX4 : ∀ w ∈ u_ws "LoanHouse$Places" TX4 20, w ∈ TBL := fun w h => List.mem_append_right _ (List.mem_append_right _ (List.mem_append_right _ (List.mem_append_right _ (List.mem_append_right _ (List.mem_append_right _ (List.mem_append_right _ (List.mem_append_right _ (List.mem_append_right _ (List.mem_append_right _ (List.mem_append_right _ (List.mem_append_right _ (List.mem_append_right _ (List.mem_append_right _ (List.mem_append_right _ (List.mem_append_right _ (List.mem_append_right _ (List.mem_append_right _ (List.mem_append_right _ (List.mem_append_right _ (List.mem_append_right _ (List.mem_append_right _ (List.mem_append_right _ (List.mem_append_right _ (List.mem_append_right _ (List.mem_append_right _ (List.mem_append_right _ (List.mem_append_right _ (List.mem_append_right _ (List.mem_append_right _ (List.mem_append_right _ (List.mem_append_right _ (List.mem_append_right _ (List.mem_append_right _ (List.mem_append_right _ (List.mem_append_right _ (List.mem_append_right _ (List.mem_append_right _ (List.mem_append_right _ (List.mem_append_right _ (List.mem_append_right _ (List.mem_append_left _ h)))))))))))))))))))))))))))))))))))))))))
theorem inX30 : ∀ w ∈ u_ws "LoanHouseModel" TX30 95, w ∈ TBL := fun w h => List.mem_append_right _ (List.mem_append_right _ (List.mem_append_right _ (List.mem_append_right _ (List.mem_append_right _ (List.mem_append_right _ (List.mem_append_right _ (List.mem_append_right _ (List.mem_append_right _ (List.mem_append_right _ (List.mem_append_right _ (List.mem_append_right _ (List.mem_append_right _ (List.mem_append_right _ (List.mem_append_right _ (List.mem_append_right _ (List.mem_append_right _ (List.mem_append_right _ (List.mem_append_right _ (List.mem_append_right _ (List.mem_append_right _ (List.mem_append_right _ (List.mem_append_right _ (List.mem_append_right _ (List.mem_append_right _ (List.mem_append_right _ (List.mem_append_right _ (List.mem_append_right _ (List.mem_append_right _ (List.mem_append_right _ (List.mem_append_right _ (List.mem_append_right _ (List.mem_append_right _ (List.mem_append_right _ (List.mem_append_right _ (List.mem_append_right _ (List.mem_append_right _ (List.mem_append_right _ (List.mem_append_right _ (List.mem_append_right _ (List.mem_append_right _ (List.mem_append_right _ (List.mem_append_left _ h))))))))))))))))))))))))))))))))))))))))))
theorem inX26 : ∀ w ∈ u_ws "LoanHouseModel$Type" TX26 3, w ∈ TBL := fun w h => List.mem_append_right _ (List.mem_append_right _ (List.mem_append_right _ (List.mem_append_right _ (List.mem_append_right _ (List.mem_append_right _ (List.mem_append_right _ (List.mem_append_right _ (List.mem_append_right _ (List.mem_append_right _ (List.mem_append_right _ (List.mem_append_right _ (List.mem_append_right _ (List.mem_append_right _ (List.mem_append_right _ (List.mem_append_right _ (List.mem_append_right _ (List.mem_append_right _ (List.mem_append_right _ (List.mem_append_right _ (List.mem_append_right _ (List.mem_append_right _ (List.mem_append_right _ (List.mem_append_right _ (List.mem_append_right _ (List.mem_append_right _ (List.mem_append_right _ (List.mem_append_right _ (List.mem_append_right _ (List.mem_append_right _ (List.mem_append_right _ (List.mem_append_right _ (List.mem_append_right _ (List.mem_append_right _ (List.mem_append_right _ (List.mem_append_right _ (List.mem_append_right _ (List.mem_append_right _ (List.mem_append_right _ (List.mem_append_right _ (List.mem_append_right _ (List.mem_append_right _ (List.mem_append_right _ (List.mem_append_left _ h)))))))))))))))))))))))))))))))))))))))))))
theorem inX23 : ∀ w ∈ u_ws "LoanHouseModel$Program" TX23 4, w ∈ TBL := fun w h => List.mem_append_right _ (List.mem_append_right _ (List.mem_append_right _ (List.mem_append_right _ (List.mem_append_right _ (List.mem_append_right _ (List.mem_append_right _ (List.mem_append_right _ (List.mem_append_right _ (List.mem_append_right _ (List.mem_append_right _ (List.mem_append_right _ (List.mem_append_right _ (List.mem_append_right _ (List.mem_append_right _ (List.mem_append_right _ (List.mem_append_right _ (List.mem_append_right _ (List.mem_append_right _ (List.mem_append_right _ (List.mem_append_right _ (List.mem_append_right _ (List.mem_append_right _ (List.mem_append_right _ (List.mem_append_right _ (List.mem_append_right _ (List.mem_append_right _ (List.mem_append_right _ (List.mem_append_right _ (List.mem_append_right _ (List.mem_append_right _ (List.mem_append_right _ (List.mem_append_right _ (List.mem_append_right _ (List.mem_append_right _ (List.mem_append_right _ (List.mem_append_right _ (List.mem_append_right _ (List.mem_append_right _ (List.mem_append_right _ (List.mem_append_right _ (List.mem_append_right _ (List.mem_append_right _ (List.mem_append_right _ (List.mem_append_left _ h))))))))))))))))))))))))))))))))))))))))))))
theorem inJ4 : ∀ w ∈ u_ws "java/lang/StringBuilder" TJ4 4, w ∈ TBL := fun w h => List.mem_append_right _ (List.mem_append_right _ (List.mem_append_right _ (List.mem_append_right _ (List.mem_append_right _ (List.mem_append_right _ (List.mem_append_right _ (List.mem_append_right _ (List.mem_append_right _ (List.mem_append_right _ (List.mem_append_right _ (List.mem_append_right _ (List.mem_append_right _ (List.mem_append_right _ (List.mem_append_right _ (List.mem_append_right _ (List.mem_append_right _ (List.mem_append_right _ (List.mem_append_right _ (List.mem_append_right _ (List.mem_append_right _ (List.mem_append_right _ (List.mem_append_right _ (List.mem_append_right _ (List.mem_append_right _ (List.mem_append_right _ (List.mem_append_right _ (List.mem_append_right _ (List.mem_append_right _ (List.mem_append_right _ (List.mem_append_right _ (List.mem_append_right _ (List.mem_append_right _ (List.mem_append_right _ (List.mem_append_right _ (List.mem_append_right _ (List.mem_append_right _ (List.mem_append_right _ (List.mem_append_right _ (List.mem_append_right _ (List.mem_append_right _ (List.mem_append_right _ (List.mem_append_right _ (List.mem_append_right _ (List.mem_append_right _ (List.mem_append_left _ h)))))))))))))))))))))))))))))))))))))))))))))
theorem inJ0 : ∀ w ∈ u_ws "java/lang/String" TJ0 4, w ∈ TBL := fun w h => List.mem_append_right _ (List.mem_append_right _ (List.mem_append_right _ (List.mem_append_right _ (List.mem_append_right _ (List.mem_append_right _ (List.mem_append_right _ (List.mem_append_right _ (List.mem_append_right _ (List.mem_append_right _ (List.mem_append_right _ (List.mem_append_right _ (List.mem_append_right _ (List.mem_append_right _ (List.mem_append_right _ (List.mem_append_right _ (List.mem_append_right _ (List.mem_append_right _ (List.mem_append_right _ (List.mem_append_right _ (List.mem_append_right _ (List.mem_append_right _ (List.mem_append_right _ (List.mem_append_right _ (List.mem_append_right _ (List.mem_append_right _ (List.mem_append_right _ (List.mem_append_right _ (List.mem_append_right _ (List.mem_append_right _ (List.mem_append_right _ (List.mem_append_right _ (List.mem_append_right _ (List.mem_append_right _ (List.mem_append_right _ (List.mem_append_right _ (List.mem_append_right _ (List.mem_append_right _ (List.mem_append_right _ (List.mem_append_right _ (List.mem_append_right _ (List.mem_append_right _ (List.mem_append_right _ (List.mem_append_right _ (List.mem_append_right _ (List.mem_append_right _ (List.mem_append_left _ h))))))))))))))))))))))))))))))))))))))))))))))
theorem inJx4a65c : ∀ w ∈ u_ws "java/util/ArrayList" TJx4a65c 3, w ∈ TBL := fun w h => List.mem_append_right _ (List.mem_append_right _ (List.mem_append_right _ (List.mem_append_right _ (List.mem_append_right _ (List.mem_append_right _ (List.mem_append_right _ (List.mem_append_right _ (List.mem_append_right _ (List.mem_append_right _ (List.mem_append_right _ (List.mem_append_right _ (List.mem_append_right _ (List.mem_append_right _ (List.mem_append_right _ (List.mem_append_right _ (List.mem_append_right _ (List.mem_append_right _ (List.mem_append_right _ (List.mem_append_right _ (List.mem_append_right _ (List.mem_append_right _ (List.mem_append_right _ (List.mem_append_right _ (List.mem_append_right _ (List.mem_append_right _ (List.mem_append_right _ (List.mem_append_right _ (List.mem_append_right _ (List.mem_append_right _ (List.mem_append_right _ (List.mem_append_right _ (List.mem_append_right _ (List.mem_append_right _ (List.mem_append_right _ (List.mem_append_right _ (List.mem_append_right _ (List.mem_append_right _ (List.mem_append_right _ (List.mem_append_right _ (List.mem_append_right _ (List.mem_append_right _ (List.mem_append_right _ (List.mem_append_right _ (List.mem_append_right _ (List.mem_append_right _ (List.mem_append_right _ (h)))))))))))))))))))))))))))))))))))))))))))))))
theorem w_0 : Cond.instanceMethod objectInit ∈ TBL := tb_0 _ (List.mem_of_getElem? (i := 0) rfl)
theorem w_1 : Cond.code objectInit ⟨#[0xb1]⟩ 1 none ∈ TBL := tb_0 _ (List.mem_of_getElem? (i := 1) rfl)
theorem w_2 : Cond.code yX12_init cX12_init 1 none ∈ TBL := tb_0 _ (List.mem_of_getElem? (i := 2) rfl)
theorem w_3 : Cond.initialized "LoanHouse" ∈ TBL := tb_0 _ (List.mem_of_getElem? (i := 3) rfl)
theorem w_4 : Cond.instanceMethod yX12_init ∈ TBL := tb_0 _ (List.mem_of_getElem? (i := 4) rfl)
theorem w_5 : Cond.methodLink "LoanHouse" 3 objectInit ∈ TBL := tb_0 _ (List.mem_of_getElem? (i := 5) rfl)
theorem w_6 : Cond.arrayClass .byte ∈ TBL := tb_0 _ (List.mem_of_getElem? (i := 6) rfl)
theorem w_7 : Cond.fieldLink "LoanHouse" 9 "LoanHouse" "text" "[B" ∈ TBL := tb_0 _ (List.mem_of_getElem? (i := 7) rfl)
theorem w_8 : Cond.arrayClass .long ∈ TBL := tb_0 _ (List.mem_of_getElem? (i := 8) rfl)
theorem w_9 : Cond.fieldLink "LoanHouse" 13 "LoanHouse" "given" "[J" ∈ TBL := tb_0 _ (List.mem_of_getElem? (i := 9) rfl)
theorem w_10 : Cond.classLink "LoanHouse" 17 "LoanHouse$Tree" ∈ TBL := tb_0 _ (List.mem_of_getElem? (i := 10) rfl)
theorem w_11 : Cond.instantiable "LoanHouse$Tree" 12 ∈ TBL := tb_0 _ (List.mem_of_getElem? (i := 11) rfl)
theorem w_12 : Cond.initialized "LoanHouse$Tree" ∈ TBL := tb_0 _ (List.mem_of_getElem? (i := 12) rfl)
theorem w_13 : Cond.fieldLink "LoanHouse" 20 "LoanHouse" "tree" "LLoanHouse$Tree;" ∈ TBL := tb_0 _ (List.mem_of_getElem? (i := 13) rfl)
theorem w_14 : Cond.classLink "LoanHouse" 24 "LoanHouse$Reader" ∈ TBL := tb_0 _ (List.mem_of_getElem? (i := 14) rfl)
theorem w_15 : Cond.instantiable "LoanHouse$Reader" 18 ∈ TBL := tb_0 _ (List.mem_of_getElem? (i := 15) rfl)
theorem w_16 : Cond.initialized "LoanHouse$Reader" ∈ TBL := tb_0 _ (List.mem_of_getElem? (i := 16) rfl)
theorem w_17 : Cond.fieldLink "LoanHouse" 29 "LoanHouse" "reader" "LLoanHouse$Reader;" ∈ TBL := tb_0 _ (List.mem_of_getElem? (i := 17) rfl)
theorem w_18 : Cond.classLink "LoanHouse" 33 "LoanHouse$Checker" ∈ TBL := tb_0 _ (List.mem_of_getElem? (i := 18) rfl)
theorem w_19 : Cond.instantiable "LoanHouse$Checker" 11 ∈ TBL := tb_0 _ (List.mem_of_getElem? (i := 19) rfl)
theorem w_20 : Cond.initialized "LoanHouse$Checker" ∈ TBL := tb_0 _ (List.mem_of_getElem? (i := 20) rfl)
theorem w_21 : Cond.fieldLink "LoanHouse" 36 "LoanHouse" "checker" "LLoanHouse$Checker;" ∈ TBL := tb_0 _ (List.mem_of_getElem? (i := 21) rfl)
theorem w_22 : Cond.classLink "LoanHouse" 40 "LoanHouse$Emitter" ∈ TBL := tb_0 _ (List.mem_of_getElem? (i := 22) rfl)
theorem w_23 : Cond.instantiable "LoanHouse$Emitter" 10 ∈ TBL := tb_0 _ (List.mem_of_getElem? (i := 23) rfl)
theorem w_24 : Cond.initialized "LoanHouse$Emitter" ∈ TBL := tb_0 _ (List.mem_of_getElem? (i := 24) rfl)
theorem w_25 : Cond.fieldLink "LoanHouse" 43 "LoanHouse" "emitter" "LLoanHouse$Emitter;" ∈ TBL := tb_0 _ (List.mem_of_getElem? (i := 25) rfl)
theorem w_26 : Cond.classLink "LoanHouse" 47 "LoanHouse$Ways" ∈ TBL := tb_0 _ (List.mem_of_getElem? (i := 26) rfl)
theorem w_27 : Cond.instantiable "LoanHouse$Ways" 22 ∈ TBL := tb_0 _ (List.mem_of_getElem? (i := 27) rfl)
theorem w_28 : Cond.initialized "LoanHouse$Ways" ∈ TBL := tb_0 _ (List.mem_of_getElem? (i := 28) rfl)
theorem w_29 : Cond.fieldLink "LoanHouse" 50 "LoanHouse" "ways" "LLoanHouse$Ways;" ∈ TBL := tb_0 _ (List.mem_of_getElem? (i := 29) rfl)
theorem w_30 : Cond.classLink "LoanHouse" 54 "LoanHouse$Machine" ∈ TBL := tb_1 _ (List.mem_of_getElem? (i := 0) rfl)
theorem w_31 : Cond.instantiable "LoanHouse$Machine" 21 ∈ TBL := tb_1 _ (List.mem_of_getElem? (i := 1) rfl)
theorem w_32 : Cond.initialized "LoanHouse$Machine" ∈ TBL := tb_1 _ (List.mem_of_getElem? (i := 2) rfl)
theorem w_33 : Cond.fieldLink "LoanHouse" 57 "LoanHouse" "machine" "LLoanHouse$Machine;" ∈ TBL := tb_1 _ (List.mem_of_getElem? (i := 3) rfl)
theorem w_34 : Cond.classLink "LoanHouse" 61 "LoanHouse$Program" ∈ TBL := tb_1 _ (List.mem_of_getElem? (i := 4) rfl)
theorem w_35 : Cond.instantiable "LoanHouse$Program" 15 ∈ TBL := tb_1 _ (List.mem_of_getElem? (i := 5) rfl)
theorem w_36 : Cond.initialized "LoanHouse$Program" ∈ TBL := tb_1 _ (List.mem_of_getElem? (i := 6) rfl)
theorem w_37 : Cond.fieldLink "LoanHouse" 64 "LoanHouse" "program" "LLoanHouse$Program;" ∈ TBL := tb_1 _ (List.mem_of_getElem? (i := 7) rfl)
theorem w_38 : Cond.fieldLink "LoanHouse" 68 "LoanHouse" "faultKind" "I" ∈ TBL := tb_1 _ (List.mem_of_getElem? (i := 8) rfl)
theorem w_39 : Cond.fieldLink "LoanHouse" 72 "LoanHouse" "faultPlace" "I" ∈ TBL := tb_1 _ (List.mem_of_getElem? (i := 9) rfl)
theorem w_40 : Cond.fieldLink "LoanHouse" 75 "LoanHouse" "faultOther" "I" ∈ TBL := tb_1 _ (List.mem_of_getElem? (i := 10) rfl)
theorem w_41 : Cond.code yX12_feed cX12_feed 6 (some .int) ∈ TBL := tb_1 _ (List.mem_of_getElem? (i := 11) rfl)
theorem w_42 : Cond.instanceMethod yX12_feed ∈ TBL := tb_1 _ (List.mem_of_getElem? (i := 12) rfl)
theorem w_43 : Cond.selects "LoanHouse" yX12_feed yX12_feed ∈ TBL := tb_1 _ (List.mem_of_getElem? (i := 13) rfl)
theorem w_44 : Cond.fieldLink "LoanHouse" 78 "LoanHouse" "textLength" "I" ∈ TBL := tb_1 _ (List.mem_of_getElem? (i := 14) rfl)
theorem w_45 : Cond.methodLink "LoanHouse" 81 yX12_feedNumber ∈ TBL := tb_1 _ (List.mem_of_getElem? (i := 15) rfl)
theorem w_46 : Cond.code yX12_feedNumber cX12_feedNumber 3 none ∈ TBL := tb_1 _ (List.mem_of_getElem? (i := 16) rfl)
theorem w_47 : Cond.instanceMethod yX12_feedNumber ∈ TBL := tb_1 _ (List.mem_of_getElem? (i := 17) rfl)
theorem w_48 : Cond.selects "LoanHouse" yX12_feedNumber yX12_feedNumber ∈ TBL := tb_1 _ (List.mem_of_getElem? (i := 18) rfl)
theorem w_49 : Cond.code yX12_judge cX12_judge 2 (some .int) ∈ TBL := tb_1 _ (List.mem_of_getElem? (i := 19) rfl)
theorem w_50 : Cond.instanceMethod yX12_judge ∈ TBL := tb_1 _ (List.mem_of_getElem? (i := 20) rfl)
theorem w_51 : Cond.selects "LoanHouse" yX12_judge yX12_judge ∈ TBL := tb_1 _ (List.mem_of_getElem? (i := 21) rfl)
theorem w_52 : Cond.methodLink "LoanHouse" 89 yX12_judgeTree ∈ TBL := tb_1 _ (List.mem_of_getElem? (i := 22) rfl)
theorem w_53 : Cond.code yX12_judgeTree cX12_judgeTree 3 (some .int) ∈ TBL := tb_1 _ (List.mem_of_getElem? (i := 23) rfl)
theorem w_54 : Cond.instanceMethod yX12_judgeTree ∈ TBL := tb_1 _ (List.mem_of_getElem? (i := 24) rfl)
theorem w_55 : Cond.selects "LoanHouse" yX12_judgeTree yX12_judgeTree ∈ TBL := tb_1 _ (List.mem_of_getElem? (i := 25) rfl)
theorem w_56 : Cond.fieldLink "LoanHouse" 96 "LoanHouse" "hasProgram" "Z" ∈ TBL := tb_1 _ (List.mem_of_getElem? (i := 26) rfl)
theorem w_57 : Cond.fieldLink "LoanHouse" 100 "LoanHouse" "next" "LLoanHouse$Program;" ∈ TBL := tb_1 _ (List.mem_of_getElem? (i := 27) rfl)
theorem w_58 : Cond.code yX12_fault cX12_fault 2 (some .int) ∈ TBL := tb_1 _ (List.mem_of_getElem? (i := 28) rfl)
theorem w_59 : Cond.instanceMethod yX12_fault ∈ TBL := tb_1 _ (List.mem_of_getElem? (i := 29) rfl)
theorem w_60 : Cond.selects "LoanHouse" yX12_fault yX12_fault ∈ TBL := tb_2 _ (List.mem_of_getElem? (i := 0) rfl)
theorem w_61 : Cond.code yX12_give cX12_give 3 (some .int) ∈ TBL := tb_2 _ (List.mem_of_getElem? (i := 1) rfl)
theorem w_62 : Cond.instanceMethod yX12_give ∈ TBL := tb_2 _ (List.mem_of_getElem? (i := 2) rfl)
theorem w_63 : Cond.selects "LoanHouse" yX12_give yX12_give ∈ TBL := tb_2 _ (List.mem_of_getElem? (i := 3) rfl)
theorem w_64 : Cond.fieldLink "LoanHouse" 133 "LoanHouse" "givenTotal" "I" ∈ TBL := tb_2 _ (List.mem_of_getElem? (i := 4) rfl)
theorem w_65 : Cond.code yX12_run cX12_run 2 (some .int) ∈ TBL := tb_2 _ (List.mem_of_getElem? (i := 5) rfl)
theorem w_66 : Cond.instanceMethod yX12_run ∈ TBL := tb_2 _ (List.mem_of_getElem? (i := 6) rfl)
theorem w_67 : Cond.selects "LoanHouse" yX12_run yX12_run ∈ TBL := tb_2 _ (List.mem_of_getElem? (i := 7) rfl)
theorem w_68 : Cond.constant "LoanHouse" 136 (50000) ∈ TBL := tb_2 _ (List.mem_of_getElem? (i := 8) rfl)
theorem w_69 : Cond.fieldLink "LoanHouse" 103 "LoanHouse" "hasRun" "Z" ∈ TBL := tb_2 _ (List.mem_of_getElem? (i := 9) rfl)
theorem w_70 : Cond.code yX12_about cX12_about 2 (some .int) ∈ TBL := tb_2 _ (List.mem_of_getElem? (i := 10) rfl)
theorem w_71 : Cond.instanceMethod yX12_about ∈ TBL := tb_2 _ (List.mem_of_getElem? (i := 11) rfl)
theorem w_72 : Cond.selects "LoanHouse" yX12_about yX12_about ∈ TBL := tb_2 _ (List.mem_of_getElem? (i := 12) rfl)
theorem w_73 : Cond.code yX12_out cX12_out 3 (some .long) ∈ TBL := tb_2 _ (List.mem_of_getElem? (i := 13) rfl)
theorem w_74 : Cond.instanceMethod yX12_out ∈ TBL := tb_2 _ (List.mem_of_getElem? (i := 14) rfl)
theorem w_75 : Cond.selects "LoanHouse" yX12_out yX12_out ∈ TBL := tb_2 _ (List.mem_of_getElem? (i := 15) rfl)
theorem w_76 : Cond.code yX12_count cX12_count 2 (some .int) ∈ TBL := tb_2 _ (List.mem_of_getElem? (i := 16) rfl)
theorem w_77 : Cond.instanceMethod yX12_count ∈ TBL := tb_2 _ (List.mem_of_getElem? (i := 17) rfl)
theorem w_78 : Cond.selects "LoanHouse" yX12_count yX12_count ∈ TBL := tb_2 _ (List.mem_of_getElem? (i := 18) rfl)
theorem w_79 : Cond.code yX12_place cX12_place 3 (some .int) ∈ TBL := tb_2 _ (List.mem_of_getElem? (i := 19) rfl)
theorem w_80 : Cond.instanceMethod yX12_place ∈ TBL := tb_2 _ (List.mem_of_getElem? (i := 20) rfl)
theorem w_81 : Cond.selects "LoanHouse" yX12_place yX12_place ∈ TBL := tb_2 _ (List.mem_of_getElem? (i := 21) rfl)
theorem w_82 : Cond.code yX12_loan cX12_loan 3 (some .int) ∈ TBL := tb_2 _ (List.mem_of_getElem? (i := 22) rfl)
theorem w_83 : Cond.instanceMethod yX12_loan ∈ TBL := tb_2 _ (List.mem_of_getElem? (i := 23) rfl)
theorem w_84 : Cond.selects "LoanHouse" yX12_loan yX12_loan ∈ TBL := tb_2 _ (List.mem_of_getElem? (i := 24) rfl)
theorem w_85 : Cond.code yX12_force cX12_force 3 (some .int) ∈ TBL := tb_2 _ (List.mem_of_getElem? (i := 25) rfl)
theorem w_86 : Cond.instanceMethod yX12_force ∈ TBL := tb_2 _ (List.mem_of_getElem? (i := 26) rfl)
theorem w_87 : Cond.selects "LoanHouse" yX12_force yX12_force ∈ TBL := tb_2 _ (List.mem_of_getElem? (i := 27) rfl)
theorem w_88 : Cond.code yX12_function cX12_function 3 (some .int) ∈ TBL := tb_2 _ (List.mem_of_getElem? (i := 28) rfl)
theorem w_89 : Cond.instanceMethod yX12_function ∈ TBL := tb_2 _ (List.mem_of_getElem? (i := 29) rfl)
theorem w_90 : Cond.selects "LoanHouse" yX12_function yX12_function ∈ TBL := tb_3 _ (List.mem_of_getElem? (i := 0) rfl)
theorem w_91 : Cond.code yX12_size cX12_size 2 (some .int) ∈ TBL := tb_3 _ (List.mem_of_getElem? (i := 1) rfl)
theorem w_92 : Cond.instanceMethod yX12_size ∈ TBL := tb_3 _ (List.mem_of_getElem? (i := 2) rfl)
theorem w_93 : Cond.selects "LoanHouse" yX12_size yX12_size ∈ TBL := tb_3 _ (List.mem_of_getElem? (i := 3) rfl)
theorem w_94 : Cond.code yX12_strays cX12_strays 1 (some .int) ∈ TBL := tb_3 _ (List.mem_of_getElem? (i := 4) rfl)
theorem w_95 : Cond.instanceMethod yX12_strays ∈ TBL := tb_3 _ (List.mem_of_getElem? (i := 5) rfl)
theorem w_96 : Cond.selects "LoanHouse" yX12_strays yX12_strays ∈ TBL := tb_3 _ (List.mem_of_getElem? (i := 6) rfl)
theorem w_97 : Cond.code yX12_twices cX12_twices 1 (some .int) ∈ TBL := tb_3 _ (List.mem_of_getElem? (i := 7) rfl)
theorem w_98 : Cond.instanceMethod yX12_twices ∈ TBL := tb_3 _ (List.mem_of_getElem? (i := 8) rfl)
theorem w_99 : Cond.selects "LoanHouse" yX12_twices yX12_twices ∈ TBL := tb_3 _ (List.mem_of_getElem? (i := 9) rfl)
theorem w_100 : Cond.code yX12_lefts cX12_lefts 1 (some .int) ∈ TBL := tb_3 _ (List.mem_of_getElem? (i := 10) rfl)
theorem w_101 : Cond.instanceMethod yX12_lefts ∈ TBL := tb_3 _ (List.mem_of_getElem? (i := 11) rfl)
theorem w_102 : Cond.selects "LoanHouse" yX12_lefts yX12_lefts ∈ TBL := tb_3 _ (List.mem_of_getElem? (i := 12) rfl)
theorem w_103 : Cond.code yX12_clashes cX12_clashes 1 (some .int) ∈ TBL := tb_3 _ (List.mem_of_getElem? (i := 13) rfl)
theorem w_104 : Cond.instanceMethod yX12_clashes ∈ TBL := tb_3 _ (List.mem_of_getElem? (i := 14) rfl)
theorem w_105 : Cond.selects "LoanHouse" yX12_clashes yX12_clashes ∈ TBL := tb_3 _ (List.mem_of_getElem? (i := 15) rfl)
theorem w_106 : Cond.code yX8_init cX8_init 1 none ∈ TBL := tb_3 _ (List.mem_of_getElem? (i := 16) rfl)
theorem w_107 : Cond.instanceMethod yX8_init ∈ TBL := tb_3 _ (List.mem_of_getElem? (i := 17) rfl)
theorem w_108 : Cond.methodLink "LoanHouse$Tree" 3 objectInit ∈ TBL := tb_3 _ (List.mem_of_getElem? (i := 18) rfl)
theorem w_109 : Cond.arrayClass .int ∈ TBL := tb_3 _ (List.mem_of_getElem? (i := 19) rfl)
theorem w_110 : Cond.fieldLink "LoanHouse$Tree" 9 "LoanHouse$Tree" "kind" "[I" ∈ TBL := tb_3 _ (List.mem_of_getElem? (i := 20) rfl)
theorem w_111 : Cond.fieldLink "LoanHouse$Tree" 15 "LoanHouse$Tree" "pos" "[I" ∈ TBL := tb_3 _ (List.mem_of_getElem? (i := 21) rfl)
theorem w_112 : Cond.fieldLink "LoanHouse$Tree" 18 "LoanHouse$Tree" "from" "[I" ∈ TBL := tb_3 _ (List.mem_of_getElem? (i := 22) rfl)
theorem w_113 : Cond.fieldLink "LoanHouse$Tree" 21 "LoanHouse$Tree" "name" "[I" ∈ TBL := tb_3 _ (List.mem_of_getElem? (i := 23) rfl)
theorem w_114 : Cond.fieldLink "LoanHouse$Tree" 24 "LoanHouse$Tree" "a" "[I" ∈ TBL := tb_3 _ (List.mem_of_getElem? (i := 24) rfl)
theorem w_115 : Cond.fieldLink "LoanHouse$Tree" 27 "LoanHouse$Tree" "b" "[I" ∈ TBL := tb_3 _ (List.mem_of_getElem? (i := 25) rfl)
theorem w_116 : Cond.fieldLink "LoanHouse$Tree" 30 "LoanHouse$Tree" "c" "[I" ∈ TBL := tb_3 _ (List.mem_of_getElem? (i := 26) rfl)
theorem w_117 : Cond.fieldLink "LoanHouse$Tree" 33 "LoanHouse$Tree" "next" "[I" ∈ TBL := tb_3 _ (List.mem_of_getElem? (i := 27) rfl)
theorem w_118 : Cond.fieldLink "LoanHouse$Tree" 36 "LoanHouse$Tree" "value" "[J" ∈ TBL := tb_3 _ (List.mem_of_getElem? (i := 28) rfl)
theorem w_119 : Cond.fieldLink "LoanHouse$Tree" 40 "LoanHouse$Tree" "type" "[I" ∈ TBL := tb_3 _ (List.mem_of_getElem? (i := 29) rfl)
theorem w_120 : Cond.fieldLink "LoanHouse$Tree" 43 "LoanHouse$Tree" "ref" "[I" ∈ TBL := tb_4 _ (List.mem_of_getElem? (i := 0) rfl)
theorem w_121 : Cond.fieldLink "LoanHouse$Tree" 46 "LoanHouse$Tree" "total" "I" ∈ TBL := tb_4 _ (List.mem_of_getElem? (i := 1) rfl)
theorem w_122 : Cond.code yX8_clear cX8_clear 1 none ∈ TBL := tb_4 _ (List.mem_of_getElem? (i := 2) rfl)
theorem w_123 : Cond.instanceMethod yX8_clear ∈ TBL := tb_4 _ (List.mem_of_getElem? (i := 3) rfl)
theorem w_124 : Cond.selects "LoanHouse$Tree" yX8_clear yX8_clear ∈ TBL := tb_4 _ (List.mem_of_getElem? (i := 4) rfl)
theorem w_125 : Cond.code yX8_add cX8_add 4 (some .int) ∈ TBL := tb_4 _ (List.mem_of_getElem? (i := 5) rfl)
theorem w_126 : Cond.instanceMethod yX8_add ∈ TBL := tb_4 _ (List.mem_of_getElem? (i := 6) rfl)
theorem w_127 : Cond.selects "LoanHouse$Tree" yX8_add yX8_add ∈ TBL := tb_4 _ (List.mem_of_getElem? (i := 7) rfl)
theorem w_128 : Cond.code yX6_init cX6_init 3 none ∈ TBL := tb_4 _ (List.mem_of_getElem? (i := 8) rfl)
theorem w_129 : Cond.instanceMethod yX6_init ∈ TBL := tb_4 _ (List.mem_of_getElem? (i := 9) rfl)
theorem w_130 : Cond.methodLink "LoanHouse$Reader" 3 objectInit ∈ TBL := tb_4 _ (List.mem_of_getElem? (i := 10) rfl)
theorem w_131 : Cond.methodLink "LoanHouse$Reader" 11 yJ0_length_8abf5 ∈ TBL := tb_4 _ (List.mem_of_getElem? (i := 11) rfl)
theorem w_132 : Cond.fieldLink "LoanHouse$Reader" 17 "LoanHouse$Reader" "pool" "[B" ∈ TBL := tb_4 _ (List.mem_of_getElem? (i := 12) rfl)
theorem w_133 : Cond.fieldLink "LoanHouse$Reader" 23 "LoanHouse$Reader" "nameStart" "[I" ∈ TBL := tb_4 _ (List.mem_of_getElem? (i := 13) rfl)
theorem w_134 : Cond.fieldLink "LoanHouse$Reader" 27 "LoanHouse$Reader" "nameLength" "[I" ∈ TBL := tb_4 _ (List.mem_of_getElem? (i := 14) rfl)
theorem w_135 : Cond.fieldLink "LoanHouse$Reader" 30 "LoanHouse$Reader" "nameNext" "[I" ∈ TBL := tb_4 _ (List.mem_of_getElem? (i := 15) rfl)
theorem w_136 : Cond.fieldLink "LoanHouse$Reader" 33 "LoanHouse$Reader" "heads" "[I" ∈ TBL := tb_4 _ (List.mem_of_getElem? (i := 16) rfl)
theorem w_137 : Cond.fieldLink "LoanHouse$Reader" 36 "LoanHouse$Reader" "tokenKind" "[I" ∈ TBL := tb_4 _ (List.mem_of_getElem? (i := 17) rfl)
theorem w_138 : Cond.fieldLink "LoanHouse$Reader" 39 "LoanHouse$Reader" "tokenPos" "[I" ∈ TBL := tb_4 _ (List.mem_of_getElem? (i := 18) rfl)
theorem w_139 : Cond.fieldLink "LoanHouse$Reader" 42 "LoanHouse$Reader" "tokenValue" "[J" ∈ TBL := tb_4 _ (List.mem_of_getElem? (i := 19) rfl)
theorem w_140 : Cond.fieldLink "LoanHouse$Reader" 46 "LoanHouse$Reader" "tree" "LLoanHouse$Tree;" ∈ TBL := tb_4 _ (List.mem_of_getElem? (i := 20) rfl)
theorem w_141 : Cond.methodLink "LoanHouse$Reader" 50 yJ0_charAt_5068e ∈ TBL := tb_4 _ (List.mem_of_getElem? (i := 21) rfl)
theorem w_142 : Cond.code yX6_read cX6_read 8 (some .int) ∈ TBL := tb_4 _ (List.mem_of_getElem? (i := 22) rfl)
theorem w_143 : Cond.instanceMethod yX6_read ∈ TBL := tb_4 _ (List.mem_of_getElem? (i := 23) rfl)
theorem w_144 : Cond.selects "LoanHouse$Reader" yX6_read yX6_read ∈ TBL := tb_4 _ (List.mem_of_getElem? (i := 24) rfl)
theorem w_145 : Cond.methodLink "LoanHouse$Reader" 54 arraycopyName ∈ TBL := tb_4 _ (List.mem_of_getElem? (i := 25) rfl)
theorem w_146 : Cond.static arraycopyName ∈ TBL := tb_4 _ (List.mem_of_getElem? (i := 26) rfl)
theorem w_147 : Cond.native arraycopyName ∈ TBL := tb_4 _ (List.mem_of_getElem? (i := 27) rfl)
theorem w_148 : Cond.initialized "java/lang/System" ∈ TBL := tb_4 _ (List.mem_of_getElem? (i := 28) rfl)
theorem w_149 : Cond.fieldLink "LoanHouse$Reader" 60 "LoanHouse$Reader" "at" "I" ∈ TBL := tb_4 _ (List.mem_of_getElem? (i := 29) rfl)
theorem w_150 : Cond.fieldLink "LoanHouse$Reader" 64 "LoanHouse$Reader" "end" "I" ∈ TBL := tb_5 _ (List.mem_of_getElem? (i := 0) rfl)
theorem w_151 : Cond.fieldLink "LoanHouse$Reader" 67 "LoanHouse$Reader" "open" "I" ∈ TBL := tb_5 _ (List.mem_of_getElem? (i := 1) rfl)
theorem w_152 : Cond.fieldLink "LoanHouse$Reader" 70 "LoanHouse$Reader" "wrong" "I" ∈ TBL := tb_5 _ (List.mem_of_getElem? (i := 2) rfl)
theorem w_153 : Cond.methodLink "LoanHouse$Reader" 73 yX6_takeWords ∈ TBL := tb_5 _ (List.mem_of_getElem? (i := 3) rfl)
theorem w_154 : Cond.methodLink "LoanHouse$Reader" 76 yX6_takeTokens ∈ TBL := tb_5 _ (List.mem_of_getElem? (i := 4) rfl)
theorem w_155 : Cond.fieldLink "LoanHouse$Reader" 84 "LoanHouse$Reader" "current" "I" ∈ TBL := tb_5 _ (List.mem_of_getElem? (i := 5) rfl)
theorem w_156 : Cond.methodLink "LoanHouse$Reader" 87 yX6_advance ∈ TBL := tb_5 _ (List.mem_of_getElem? (i := 6) rfl)
theorem w_157 : Cond.fieldLink "LoanHouse$Reader" 94 "LoanHouse$Reader" "kind" "I" ∈ TBL := tb_5 _ (List.mem_of_getElem? (i := 7) rfl)
theorem w_158 : Cond.fieldLink "LoanHouse$Reader" 97 "LoanHouse$Reader" "pos" "I" ∈ TBL := tb_5 _ (List.mem_of_getElem? (i := 8) rfl)
theorem w_159 : Cond.code yX6_takeWords cX6_takeWords 3 none ∈ TBL := tb_5 _ (List.mem_of_getElem? (i := 9) rfl)
theorem w_160 : Cond.instanceMethod yX6_takeWords ∈ TBL := tb_5 _ (List.mem_of_getElem? (i := 10) rfl)
theorem w_161 : Cond.selects "LoanHouse$Reader" yX6_takeWords yX6_takeWords ∈ TBL := tb_5 _ (List.mem_of_getElem? (i := 11) rfl)
theorem w_162 : Cond.fieldLink "LoanHouse$Reader" 119 "LoanHouse$Reader" "names" "I" ∈ TBL := tb_5 _ (List.mem_of_getElem? (i := 12) rfl)
theorem w_163 : Cond.methodLink "LoanHouse$Reader" 122 yX6_nameOf ∈ TBL := tb_5 _ (List.mem_of_getElem? (i := 13) rfl)
theorem w_164 : Cond.code yX6_nameOf cX6_nameOf 6 (some .int) ∈ TBL := tb_5 _ (List.mem_of_getElem? (i := 14) rfl)
theorem w_165 : Cond.instanceMethod yX6_nameOf ∈ TBL := tb_5 _ (List.mem_of_getElem? (i := 15) rfl)
theorem w_166 : Cond.selects "LoanHouse$Reader" yX6_nameOf yX6_nameOf ∈ TBL := tb_5 _ (List.mem_of_getElem? (i := 16) rfl)
theorem w_167 : Cond.methodLink "LoanHouse$Reader" 125 yX6_alike ∈ TBL := tb_5 _ (List.mem_of_getElem? (i := 17) rfl)
theorem w_168 : Cond.code yX6_alike cX6_alike 5 (some .boolean) ∈ TBL := tb_5 _ (List.mem_of_getElem? (i := 18) rfl)
theorem w_169 : Cond.instanceMethod yX6_alike ∈ TBL := tb_5 _ (List.mem_of_getElem? (i := 19) rfl)
theorem w_170 : Cond.selects "LoanHouse$Reader" yX6_alike yX6_alike ∈ TBL := tb_5 _ (List.mem_of_getElem? (i := 20) rfl)
theorem w_171 : Cond.code yX6_takeTokens cX6_takeTokens 3 none ∈ TBL := tb_5 _ (List.mem_of_getElem? (i := 21) rfl)
theorem w_172 : Cond.instanceMethod yX6_takeTokens ∈ TBL := tb_5 _ (List.mem_of_getElem? (i := 22) rfl)
theorem w_173 : Cond.selects "LoanHouse$Reader" yX6_takeTokens yX6_takeTokens ∈ TBL := tb_5 _ (List.mem_of_getElem? (i := 23) rfl)
theorem w_174 : Cond.fieldLink "LoanHouse$Reader" 129 "LoanHouse$Reader" "tokens" "I" ∈ TBL := tb_5 _ (List.mem_of_getElem? (i := 24) rfl)
theorem w_175 : Cond.methodLink "LoanHouse$Reader" 132 yX6_skipBlanks ∈ TBL := tb_5 _ (List.mem_of_getElem? (i := 25) rfl)
theorem w_176 : Cond.code yX6_skipBlanks cX6_skipBlanks 5 none ∈ TBL := tb_5 _ (List.mem_of_getElem? (i := 26) rfl)
theorem w_177 : Cond.instanceMethod yX6_skipBlanks ∈ TBL := tb_5 _ (List.mem_of_getElem? (i := 27) rfl)
theorem w_178 : Cond.selects "LoanHouse$Reader" yX6_skipBlanks yX6_skipBlanks ∈ TBL := tb_5 _ (List.mem_of_getElem? (i := 28) rfl)
theorem w_179 : Cond.code yX6_advance cX6_advance 1 none ∈ TBL := tb_5 _ (List.mem_of_getElem? (i := 29) rfl)
theorem w_180 : Cond.instanceMethod yX6_advance ∈ TBL := tb_6 _ (List.mem_of_getElem? (i := 0) rfl)
theorem w_181 : Cond.selects "LoanHouse$Reader" yX6_advance yX6_advance ∈ TBL := tb_6 _ (List.mem_of_getElem? (i := 1) rfl)
theorem w_182 : Cond.code yX0_init cX0_init 2 none ∈ TBL := tb_6 _ (List.mem_of_getElem? (i := 2) rfl)
theorem w_183 : Cond.instanceMethod yX0_init ∈ TBL := tb_6 _ (List.mem_of_getElem? (i := 3) rfl)
theorem w_184 : Cond.methodLink "LoanHouse$Checker" 3 objectInit ∈ TBL := tb_6 _ (List.mem_of_getElem? (i := 4) rfl)
theorem w_185 : Cond.fieldLink "LoanHouse$Checker" 9 "LoanHouse$Checker" "tree" "LLoanHouse$Tree;" ∈ TBL := tb_6 _ (List.mem_of_getElem? (i := 5) rfl)
theorem w_186 : Cond.code yX0_check cX0_check 6 (some .int) ∈ TBL := tb_6 _ (List.mem_of_getElem? (i := 6) rfl)
theorem w_187 : Cond.instanceMethod yX0_check ∈ TBL := tb_6 _ (List.mem_of_getElem? (i := 7) rfl)
theorem w_188 : Cond.selects "LoanHouse$Checker" yX0_check yX0_check ∈ TBL := tb_6 _ (List.mem_of_getElem? (i := 8) rfl)
theorem w_189 : Cond.fieldLink "LoanHouse$Checker" 21 "LoanHouse$Checker" "types" "LLoanHouse$Types;" ∈ TBL := tb_6 _ (List.mem_of_getElem? (i := 9) rfl)
theorem w_190 : Cond.fieldLink "LoanHouse$Checker" 26 "LoanHouse$Checker" "functions" "LLoanHouse$Functions;" ∈ TBL := tb_6 _ (List.mem_of_getElem? (i := 10) rfl)
theorem w_191 : Cond.fieldLink "LoanHouse$Checker" 31 "LoanHouse$Checker" "variables" "LLoanHouse$Variables;" ∈ TBL := tb_6 _ (List.mem_of_getElem? (i := 11) rfl)
theorem w_192 : Cond.fieldLink "LoanHouse$Checker" 36 "LoanHouse$Checker" "places" "LLoanHouse$Places;" ∈ TBL := tb_6 _ (List.mem_of_getElem? (i := 12) rfl)
theorem w_193 : Cond.constant "LoanHouse$Checker" 37 (1073741824) ∈ TBL := tb_6 _ (List.mem_of_getElem? (i := 13) rfl)
theorem w_194 : Cond.fieldLink "LoanHouse$Checker" 38 "LoanHouse$Checker" "least" "I" ∈ TBL := tb_6 _ (List.mem_of_getElem? (i := 14) rfl)
theorem w_195 : Cond.methodLink "LoanHouse$Checker" 48 yX0_declareAll ∈ TBL := tb_6 _ (List.mem_of_getElem? (i := 15) rfl)
theorem w_196 : Cond.methodLink "LoanHouse$Checker" 67 yX0_measures ∈ TBL := tb_6 _ (List.mem_of_getElem? (i := 16) rfl)
theorem w_197 : Cond.methodLink "LoanHouse$Checker" 81 yX0_mainFunction ∈ TBL := tb_6 _ (List.mem_of_getElem? (i := 17) rfl)
theorem w_198 : Cond.code yX0_declareAll cX0_declareAll 4 none ∈ TBL := tb_6 _ (List.mem_of_getElem? (i := 18) rfl)
theorem w_199 : Cond.instanceMethod yX0_declareAll ∈ TBL := tb_6 _ (List.mem_of_getElem? (i := 19) rfl)
theorem w_200 : Cond.selects "LoanHouse$Checker" yX0_declareAll yX0_declareAll ∈ TBL := tb_6 _ (List.mem_of_getElem? (i := 20) rfl)
theorem w_201 : Cond.code yX0_measures cX0_measures 5 none ∈ TBL := tb_6 _ (List.mem_of_getElem? (i := 21) rfl)
theorem w_202 : Cond.instanceMethod yX0_measures ∈ TBL := tb_6 _ (List.mem_of_getElem? (i := 22) rfl)
theorem w_203 : Cond.selects "LoanHouse$Checker" yX0_measures yX0_measures ∈ TBL := tb_6 _ (List.mem_of_getElem? (i := 23) rfl)
theorem w_204 : Cond.methodLink "LoanHouse$Checker" 126 yX0_broken ∈ TBL := tb_6 _ (List.mem_of_getElem? (i := 24) rfl)
theorem w_205 : Cond.code yX0_mainFunction cX0_mainFunction 4 none ∈ TBL := tb_6 _ (List.mem_of_getElem? (i := 25) rfl)
theorem w_206 : Cond.instanceMethod yX0_mainFunction ∈ TBL := tb_6 _ (List.mem_of_getElem? (i := 26) rfl)
theorem w_207 : Cond.selects "LoanHouse$Checker" yX0_mainFunction yX0_mainFunction ∈ TBL := tb_6 _ (List.mem_of_getElem? (i := 27) rfl)
theorem w_208 : Cond.code yX0_broken cX0_broken 2 none ∈ TBL := tb_6 _ (List.mem_of_getElem? (i := 28) rfl)
theorem w_209 : Cond.instanceMethod yX0_broken ∈ TBL := tb_6 _ (List.mem_of_getElem? (i := 29) rfl)
theorem w_210 : Cond.selects "LoanHouse$Checker" yX0_broken yX0_broken ∈ TBL := tb_7 _ (List.mem_of_getElem? (i := 0) rfl)
theorem w_211 : Cond.methodLink "LoanHouse$Checker" 84 Lib.Math.min.name ∈ TBL := tb_7 _ (List.mem_of_getElem? (i := 1) rfl)
theorem w_212 : Cond.static Lib.Math.min.name ∈ TBL := tb_7 _ (List.mem_of_getElem? (i := 2) rfl)
theorem w_213 : Cond.code Lib.Math.min.name Lib.Math.min.code 2 (some .int) ∈ TBL := tb_7 _ (List.mem_of_getElem? (i := 3) rfl)
theorem w_214 : Cond.initialized "java/lang/Math" ∈ TBL := tb_7 _ (List.mem_of_getElem? (i := 4) rfl)
theorem w_215 : Cond.code yX1_init cX1_init 2 none ∈ TBL := tb_7 _ (List.mem_of_getElem? (i := 5) rfl)
theorem w_216 : Cond.instanceMethod yX1_init ∈ TBL := tb_7 _ (List.mem_of_getElem? (i := 6) rfl)
theorem w_217 : Cond.methodLink "LoanHouse$Emitter" 3 objectInit ∈ TBL := tb_7 _ (List.mem_of_getElem? (i := 7) rfl)
theorem w_218 : Cond.fieldLink "LoanHouse$Emitter" 9 "LoanHouse$Emitter" "tree" "LLoanHouse$Tree;" ∈ TBL := tb_7 _ (List.mem_of_getElem? (i := 8) rfl)
theorem w_219 : Cond.code yX11_init cX11_init 1 none ∈ TBL := tb_7 _ (List.mem_of_getElem? (i := 9) rfl)
theorem w_220 : Cond.instanceMethod yX11_init ∈ TBL := tb_7 _ (List.mem_of_getElem? (i := 10) rfl)
theorem w_221 : Cond.methodLink "LoanHouse$Ways" 5 objectInit ∈ TBL := tb_7 _ (List.mem_of_getElem? (i := 11) rfl)
theorem w_222 : Cond.fieldLink "LoanHouse$Ways" 11 "LoanHouse$Ways" "state" "[J" ∈ TBL := tb_7 _ (List.mem_of_getElem? (i := 12) rfl)
theorem w_223 : Cond.fieldLink "LoanHouse$Ways" 15 "LoanHouse$Ways" "labelState" "[J" ∈ TBL := tb_7 _ (List.mem_of_getElem? (i := 13) rfl)
theorem w_224 : Cond.arrayClass .boolean ∈ TBL := tb_7 _ (List.mem_of_getElem? (i := 14) rfl)
theorem w_225 : Cond.fieldLink "LoanHouse$Ways" 18 "LoanHouse$Ways" "labelCome" "[Z" ∈ TBL := tb_7 _ (List.mem_of_getElem? (i := 15) rfl)
theorem w_226 : Cond.fieldLink "LoanHouse$Ways" 22 "LoanHouse$Ways" "temps" "[J" ∈ TBL := tb_7 _ (List.mem_of_getElem? (i := 16) rfl)
theorem w_227 : Cond.fieldLink "LoanHouse$Ways" 25 "LoanHouse$Ways" "matched" "[J" ∈ TBL := tb_7 _ (List.mem_of_getElem? (i := 17) rfl)
theorem w_228 : Cond.fieldLink "LoanHouse$Ways" 28 "LoanHouse$Ways" "used" "[J" ∈ TBL := tb_7 _ (List.mem_of_getElem? (i := 18) rfl)
theorem w_229 : Cond.fieldLink "LoanHouse$Ways" 31 "LoanHouse$Ways" "met" "[Z" ∈ TBL := tb_7 _ (List.mem_of_getElem? (i := 19) rfl)
theorem w_230 : Cond.code yX3_init cX3_init 1 none ∈ TBL := tb_7 _ (List.mem_of_getElem? (i := 20) rfl)
theorem w_231 : Cond.instanceMethod yX3_init ∈ TBL := tb_7 _ (List.mem_of_getElem? (i := 21) rfl)
theorem w_232 : Cond.methodLink "LoanHouse$Machine" 3 objectInit ∈ TBL := tb_7 _ (List.mem_of_getElem? (i := 22) rfl)
theorem w_233 : Cond.classLink "LoanHouse$Machine" 9 "LoanHouse$Store" ∈ TBL := tb_7 _ (List.mem_of_getElem? (i := 23) rfl)
theorem w_234 : Cond.instantiable "LoanHouse$Store" 19 ∈ TBL := tb_7 _ (List.mem_of_getElem? (i := 24) rfl)
theorem w_235 : Cond.initialized "LoanHouse$Store" ∈ TBL := tb_7 _ (List.mem_of_getElem? (i := 25) rfl)
theorem w_236 : Cond.fieldLink "LoanHouse$Machine" 12 "LoanHouse$Machine" "store" "LLoanHouse$Store;" ∈ TBL := tb_7 _ (List.mem_of_getElem? (i := 26) rfl)
theorem w_237 : Cond.classLink "LoanHouse$Machine" 18 "[[J" ∈ TBL := tb_7 _ (List.mem_of_getElem? (i := 27) rfl)
theorem w_238 : Cond.fieldLink "LoanHouse$Machine" 20 "LoanHouse$Machine" "waiting" "[[J" ∈ TBL := tb_7 _ (List.mem_of_getElem? (i := 28) rfl)
theorem w_239 : Cond.fieldLink "LoanHouse$Machine" 23 "LoanHouse$Machine" "parts" "[J" ∈ TBL := tb_7 _ (List.mem_of_getElem? (i := 29) rfl)
theorem w_240 : Cond.code yX7_init cX7_init 1 none ∈ TBL := tb_8 _ (List.mem_of_getElem? (i := 0) rfl)
theorem w_241 : Cond.instanceMethod yX7_init ∈ TBL := tb_8 _ (List.mem_of_getElem? (i := 1) rfl)
theorem w_242 : Cond.methodLink "LoanHouse$Store" 3 objectInit ∈ TBL := tb_8 _ (List.mem_of_getElem? (i := 2) rfl)
theorem w_243 : Cond.fieldLink "LoanHouse$Store" 9 "LoanHouse$Store" "cells" "[J" ∈ TBL := tb_8 _ (List.mem_of_getElem? (i := 3) rfl)
theorem w_244 : Cond.fieldLink "LoanHouse$Store" 15 "LoanHouse$Store" "boxUsed" "[Z" ∈ TBL := tb_8 _ (List.mem_of_getElem? (i := 4) rfl)
theorem w_245 : Cond.fieldLink "LoanHouse$Store" 19 "LoanHouse$Store" "rowUsed" "[Z" ∈ TBL := tb_8 _ (List.mem_of_getElem? (i := 5) rfl)
theorem w_246 : Cond.fieldLink "LoanHouse$Store" 22 "LoanHouse$Store" "rowLength" "[I" ∈ TBL := tb_8 _ (List.mem_of_getElem? (i := 6) rfl)
theorem w_247 : Cond.fieldLink "LoanHouse$Store" 26 "LoanHouse$Store" "outKind" "[I" ∈ TBL := tb_8 _ (List.mem_of_getElem? (i := 7) rfl)
theorem w_248 : Cond.fieldLink "LoanHouse$Store" 29 "LoanHouse$Store" "outNumber" "[J" ∈ TBL := tb_8 _ (List.mem_of_getElem? (i := 8) rfl)
theorem w_249 : Cond.fieldLink "LoanHouse$Store" 32 "LoanHouse$Store" "dropType" "[I" ∈ TBL := tb_8 _ (List.mem_of_getElem? (i := 9) rfl)
theorem w_250 : Cond.fieldLink "LoanHouse$Store" 35 "LoanHouse$Store" "dropAt" "[I" ∈ TBL := tb_8 _ (List.mem_of_getElem? (i := 10) rfl)
theorem w_251 : Cond.code yX5_init cX5_init 1 none ∈ TBL := tb_8 _ (List.mem_of_getElem? (i := 11) rfl)
theorem w_252 : Cond.instanceMethod yX5_init ∈ TBL := tb_8 _ (List.mem_of_getElem? (i := 12) rfl)
theorem w_253 : Cond.methodLink "LoanHouse$Program" 3 objectInit ∈ TBL := tb_8 _ (List.mem_of_getElem? (i := 13) rfl)
theorem w_254 : Cond.classLink "LoanHouse$Program" 9 "LoanHouse$Types" ∈ TBL := tb_8 _ (List.mem_of_getElem? (i := 14) rfl)
theorem w_255 : Cond.instantiable "LoanHouse$Types" 19 ∈ TBL := tb_8 _ (List.mem_of_getElem? (i := 15) rfl)
theorem w_256 : Cond.initialized "LoanHouse$Types" ∈ TBL := tb_8 _ (List.mem_of_getElem? (i := 16) rfl)
theorem w_257 : Cond.fieldLink "LoanHouse$Program" 12 "LoanHouse$Program" "types" "LLoanHouse$Types;" ∈ TBL := tb_8 _ (List.mem_of_getElem? (i := 17) rfl)
theorem w_258 : Cond.classLink "LoanHouse$Program" 18 "LoanHouse$Functions" ∈ TBL := tb_8 _ (List.mem_of_getElem? (i := 18) rfl)
theorem w_259 : Cond.instantiable "LoanHouse$Functions" 19 ∈ TBL := tb_8 _ (List.mem_of_getElem? (i := 19) rfl)
theorem w_260 : Cond.initialized "LoanHouse$Functions" ∈ TBL := tb_8 _ (List.mem_of_getElem? (i := 20) rfl)
theorem w_261 : Cond.fieldLink "LoanHouse$Program" 21 "LoanHouse$Program" "functions" "LLoanHouse$Functions;" ∈ TBL := tb_8 _ (List.mem_of_getElem? (i := 21) rfl)
theorem w_262 : Cond.classLink "LoanHouse$Program" 25 "LoanHouse$Variables" ∈ TBL := tb_8 _ (List.mem_of_getElem? (i := 22) rfl)
theorem w_263 : Cond.instantiable "LoanHouse$Variables" 12 ∈ TBL := tb_8 _ (List.mem_of_getElem? (i := 23) rfl)
theorem w_264 : Cond.initialized "LoanHouse$Variables" ∈ TBL := tb_8 _ (List.mem_of_getElem? (i := 24) rfl)
theorem w_265 : Cond.fieldLink "LoanHouse$Program" 28 "LoanHouse$Program" "variables" "LLoanHouse$Variables;" ∈ TBL := tb_8 _ (List.mem_of_getElem? (i := 25) rfl)
theorem w_266 : Cond.classLink "LoanHouse$Program" 32 "LoanHouse$Places" ∈ TBL := tb_8 _ (List.mem_of_getElem? (i := 26) rfl)
theorem w_267 : Cond.instantiable "LoanHouse$Places" 20 ∈ TBL := tb_8 _ (List.mem_of_getElem? (i := 27) rfl)
theorem w_268 : Cond.initialized "LoanHouse$Places" ∈ TBL := tb_8 _ (List.mem_of_getElem? (i := 28) rfl)
theorem w_269 : Cond.fieldLink "LoanHouse$Program" 35 "LoanHouse$Program" "places" "LLoanHouse$Places;" ∈ TBL := tb_8 _ (List.mem_of_getElem? (i := 29) rfl)
theorem w_270 : Cond.fieldLink "LoanHouse$Program" 39 "LoanHouse$Program" "op" "[I" ∈ TBL := tb_9 _ (List.mem_of_getElem? (i := 0) rfl)
theorem w_271 : Cond.fieldLink "LoanHouse$Program" 43 "LoanHouse$Program" "x" "[I" ∈ TBL := tb_9 _ (List.mem_of_getElem? (i := 1) rfl)
theorem w_272 : Cond.fieldLink "LoanHouse$Program" 46 "LoanHouse$Program" "y" "[I" ∈ TBL := tb_9 _ (List.mem_of_getElem? (i := 2) rfl)
theorem w_273 : Cond.fieldLink "LoanHouse$Program" 49 "LoanHouse$Program" "z" "[I" ∈ TBL := tb_9 _ (List.mem_of_getElem? (i := 3) rfl)
theorem w_274 : Cond.fieldLink "LoanHouse$Program" 52 "LoanHouse$Program" "pos" "[I" ∈ TBL := tb_9 _ (List.mem_of_getElem? (i := 4) rfl)
theorem w_275 : Cond.fieldLink "LoanHouse$Program" 55 "LoanHouse$Program" "label" "[I" ∈ TBL := tb_9 _ (List.mem_of_getElem? (i := 5) rfl)
theorem w_276 : Cond.fieldLink "LoanHouse$Program" 58 "LoanHouse$Program" "order" "[I" ∈ TBL := tb_9 _ (List.mem_of_getElem? (i := 6) rfl)
theorem w_277 : Cond.code yX5_clear cX5_clear 1 none ∈ TBL := tb_9 _ (List.mem_of_getElem? (i := 7) rfl)
theorem w_278 : Cond.instanceMethod yX5_clear ∈ TBL := tb_9 _ (List.mem_of_getElem? (i := 8) rfl)
theorem w_279 : Cond.selects "LoanHouse$Program" yX5_clear yX5_clear ∈ TBL := tb_9 _ (List.mem_of_getElem? (i := 9) rfl)
theorem w_280 : Cond.fieldLink "LoanHouse$Program" 67 "LoanHouse$Program" "slots" "I" ∈ TBL := tb_9 _ (List.mem_of_getElem? (i := 10) rfl)
theorem w_281 : Cond.fieldLink "LoanHouse$Program" 71 "LoanHouse$Program" "labels" "I" ∈ TBL := tb_9 _ (List.mem_of_getElem? (i := 11) rfl)
theorem w_282 : Cond.fieldLink "LoanHouse$Program" 74 "LoanHouse$Program" "matches" "I" ∈ TBL := tb_9 _ (List.mem_of_getElem? (i := 12) rfl)
theorem w_283 : Cond.fieldLink "LoanHouse$Program" 77 "LoanHouse$Program" "orders" "I" ∈ TBL := tb_9 _ (List.mem_of_getElem? (i := 13) rfl)
theorem w_284 : Cond.code yX9_init cX9_init 1 none ∈ TBL := tb_9 _ (List.mem_of_getElem? (i := 14) rfl)
theorem w_285 : Cond.instanceMethod yX9_init ∈ TBL := tb_9 _ (List.mem_of_getElem? (i := 15) rfl)
theorem w_286 : Cond.methodLink "LoanHouse$Types" 3 objectInit ∈ TBL := tb_9 _ (List.mem_of_getElem? (i := 16) rfl)
theorem w_287 : Cond.fieldLink "LoanHouse$Types" 9 "LoanHouse$Types" "kind" "[I" ∈ TBL := tb_9 _ (List.mem_of_getElem? (i := 17) rfl)
theorem w_288 : Cond.fieldLink "LoanHouse$Types" 15 "LoanHouse$Types" "arg" "[I" ∈ TBL := tb_9 _ (List.mem_of_getElem? (i := 18) rfl)
theorem w_289 : Cond.fieldLink "LoanHouse$Types" 18 "LoanHouse$Types" "declName" "[I" ∈ TBL := tb_9 _ (List.mem_of_getElem? (i := 19) rfl)
theorem w_290 : Cond.fieldLink "LoanHouse$Types" 21 "LoanHouse$Types" "declForm" "[I" ∈ TBL := tb_9 _ (List.mem_of_getElem? (i := 20) rfl)
theorem w_291 : Cond.fieldLink "LoanHouse$Types" 24 "LoanHouse$Types" "declFirst" "[I" ∈ TBL := tb_9 _ (List.mem_of_getElem? (i := 21) rfl)
theorem w_292 : Cond.fieldLink "LoanHouse$Types" 27 "LoanHouse$Types" "declWidth" "[I" ∈ TBL := tb_9 _ (List.mem_of_getElem? (i := 22) rfl)
theorem w_293 : Cond.fieldLink "LoanHouse$Types" 30 "LoanHouse$Types" "declCells" "[I" ∈ TBL := tb_9 _ (List.mem_of_getElem? (i := 23) rfl)
theorem w_294 : Cond.fieldLink "LoanHouse$Types" 33 "LoanHouse$Types" "declParts" "[I" ∈ TBL := tb_9 _ (List.mem_of_getElem? (i := 24) rfl)
theorem w_295 : Cond.fieldLink "LoanHouse$Types" 36 "LoanHouse$Types" "declLeaves" "[I" ∈ TBL := tb_9 _ (List.mem_of_getElem? (i := 25) rfl)
theorem w_296 : Cond.fieldLink "LoanHouse$Types" 39 "LoanHouse$Types" "variantName" "[I" ∈ TBL := tb_9 _ (List.mem_of_getElem? (i := 26) rfl)
theorem w_297 : Cond.fieldLink "LoanHouse$Types" 42 "LoanHouse$Types" "variantFirst" "[I" ∈ TBL := tb_9 _ (List.mem_of_getElem? (i := 27) rfl)
theorem w_298 : Cond.fieldLink "LoanHouse$Types" 45 "LoanHouse$Types" "variantWidth" "[I" ∈ TBL := tb_9 _ (List.mem_of_getElem? (i := 28) rfl)
theorem w_299 : Cond.fieldLink "LoanHouse$Types" 48 "LoanHouse$Types" "memberName" "[I" ∈ TBL := tb_9 _ (List.mem_of_getElem? (i := 29) rfl)
theorem w_300 : Cond.fieldLink "LoanHouse$Types" 51 "LoanHouse$Types" "memberType" "[I" ∈ TBL := tb_10 _ (List.mem_of_getElem? (i := 0) rfl)
theorem w_301 : Cond.fieldLink "LoanHouse$Types" 54 "LoanHouse$Types" "memberCell" "[I" ∈ TBL := tb_10 _ (List.mem_of_getElem? (i := 1) rfl)
theorem w_302 : Cond.code yX9_clear cX9_clear 1 none ∈ TBL := tb_10 _ (List.mem_of_getElem? (i := 2) rfl)
theorem w_303 : Cond.instanceMethod yX9_clear ∈ TBL := tb_10 _ (List.mem_of_getElem? (i := 3) rfl)
theorem w_304 : Cond.selects "LoanHouse$Types" yX9_clear yX9_clear ∈ TBL := tb_10 _ (List.mem_of_getElem? (i := 4) rfl)
theorem w_305 : Cond.fieldLink "LoanHouse$Types" 57 "LoanHouse$Types" "decls" "I" ∈ TBL := tb_10 _ (List.mem_of_getElem? (i := 5) rfl)
theorem w_306 : Cond.fieldLink "LoanHouse$Types" 61 "LoanHouse$Types" "variants" "I" ∈ TBL := tb_10 _ (List.mem_of_getElem? (i := 6) rfl)
theorem w_307 : Cond.fieldLink "LoanHouse$Types" 64 "LoanHouse$Types" "members" "I" ∈ TBL := tb_10 _ (List.mem_of_getElem? (i := 7) rfl)
theorem w_308 : Cond.fieldLink "LoanHouse$Types" 67 "LoanHouse$Types" "total" "I" ∈ TBL := tb_10 _ (List.mem_of_getElem? (i := 8) rfl)
theorem w_309 : Cond.code yX9_measure cX9_measure 4 none ∈ TBL := tb_10 _ (List.mem_of_getElem? (i := 9) rfl)
theorem w_310 : Cond.instanceMethod yX9_measure ∈ TBL := tb_10 _ (List.mem_of_getElem? (i := 10) rfl)
theorem w_311 : Cond.selects "LoanHouse$Types" yX9_measure yX9_measure ∈ TBL := tb_10 _ (List.mem_of_getElem? (i := 11) rfl)
theorem w_312 : Cond.code yX2_init cX2_init 1 none ∈ TBL := tb_10 _ (List.mem_of_getElem? (i := 12) rfl)
theorem w_313 : Cond.instanceMethod yX2_init ∈ TBL := tb_10 _ (List.mem_of_getElem? (i := 13) rfl)
theorem w_314 : Cond.methodLink "LoanHouse$Functions" 3 objectInit ∈ TBL := tb_10 _ (List.mem_of_getElem? (i := 14) rfl)
theorem w_315 : Cond.fieldLink "LoanHouse$Functions" 9 "LoanHouse$Functions" "name" "[I" ∈ TBL := tb_10 _ (List.mem_of_getElem? (i := 15) rfl)
theorem w_316 : Cond.fieldLink "LoanHouse$Functions" 15 "LoanHouse$Functions" "node" "[I" ∈ TBL := tb_10 _ (List.mem_of_getElem? (i := 16) rfl)
theorem w_317 : Cond.fieldLink "LoanHouse$Functions" 18 "LoanHouse$Functions" "result" "[I" ∈ TBL := tb_10 _ (List.mem_of_getElem? (i := 17) rfl)
theorem w_318 : Cond.fieldLink "LoanHouse$Functions" 21 "LoanHouse$Functions" "of" "[J" ∈ TBL := tb_10 _ (List.mem_of_getElem? (i := 18) rfl)
theorem w_319 : Cond.fieldLink "LoanHouse$Functions" 25 "LoanHouse$Functions" "params" "[I" ∈ TBL := tb_10 _ (List.mem_of_getElem? (i := 19) rfl)
theorem w_320 : Cond.fieldLink "LoanHouse$Functions" 28 "LoanHouse$Functions" "firstParam" "[I" ∈ TBL := tb_10 _ (List.mem_of_getElem? (i := 20) rfl)
theorem w_321 : Cond.fieldLink "LoanHouse$Functions" 31 "LoanHouse$Functions" "paramType" "[I" ∈ TBL := tb_10 _ (List.mem_of_getElem? (i := 21) rfl)
theorem w_322 : Cond.fieldLink "LoanHouse$Functions" 34 "LoanHouse$Functions" "firstVariable" "[I" ∈ TBL := tb_10 _ (List.mem_of_getElem? (i := 22) rfl)
theorem w_323 : Cond.fieldLink "LoanHouse$Functions" 37 "LoanHouse$Functions" "variables" "[I" ∈ TBL := tb_10 _ (List.mem_of_getElem? (i := 23) rfl)
theorem w_324 : Cond.fieldLink "LoanHouse$Functions" 40 "LoanHouse$Functions" "firstLeaf" "[I" ∈ TBL := tb_10 _ (List.mem_of_getElem? (i := 24) rfl)
theorem w_325 : Cond.fieldLink "LoanHouse$Functions" 43 "LoanHouse$Functions" "leaves" "[I" ∈ TBL := tb_10 _ (List.mem_of_getElem? (i := 25) rfl)
theorem w_326 : Cond.fieldLink "LoanHouse$Functions" 46 "LoanHouse$Functions" "splits" "[I" ∈ TBL := tb_10 _ (List.mem_of_getElem? (i := 26) rfl)
theorem w_327 : Cond.fieldLink "LoanHouse$Functions" 49 "LoanHouse$Functions" "firstLoan" "[I" ∈ TBL := tb_10 _ (List.mem_of_getElem? (i := 27) rfl)
theorem w_328 : Cond.fieldLink "LoanHouse$Functions" 52 "LoanHouse$Functions" "loans" "[I" ∈ TBL := tb_10 _ (List.mem_of_getElem? (i := 28) rfl)
theorem w_329 : Cond.fieldLink "LoanHouse$Functions" 55 "LoanHouse$Functions" "entry" "[I" ∈ TBL := tb_10 _ (List.mem_of_getElem? (i := 29) rfl)
theorem w_330 : Cond.fieldLink "LoanHouse$Functions" 58 "LoanHouse$Functions" "cells" "[I" ∈ TBL := tb_11 _ (List.mem_of_getElem? (i := 0) rfl)
theorem w_331 : Cond.code yX2_clear cX2_clear 1 none ∈ TBL := tb_11 _ (List.mem_of_getElem? (i := 1) rfl)
theorem w_332 : Cond.instanceMethod yX2_clear ∈ TBL := tb_11 _ (List.mem_of_getElem? (i := 2) rfl)
theorem w_333 : Cond.selects "LoanHouse$Functions" yX2_clear yX2_clear ∈ TBL := tb_11 _ (List.mem_of_getElem? (i := 3) rfl)
theorem w_334 : Cond.fieldLink "LoanHouse$Functions" 61 "LoanHouse$Functions" "total" "I" ∈ TBL := tb_11 _ (List.mem_of_getElem? (i := 4) rfl)
theorem w_335 : Cond.fieldLink "LoanHouse$Functions" 65 "LoanHouse$Functions" "paramTotal" "I" ∈ TBL := tb_11 _ (List.mem_of_getElem? (i := 5) rfl)
theorem w_336 : Cond.fieldLink "LoanHouse$Functions" 68 "LoanHouse$Functions" "main" "I" ∈ TBL := tb_11 _ (List.mem_of_getElem? (i := 6) rfl)
theorem w_337 : Cond.code yX10_init cX10_init 1 none ∈ TBL := tb_11 _ (List.mem_of_getElem? (i := 7) rfl)
theorem w_338 : Cond.instanceMethod yX10_init ∈ TBL := tb_11 _ (List.mem_of_getElem? (i := 8) rfl)
theorem w_339 : Cond.methodLink "LoanHouse$Variables" 3 objectInit ∈ TBL := tb_11 _ (List.mem_of_getElem? (i := 9) rfl)
theorem w_340 : Cond.fieldLink "LoanHouse$Variables" 9 "LoanHouse$Variables" "name" "[I" ∈ TBL := tb_11 _ (List.mem_of_getElem? (i := 10) rfl)
theorem w_341 : Cond.fieldLink "LoanHouse$Variables" 15 "LoanHouse$Variables" "pos" "[I" ∈ TBL := tb_11 _ (List.mem_of_getElem? (i := 11) rfl)
theorem w_342 : Cond.fieldLink "LoanHouse$Variables" 18 "LoanHouse$Variables" "type" "[I" ∈ TBL := tb_11 _ (List.mem_of_getElem? (i := 12) rfl)
theorem w_343 : Cond.fieldLink "LoanHouse$Variables" 21 "LoanHouse$Variables" "outer" "[I" ∈ TBL := tb_11 _ (List.mem_of_getElem? (i := 13) rfl)
theorem w_344 : Cond.fieldLink "LoanHouse$Variables" 24 "LoanHouse$Variables" "firstLeaf" "[I" ∈ TBL := tb_11 _ (List.mem_of_getElem? (i := 14) rfl)
theorem w_345 : Cond.fieldLink "LoanHouse$Variables" 27 "LoanHouse$Variables" "leafCount" "[I" ∈ TBL := tb_11 _ (List.mem_of_getElem? (i := 15) rfl)
theorem w_346 : Cond.fieldLink "LoanHouse$Variables" 30 "LoanHouse$Variables" "cell" "[I" ∈ TBL := tb_11 _ (List.mem_of_getElem? (i := 16) rfl)
theorem w_347 : Cond.fieldLink "LoanHouse$Variables" 33 "LoanHouse$Variables" "loans" "[J" ∈ TBL := tb_11 _ (List.mem_of_getElem? (i := 17) rfl)
theorem w_348 : Cond.fieldLink "LoanHouse$Variables" 37 "LoanHouse$Variables" "leafType" "[I" ∈ TBL := tb_11 _ (List.mem_of_getElem? (i := 18) rfl)
theorem w_349 : Cond.fieldLink "LoanHouse$Variables" 40 "LoanHouse$Variables" "leafCell" "[I" ∈ TBL := tb_11 _ (List.mem_of_getElem? (i := 19) rfl)
theorem w_350 : Cond.code yX10_clear cX10_clear 1 none ∈ TBL := tb_11 _ (List.mem_of_getElem? (i := 20) rfl)
theorem w_351 : Cond.instanceMethod yX10_clear ∈ TBL := tb_11 _ (List.mem_of_getElem? (i := 21) rfl)
theorem w_352 : Cond.selects "LoanHouse$Variables" yX10_clear yX10_clear ∈ TBL := tb_11 _ (List.mem_of_getElem? (i := 22) rfl)
theorem w_353 : Cond.fieldLink "LoanHouse$Variables" 43 "LoanHouse$Variables" "total" "I" ∈ TBL := tb_11 _ (List.mem_of_getElem? (i := 23) rfl)
theorem w_354 : Cond.fieldLink "LoanHouse$Variables" 47 "LoanHouse$Variables" "leaves" "I" ∈ TBL := tb_11 _ (List.mem_of_getElem? (i := 24) rfl)
theorem w_355 : Cond.code yX4_init cX4_init 1 none ∈ TBL := tb_11 _ (List.mem_of_getElem? (i := 25) rfl)
theorem w_356 : Cond.instanceMethod yX4_init ∈ TBL := tb_11 _ (List.mem_of_getElem? (i := 26) rfl)
theorem w_357 : Cond.methodLink "LoanHouse$Places" 3 objectInit ∈ TBL := tb_11 _ (List.mem_of_getElem? (i := 27) rfl)
theorem w_358 : Cond.fieldLink "LoanHouse$Places" 9 "LoanHouse$Places" "pos" "[I" ∈ TBL := tb_11 _ (List.mem_of_getElem? (i := 28) rfl)
theorem w_359 : Cond.fieldLink "LoanHouse$Places" 15 "LoanHouse$Places" "act" "[I" ∈ TBL := tb_11 _ (List.mem_of_getElem? (i := 29) rfl)
theorem w_360 : Cond.fieldLink "LoanHouse$Places" 18 "LoanHouse$Places" "fn" "[I" ∈ TBL := tb_12 _ (List.mem_of_getElem? (i := 0) rfl)
theorem w_361 : Cond.fieldLink "LoanHouse$Places" 21 "LoanHouse$Places" "variable" "[I" ∈ TBL := tb_12 _ (List.mem_of_getElem? (i := 1) rfl)
theorem w_362 : Cond.fieldLink "LoanHouse$Places" 24 "LoanHouse$Places" "type" "[I" ∈ TBL := tb_12 _ (List.mem_of_getElem? (i := 2) rfl)
theorem w_363 : Cond.fieldLink "LoanHouse$Places" 27 "LoanHouse$Places" "firstStep" "[I" ∈ TBL := tb_12 _ (List.mem_of_getElem? (i := 3) rfl)
theorem w_364 : Cond.fieldLink "LoanHouse$Places" 30 "LoanHouse$Places" "steps" "[I" ∈ TBL := tb_12 _ (List.mem_of_getElem? (i := 4) rfl)
theorem w_365 : Cond.fieldLink "LoanHouse$Places" 33 "LoanHouse$Places" "leaf" "[I" ∈ TBL := tb_12 _ (List.mem_of_getElem? (i := 5) rfl)
theorem w_366 : Cond.fieldLink "LoanHouse$Places" 36 "LoanHouse$Places" "leaves" "[I" ∈ TBL := tb_12 _ (List.mem_of_getElem? (i := 6) rfl)
theorem w_367 : Cond.fieldLink "LoanHouse$Places" 39 "LoanHouse$Places" "further" "[Z" ∈ TBL := tb_12 _ (List.mem_of_getElem? (i := 7) rfl)
theorem w_368 : Cond.fieldLink "LoanHouse$Places" 43 "LoanHouse$Places" "come" "[Z" ∈ TBL := tb_12 _ (List.mem_of_getElem? (i := 8) rfl)
theorem w_369 : Cond.fieldLink "LoanHouse$Places" 46 "LoanHouse$Places" "force" "[J" ∈ TBL := tb_12 _ (List.mem_of_getElem? (i := 9) rfl)
theorem w_370 : Cond.fieldLink "LoanHouse$Places" 50 "LoanHouse$Places" "stepKind" "[I" ∈ TBL := tb_12 _ (List.mem_of_getElem? (i := 10) rfl)
theorem w_371 : Cond.fieldLink "LoanHouse$Places" 53 "LoanHouse$Places" "stepCell" "[I" ∈ TBL := tb_12 _ (List.mem_of_getElem? (i := 11) rfl)
theorem w_372 : Cond.fieldLink "LoanHouse$Places" 56 "LoanHouse$Places" "stepPos" "[I" ∈ TBL := tb_12 _ (List.mem_of_getElem? (i := 12) rfl)
theorem w_373 : Cond.fieldLink "LoanHouse$Places" 59 "LoanHouse$Places" "loanPos" "[I" ∈ TBL := tb_12 _ (List.mem_of_getElem? (i := 13) rfl)
theorem w_374 : Cond.fieldLink "LoanHouse$Places" 62 "LoanHouse$Places" "loanPlace" "[I" ∈ TBL := tb_12 _ (List.mem_of_getElem? (i := 14) rfl)
theorem w_375 : Cond.code yX4_clear cX4_clear 1 none ∈ TBL := tb_12 _ (List.mem_of_getElem? (i := 15) rfl)
theorem w_376 : Cond.instanceMethod yX4_clear ∈ TBL := tb_12 _ (List.mem_of_getElem? (i := 16) rfl)
theorem w_377 : Cond.selects "LoanHouse$Places" yX4_clear yX4_clear ∈ TBL := tb_12 _ (List.mem_of_getElem? (i := 17) rfl)
theorem w_378 : Cond.fieldLink "LoanHouse$Places" 65 "LoanHouse$Places" "total" "I" ∈ TBL := tb_12 _ (List.mem_of_getElem? (i := 18) rfl)
theorem w_379 : Cond.fieldLink "LoanHouse$Places" 69 "LoanHouse$Places" "stepTotal" "I" ∈ TBL := tb_12 _ (List.mem_of_getElem? (i := 19) rfl)
theorem w_380 : Cond.fieldLink "LoanHouse$Places" 72 "LoanHouse$Places" "loans" "I" ∈ TBL := tb_12 _ (List.mem_of_getElem? (i := 20) rfl)
theorem w_381 : Cond.code yX30_init cX30_init 1 none ∈ TBL := tb_12 _ (List.mem_of_getElem? (i := 21) rfl)
theorem w_382 : Cond.initialized "LoanHouseModel" ∈ TBL := tb_12 _ (List.mem_of_getElem? (i := 22) rfl)
theorem w_383 : Cond.instanceMethod yX30_init ∈ TBL := tb_12 _ (List.mem_of_getElem? (i := 23) rfl)
theorem w_384 : Cond.methodLink "LoanHouseModel" 3 objectInit ∈ TBL := tb_12 _ (List.mem_of_getElem? (i := 24) rfl)
theorem w_385 : Cond.fieldLink "LoanHouseModel" 9 "LoanHouseModel" "text" "[B" ∈ TBL := tb_12 _ (List.mem_of_getElem? (i := 25) rfl)
theorem w_386 : Cond.fieldLink "LoanHouseModel" 13 "LoanHouseModel" "kindOf" "[I" ∈ TBL := tb_12 _ (List.mem_of_getElem? (i := 26) rfl)
theorem w_387 : Cond.fieldLink "LoanHouseModel" 17 "LoanHouseModel" "placeOf" "[I" ∈ TBL := tb_12 _ (List.mem_of_getElem? (i := 27) rfl)
theorem w_388 : Cond.fieldLink "LoanHouseModel" 20 "LoanHouseModel" "endOf" "[I" ∈ TBL := tb_12 _ (List.mem_of_getElem? (i := 28) rfl)
theorem w_389 : Cond.classLink "LoanHouseModel" 23 "java/lang/String" ∈ TBL := tb_12 _ (List.mem_of_getElem? (i := 29) rfl)
theorem w_390 : Cond.instantiable "java/lang/String" 4 ∈ TBL := tb_13 _ (List.mem_of_getElem? (i := 0) rfl)
theorem w_391 : Cond.initialized "java/lang/String" ∈ TBL := tb_13 _ (List.mem_of_getElem? (i := 1) rfl)
theorem w_392 : Cond.fieldLink "LoanHouseModel" 25 "LoanHouseModel" "wordOf" "[Ljava/lang/String;" ∈ TBL := tb_13 _ (List.mem_of_getElem? (i := 2) rfl)
theorem w_393 : Cond.fieldLink "LoanHouseModel" 29 "LoanHouseModel" "late" "[Ljava/lang/String;" ∈ TBL := tb_13 _ (List.mem_of_getElem? (i := 3) rfl)
theorem w_394 : Cond.classLink "LoanHouseModel" 32 "java/lang/StringBuilder" ∈ TBL := tb_13 _ (List.mem_of_getElem? (i := 4) rfl)
theorem w_395 : Cond.instantiable "java/lang/StringBuilder" 4 ∈ TBL := tb_13 _ (List.mem_of_getElem? (i := 5) rfl)
theorem w_396 : Cond.initialized "java/lang/StringBuilder" ∈ TBL := tb_13 _ (List.mem_of_getElem? (i := 6) rfl)
theorem w_397 : Cond.methodLink "LoanHouseModel" 34 yJ4_init_d00df ∈ TBL := tb_13 _ (List.mem_of_getElem? (i := 7) rfl)
theorem w_398 : Cond.fieldLink "LoanHouseModel" 37 "LoanHouseModel" "builder" "Ljava/lang/StringBuilder;" ∈ TBL := tb_13 _ (List.mem_of_getElem? (i := 8) rfl)
theorem w_399 : Cond.fieldLink "LoanHouseModel" 41 "LoanHouseModel" "ones" "[Ljava/lang/String;" ∈ TBL := tb_13 _ (List.mem_of_getElem? (i := 9) rfl)
theorem w_400 : Cond.classLink "LoanHouseModel" 44 "java/util/ArrayList" ∈ TBL := tb_13 _ (List.mem_of_getElem? (i := 10) rfl)
theorem w_401 : Cond.instantiable "java/util/ArrayList" 3 ∈ TBL := tb_13 _ (List.mem_of_getElem? (i := 11) rfl)
theorem w_402 : Cond.initialized "java/util/ArrayList" ∈ TBL := tb_13 _ (List.mem_of_getElem? (i := 12) rfl)
theorem w_403 : Cond.methodLink "LoanHouseModel" 46 yJx4a65c_init_da8c8 ∈ TBL := tb_13 _ (List.mem_of_getElem? (i := 13) rfl)
theorem w_404 : Cond.fieldLink "LoanHouseModel" 47 "LoanHouseModel" "exps" "Ljava/util/ArrayList;" ∈ TBL := tb_13 _ (List.mem_of_getElem? (i := 14) rfl)
theorem w_405 : Cond.fieldLink "LoanHouseModel" 51 "LoanHouseModel" "takenExps" "Ljava/util/ArrayList;" ∈ TBL := tb_13 _ (List.mem_of_getElem? (i := 15) rfl)
theorem w_406 : Cond.classLink "LoanHouseModel" 54 "LoanHouseModel$Type" ∈ TBL := tb_13 _ (List.mem_of_getElem? (i := 16) rfl)
theorem w_407 : Cond.instantiable "LoanHouseModel$Type" 3 ∈ TBL := tb_13 _ (List.mem_of_getElem? (i := 17) rfl)
theorem w_408 : Cond.initialized "LoanHouseModel$Type" ∈ TBL := tb_13 _ (List.mem_of_getElem? (i := 18) rfl)
theorem w_409 : Cond.methodLink "LoanHouseModel" 56 yX26_init ∈ TBL := tb_13 _ (List.mem_of_getElem? (i := 19) rfl)
theorem w_410 : Cond.fieldLink "LoanHouseModel" 59 "LoanHouseModel" "intType" "LLoanHouseModel$Type;" ∈ TBL := tb_13 _ (List.mem_of_getElem? (i := 20) rfl)
theorem w_411 : Cond.fieldLink "LoanHouseModel" 63 "LoanHouseModel" "boolType" "LLoanHouseModel$Type;" ∈ TBL := tb_13 _ (List.mem_of_getElem? (i := 21) rfl)
theorem w_412 : Cond.fieldLink "LoanHouseModel" 66 "LoanHouseModel" "scope" "Ljava/util/ArrayList;" ∈ TBL := tb_13 _ (List.mem_of_getElem? (i := 22) rfl)
theorem w_413 : Cond.fieldLink "LoanHouseModel" 69 "LoanHouseModel" "nodes" "Ljava/util/ArrayList;" ∈ TBL := tb_13 _ (List.mem_of_getElem? (i := 23) rfl)
theorem w_414 : Cond.fieldLink "LoanHouseModel" 72 "LoanHouseModel" "live" "Ljava/util/ArrayList;" ∈ TBL := tb_13 _ (List.mem_of_getElem? (i := 24) rfl)
theorem w_415 : Cond.fieldLink "LoanHouseModel" 75 "LoanHouseModel" "allNodes" "Ljava/util/ArrayList;" ∈ TBL := tb_13 _ (List.mem_of_getElem? (i := 25) rfl)
theorem w_416 : Cond.fieldLink "LoanHouseModel" 78 "LoanHouseModel" "takenNodes" "Ljava/util/ArrayList;" ∈ TBL := tb_13 _ (List.mem_of_getElem? (i := 26) rfl)
theorem w_417 : Cond.fieldLink "LoanHouseModel" 81 "LoanHouseModel" "all" "[J" ∈ TBL := tb_13 _ (List.mem_of_getElem? (i := 27) rfl)
theorem w_418 : Cond.fieldLink "LoanHouseModel" 85 "LoanHouseModel" "some" "[J" ∈ TBL := tb_13 _ (List.mem_of_getElem? (i := 28) rfl)
theorem w_419 : Cond.fieldLink "LoanHouseModel" 88 "LoanHouseModel" "used" "[J" ∈ TBL := tb_13 _ (List.mem_of_getElem? (i := 29) rfl)
theorem w_420 : Cond.fieldLink "LoanHouseModel" 91 "LoanHouseModel" "holds" "[J" ∈ TBL := tb_14 _ (List.mem_of_getElem? (i := 0) rfl)
theorem w_421 : Cond.fieldLink "LoanHouseModel" 94 "LoanHouseModel" "column" "[I" ∈ TBL := tb_14 _ (List.mem_of_getElem? (i := 1) rfl)
theorem w_422 : Cond.fieldLink "LoanHouseModel" 97 "LoanHouseModel" "mark" "[Z" ∈ TBL := tb_14 _ (List.mem_of_getElem? (i := 2) rfl)
theorem w_423 : Cond.fieldLink "LoanHouseModel" 101 "LoanHouseModel" "now" "[J" ∈ TBL := tb_14 _ (List.mem_of_getElem? (i := 3) rfl)
theorem w_424 : Cond.fieldLink "LoanHouseModel" 104 "LoanHouseModel" "forces" "[J" ∈ TBL := tb_14 _ (List.mem_of_getElem? (i := 4) rfl)
theorem w_425 : Cond.fieldLink "LoanHouseModel" 107 "LoanHouseModel" "entries" "Ljava/util/ArrayList;" ∈ TBL := tb_14 _ (List.mem_of_getElem? (i := 5) rfl)
theorem w_426 : Cond.fieldLink "LoanHouseModel" 110 "LoanHouseModel" "lastFault" "I" ∈ TBL := tb_14 _ (List.mem_of_getElem? (i := 6) rfl)
theorem w_427 : Cond.fieldLink "LoanHouseModel" 114 "LoanHouseModel" "lastPlace" "I" ∈ TBL := tb_14 _ (List.mem_of_getElem? (i := 7) rfl)
theorem w_428 : Cond.fieldLink "LoanHouseModel" 117 "LoanHouseModel" "lastOther" "I" ∈ TBL := tb_14 _ (List.mem_of_getElem? (i := 8) rfl)
theorem w_429 : Cond.fieldLink "LoanHouseModel" 120 "LoanHouseModel" "made" "Ljava/util/ArrayList;" ∈ TBL := tb_14 _ (List.mem_of_getElem? (i := 9) rfl)
theorem w_430 : Cond.fieldLink "LoanHouseModel" 123 "LoanHouseModel" "takenForces" "[J" ∈ TBL := tb_14 _ (List.mem_of_getElem? (i := 10) rfl)
theorem w_431 : Cond.fieldLink "LoanHouseModel" 126 "LoanHouseModel" "type" "[LLoanHouseModel$Type;" ∈ TBL := tb_14 _ (List.mem_of_getElem? (i := 11) rfl)
theorem w_432 : Cond.fieldLink "LoanHouseModel" 130 "LoanHouseModel" "num" "[J" ∈ TBL := tb_14 _ (List.mem_of_getElem? (i := 12) rfl)
theorem w_433 : Cond.fieldLink "LoanHouseModel" 133 "LoanHouseModel" "times" "[J" ∈ TBL := tb_14 _ (List.mem_of_getElem? (i := 13) rfl)
theorem w_434 : Cond.fieldLink "LoanHouseModel" 136 "LoanHouseModel" "tree" "[J" ∈ TBL := tb_14 _ (List.mem_of_getElem? (i := 14) rfl)
theorem w_435 : Cond.fieldLink "LoanHouseModel" 139 "LoanHouseModel" "kin" "[J" ∈ TBL := tb_14 _ (List.mem_of_getElem? (i := 15) rfl)
theorem w_436 : Cond.fieldLink "LoanHouseModel" 142 "LoanHouseModel" "by" "[J" ∈ TBL := tb_14 _ (List.mem_of_getElem? (i := 16) rfl)
theorem w_437 : Cond.constant "LoanHouseModel" 145 (65536) ∈ TBL := tb_14 _ (List.mem_of_getElem? (i := 17) rfl)
theorem w_438 : Cond.fieldLink "LoanHouseModel" 146 "LoanHouseModel" "lentOf" "[I" ∈ TBL := tb_14 _ (List.mem_of_getElem? (i := 18) rfl)
theorem w_439 : Cond.fieldLink "LoanHouseModel" 149 "LoanHouseModel" "heap" "[I" ∈ TBL := tb_14 _ (List.mem_of_getElem? (i := 19) rfl)
theorem w_440 : Cond.fieldLink "LoanHouseModel" 152 "LoanHouseModel" "outKind" "[I" ∈ TBL := tb_14 _ (List.mem_of_getElem? (i := 20) rfl)
theorem w_441 : Cond.fieldLink "LoanHouseModel" 155 "LoanHouseModel" "outNumber" "[J" ∈ TBL := tb_14 _ (List.mem_of_getElem? (i := 21) rfl)
theorem w_442 : Cond.fieldLink "LoanHouseModel" 158 "LoanHouseModel" "renamed" "[I" ∈ TBL := tb_14 _ (List.mem_of_getElem? (i := 22) rfl)
theorem w_443 : Cond.fieldLink "LoanHouseModel" 161 "LoanHouseModel" "gave" "[J" ∈ TBL := tb_14 _ (List.mem_of_getElem? (i := 23) rfl)
theorem w_444 : Cond.fieldLink "LoanHouseModel" 164 "LoanHouseModel" "stack" "[I" ∈ TBL := tb_14 _ (List.mem_of_getElem? (i := 24) rfl)
theorem w_445 : Cond.classLink "LoanHouseModel" 167 "LoanHouseModel$Fn" ∈ TBL := tb_14 _ (List.mem_of_getElem? (i := 25) rfl)
theorem w_446 : Cond.instantiable "LoanHouseModel$Fn" 17 ∈ TBL := tb_14 _ (List.mem_of_getElem? (i := 26) rfl)
theorem w_447 : Cond.initialized "LoanHouseModel$Fn" ∈ TBL := tb_14 _ (List.mem_of_getElem? (i := 27) rfl)
theorem w_448 : Cond.fieldLink "LoanHouseModel" 169 "LoanHouseModel" "callFn" "[LLoanHouseModel$Fn;" ∈ TBL := tb_14 _ (List.mem_of_getElem? (i := 28) rfl)
theorem w_449 : Cond.classLink "LoanHouseModel" 173 "LoanHouseModel$Node" ∈ TBL := tb_14 _ (List.mem_of_getElem? (i := 29) rfl)
theorem w_450 : Cond.instantiable "LoanHouseModel$Node" 15 ∈ TBL := tb_15 _ (List.mem_of_getElem? (i := 0) rfl)
theorem w_451 : Cond.initialized "LoanHouseModel$Node" ∈ TBL := tb_15 _ (List.mem_of_getElem? (i := 1) rfl)
theorem w_452 : Cond.fieldLink "LoanHouseModel" 175 "LoanHouseModel" "callBack" "[LLoanHouseModel$Node;" ∈ TBL := tb_15 _ (List.mem_of_getElem? (i := 2) rfl)
theorem w_453 : Cond.fieldLink "LoanHouseModel" 179 "LoanHouseModel" "callBase" "[I" ∈ TBL := tb_15 _ (List.mem_of_getElem? (i := 3) rfl)
theorem w_454 : Cond.fieldLink "LoanHouseModel" 182 "LoanHouseModel" "actives" "[I" ∈ TBL := tb_15 _ (List.mem_of_getElem? (i := 4) rfl)
theorem w_455 : Cond.fieldLink "LoanHouseModel" 185 "LoanHouseModel" "variable" "[I" ∈ TBL := tb_15 _ (List.mem_of_getElem? (i := 5) rfl)
theorem w_456 : Cond.fieldLink "LoanHouseModel" 188 "LoanHouseModel" "active" "[I" ∈ TBL := tb_15 _ (List.mem_of_getElem? (i := 6) rfl)
theorem w_457 : Cond.fieldLink "LoanHouseModel" 191 "LoanHouseModel" "keptParts" "[I" ∈ TBL := tb_15 _ (List.mem_of_getElem? (i := 7) rfl)
theorem w_458 : Cond.code yX30_feed cX30_feed 8 (some .int) ∈ TBL := tb_15 _ (List.mem_of_getElem? (i := 8) rfl)
theorem w_459 : Cond.instanceMethod yX30_feed ∈ TBL := tb_15 _ (List.mem_of_getElem? (i := 9) rfl)
theorem w_460 : Cond.selects "LoanHouseModel" yX30_feed yX30_feed ∈ TBL := tb_15 _ (List.mem_of_getElem? (i := 10) rfl)
theorem w_461 : Cond.fieldLink "LoanHouseModel" 1231 "LoanHouseModel" "textSize" "I" ∈ TBL := tb_15 _ (List.mem_of_getElem? (i := 11) rfl)
theorem w_462 : Cond.code yX30_judge cX30_judge 4 (some .int) ∈ TBL := tb_15 _ (List.mem_of_getElem? (i := 12) rfl)
theorem w_463 : Cond.instanceMethod yX30_judge ∈ TBL := tb_15 _ (List.mem_of_getElem? (i := 13) rfl)
theorem w_464 : Cond.selects "LoanHouseModel" yX30_judge yX30_judge ∈ TBL := tb_15 _ (List.mem_of_getElem? (i := 14) rfl)
theorem w_465 : Cond.fieldLink "LoanHouseModel" 291 "LoanHouseModel" "fault" "I" ∈ TBL := tb_15 _ (List.mem_of_getElem? (i := 15) rfl)
theorem w_466 : Cond.fieldLink "LoanHouseModel" 294 "LoanHouseModel" "faultPlace" "I" ∈ TBL := tb_15 _ (List.mem_of_getElem? (i := 16) rfl)
theorem w_467 : Cond.fieldLink "LoanHouseModel" 297 "LoanHouseModel" "otherPlace" "I" ∈ TBL := tb_15 _ (List.mem_of_getElem? (i := 17) rfl)
theorem w_468 : Cond.methodLink "LoanHouseModel" 1234 yX30_split ∈ TBL := tb_15 _ (List.mem_of_getElem? (i := 18) rfl)
theorem w_469 : Cond.fieldLink "LoanHouseModel" 284 "LoanHouseModel" "at" "I" ∈ TBL := tb_15 _ (List.mem_of_getElem? (i := 19) rfl)
theorem w_470 : Cond.fieldLink "LoanHouseModel" 313 "LoanHouseModel" "open" "I" ∈ TBL := tb_15 _ (List.mem_of_getElem? (i := 20) rfl)
theorem w_471 : Cond.classLink "LoanHouseModel" 400 "LoanHouseModel$Program" ∈ TBL := tb_15 _ (List.mem_of_getElem? (i := 21) rfl)
theorem w_472 : Cond.instantiable "LoanHouseModel$Program" 4 ∈ TBL := tb_15 _ (List.mem_of_getElem? (i := 22) rfl)
theorem w_473 : Cond.initialized "LoanHouseModel$Program" ∈ TBL := tb_15 _ (List.mem_of_getElem? (i := 23) rfl)
theorem w_474 : Cond.fieldLink "LoanHouseModel" 395 "LoanHouseModel" "program" "LLoanHouseModel$Program;" ∈ TBL := tb_15 _ (List.mem_of_getElem? (i := 24) rfl)
theorem w_475 : Cond.fieldLink "LoanHouseModel" 621 "LoanHouseModel" "expsUsed" "I" ∈ TBL := tb_15 _ (List.mem_of_getElem? (i := 25) rfl)
theorem w_476 : Cond.fieldLink "LoanHouseModel" 1010 "LoanHouseModel" "nodesUsed" "I" ∈ TBL := tb_15 _ (List.mem_of_getElem? (i := 26) rfl)
theorem w_477 : Cond.fieldLink "LoanHouseModel" 489 "LoanHouseModel" "inHand" "LLoanHouseModel$Fn;" ∈ TBL := tb_15 _ (List.mem_of_getElem? (i := 27) rfl)
theorem w_478 : Cond.methodLink "LoanHouseModel" 1238 yX30_readText ∈ TBL := tb_15 _ (List.mem_of_getElem? (i := 28) rfl)
theorem w_479 : Cond.methodLink "LoanHouseModel" 1241 yX30_ruleItems ∈ TBL := tb_15 _ (List.mem_of_getElem? (i := 29) rfl)
theorem w_480 : Cond.methodLink "LoanHouseModel" 1244 yX30_ruleFns ∈ TBL := tb_16 _ (List.mem_of_getElem? (i := 0) rfl)
theorem w_481 : Cond.fieldLink "LoanHouseModel" 1250 "LoanHouseModel" "taken" "LLoanHouseModel$Program;" ∈ TBL := tb_16 _ (List.mem_of_getElem? (i := 1) rfl)
theorem w_482 : Cond.fieldLink "LoanHouseModel" 1253 "LoanHouseModel" "wasRun" "Z" ∈ TBL := tb_16 _ (List.mem_of_getElem? (i := 2) rfl)
theorem w_483 : Cond.code yX30_split cX30_split 9 none ∈ TBL := tb_16 _ (List.mem_of_getElem? (i := 3) rfl)
theorem w_484 : Cond.instanceMethod yX30_split ∈ TBL := tb_16 _ (List.mem_of_getElem? (i := 4) rfl)
theorem w_485 : Cond.selects "LoanHouseModel" yX30_split yX30_split ∈ TBL := tb_16 _ (List.mem_of_getElem? (i := 5) rfl)
theorem w_486 : Cond.fieldLink "LoanHouseModel" 201 "LoanHouseModel" "tokens" "I" ∈ TBL := tb_16 _ (List.mem_of_getElem? (i := 6) rfl)
theorem w_487 : Cond.methodLink "LoanHouseModel" 263 yX30_token ∈ TBL := tb_16 _ (List.mem_of_getElem? (i := 7) rfl)
theorem w_488 : Cond.constantLong "LoanHouseModel" 274 (9223372036854775807) ∈ TBL := tb_16 _ (List.mem_of_getElem? (i := 8) rfl)
theorem w_489 : Cond.constantLong "LoanHouseModel" 276 (10) ∈ TBL := tb_16 _ (List.mem_of_getElem? (i := 9) rfl)
theorem w_490 : Cond.code yX30_token cX30_token 4 none ∈ TBL := tb_16 _ (List.mem_of_getElem? (i := 10) rfl)
theorem w_491 : Cond.instanceMethod yX30_token ∈ TBL := tb_16 _ (List.mem_of_getElem? (i := 11) rfl)
theorem w_492 : Cond.selects "LoanHouseModel" yX30_token yX30_token ∈ TBL := tb_16 _ (List.mem_of_getElem? (i := 12) rfl)
theorem w_493 : Cond.methodLink "LoanHouseModel" 210 yX30_known ∈ TBL := tb_16 _ (List.mem_of_getElem? (i := 13) rfl)
theorem w_494 : Cond.code yX30_known cX30_known 5 (some (.object "java/lang/String")) ∈ TBL := tb_16 _ (List.mem_of_getElem? (i := 14) rfl)
theorem w_495 : Cond.instanceMethod yX30_known ∈ TBL := tb_16 _ (List.mem_of_getElem? (i := 15) rfl)
theorem w_496 : Cond.selects "LoanHouseModel" yX30_known yX30_known ∈ TBL := tb_16 _ (List.mem_of_getElem? (i := 16) rfl)
theorem w_497 : Cond.methodLink "LoanHouseModel" 213 yX30_isLate ∈ TBL := tb_16 _ (List.mem_of_getElem? (i := 17) rfl)
theorem w_498 : Cond.methodLink "LoanHouseModel" 217 yX30_word ∈ TBL := tb_16 _ (List.mem_of_getElem? (i := 18) rfl)
theorem w_499 : Cond.code yX30_isLate cX30_isLate 5 (some .boolean) ∈ TBL := tb_16 _ (List.mem_of_getElem? (i := 19) rfl)
theorem w_500 : Cond.instanceMethod yX30_isLate ∈ TBL := tb_16 _ (List.mem_of_getElem? (i := 20) rfl)
theorem w_501 : Cond.selects "LoanHouseModel" yX30_isLate yX30_isLate ∈ TBL := tb_16 _ (List.mem_of_getElem? (i := 21) rfl)
theorem w_502 : Cond.methodLink "LoanHouseModel" 220 yJ0_length_8abf5 ∈ TBL := tb_16 _ (List.mem_of_getElem? (i := 22) rfl)
theorem w_503 : Cond.methodLink "LoanHouseModel" 224 yJ0_charAt_5068e ∈ TBL := tb_16 _ (List.mem_of_getElem? (i := 23) rfl)
theorem w_504 : Cond.code yX30_word cX30_word 4 (some (.object "java/lang/String")) ∈ TBL := tb_16 _ (List.mem_of_getElem? (i := 24) rfl)
theorem w_505 : Cond.instanceMethod yX30_word ∈ TBL := tb_16 _ (List.mem_of_getElem? (i := 25) rfl)
theorem w_506 : Cond.selects "LoanHouseModel" yX30_word yX30_word ∈ TBL := tb_16 _ (List.mem_of_getElem? (i := 26) rfl)
theorem w_507 : Cond.methodLink "LoanHouseModel" 228 yJ4_setLength_d00df ∈ TBL := tb_16 _ (List.mem_of_getElem? (i := 27) rfl)
theorem w_508 : Cond.methodLink "LoanHouseModel" 235 yJ4_toString_0e30d ∈ TBL := tb_16 _ (List.mem_of_getElem? (i := 28) rfl)
theorem w_509 : Cond.code yX30_readText cX30_readText 1 none ∈ TBL := tb_16 _ (List.mem_of_getElem? (i := 29) rfl)
theorem w_510 : Cond.instanceMethod yX30_readText ∈ TBL := tb_17 _ (List.mem_of_getElem? (i := 0) rfl)
theorem w_511 : Cond.selects "LoanHouseModel" yX30_readText yX30_readText ∈ TBL := tb_17 _ (List.mem_of_getElem? (i := 1) rfl)
theorem w_512 : Cond.methodLink "LoanHouseModel" 300 yX30_isOver ∈ TBL := tb_17 _ (List.mem_of_getElem? (i := 2) rfl)
theorem w_513 : Cond.code yX30_isOver cX30_isOver 1 (some .boolean) ∈ TBL := tb_17 _ (List.mem_of_getElem? (i := 3) rfl)
theorem w_514 : Cond.instanceMethod yX30_isOver ∈ TBL := tb_17 _ (List.mem_of_getElem? (i := 4) rfl)
theorem w_515 : Cond.selects "LoanHouseModel" yX30_isOver yX30_isOver ∈ TBL := tb_17 _ (List.mem_of_getElem? (i := 5) rfl)
theorem w_516 : Cond.code yX30_ruleItems cX30_ruleItems 5 none ∈ TBL := tb_17 _ (List.mem_of_getElem? (i := 6) rfl)
theorem w_517 : Cond.instanceMethod yX30_ruleItems ∈ TBL := tb_17 _ (List.mem_of_getElem? (i := 7) rfl)
theorem w_518 : Cond.selects "LoanHouseModel" yX30_ruleItems yX30_ruleItems ∈ TBL := tb_17 _ (List.mem_of_getElem? (i := 8) rfl)
theorem w_519 : Cond.fieldLink "LoanHouseModel" 399 "LoanHouseModel$Program" "items" "Ljava/util/ArrayList;" ∈ TBL := tb_17 _ (List.mem_of_getElem? (i := 9) rfl)
theorem w_520 : Cond.methodLink "LoanHouseModel" 404 yJx4a65c_size_8abf5 ∈ TBL := tb_17 _ (List.mem_of_getElem? (i := 10) rfl)
theorem w_521 : Cond.classLink "LoanHouseModel" 348 "LoanHouseModel$Item" ∈ TBL := tb_17 _ (List.mem_of_getElem? (i := 11) rfl)
theorem w_522 : Cond.instantiable "LoanHouseModel$Item" 13 ∈ TBL := tb_17 _ (List.mem_of_getElem? (i := 12) rfl)
theorem w_523 : Cond.initialized "LoanHouseModel$Item" ∈ TBL := tb_17 _ (List.mem_of_getElem? (i := 13) rfl)
theorem w_524 : Cond.fieldLink "LoanHouseModel" 351 "LoanHouseModel$Item" "first" "I" ∈ TBL := tb_17 _ (List.mem_of_getElem? (i := 14) rfl)
theorem w_525 : Cond.methodLink "LoanHouseModel" 746 yX30_wrong ∈ TBL := tb_17 _ (List.mem_of_getElem? (i := 15) rfl)
theorem w_526 : Cond.fieldLink "LoanHouseModel" 364 "LoanHouseModel$Item" "name" "Ljava/lang/String;" ∈ TBL := tb_17 _ (List.mem_of_getElem? (i := 16) rfl)
theorem w_527 : Cond.fieldLink "LoanHouseModel" 358 "LoanHouseModel$Item" "place" "I" ∈ TBL := tb_17 _ (List.mem_of_getElem? (i := 17) rfl)
theorem w_528 : Cond.fieldLink "LoanHouseModel" 383 "LoanHouseModel$Item" "fields" "Ljava/util/ArrayList;" ∈ TBL := tb_17 _ (List.mem_of_getElem? (i := 18) rfl)
theorem w_529 : Cond.classLink "LoanHouseModel" 441 "LoanHouseModel$Field" ∈ TBL := tb_17 _ (List.mem_of_getElem? (i := 19) rfl)
theorem w_530 : Cond.instantiable "LoanHouseModel$Field" 4 ∈ TBL := tb_17 _ (List.mem_of_getElem? (i := 20) rfl)
theorem w_531 : Cond.initialized "LoanHouseModel$Field" ∈ TBL := tb_17 _ (List.mem_of_getElem? (i := 21) rfl)
theorem w_532 : Cond.fieldLink "LoanHouseModel" 444 "LoanHouseModel$Field" "place" "I" ∈ TBL := tb_17 _ (List.mem_of_getElem? (i := 22) rfl)
theorem w_533 : Cond.fieldLink "LoanHouseModel" 445 "LoanHouseModel$Field" "name" "Ljava/lang/String;" ∈ TBL := tb_17 _ (List.mem_of_getElem? (i := 23) rfl)
theorem w_534 : Cond.fieldLink "LoanHouseModel" 448 "LoanHouseModel$Field" "told" "LLoanHouseModel$Told;" ∈ TBL := tb_17 _ (List.mem_of_getElem? (i := 24) rfl)
theorem w_535 : Cond.fieldLink "LoanHouseModel" 760 "LoanHouseModel$Field" "type" "LLoanHouseModel$Type;" ∈ TBL := tb_17 _ (List.mem_of_getElem? (i := 25) rfl)
theorem w_536 : Cond.fieldLink "LoanHouseModel" 418 "LoanHouseModel$Item" "variants" "Ljava/util/ArrayList;" ∈ TBL := tb_17 _ (List.mem_of_getElem? (i := 26) rfl)
theorem w_537 : Cond.fieldLink "LoanHouseModel" 369 "LoanHouseModel$Item" "isTold" "Z" ∈ TBL := tb_17 _ (List.mem_of_getElem? (i := 27) rfl)
theorem w_538 : Cond.fieldLink "LoanHouseModel" 769 "LoanHouseModel$Type" "kind" "I" ∈ TBL := tb_17 _ (List.mem_of_getElem? (i := 28) rfl)
theorem w_539 : Cond.fieldLink "LoanHouseModel" 773 "LoanHouseModel$Item" "isBad" "Z" ∈ TBL := tb_17 _ (List.mem_of_getElem? (i := 29) rfl)
theorem w_540 : Cond.fieldLink "LoanHouseModel" 776 "LoanHouseModel$Item" "size" "I" ∈ TBL := tb_18 _ (List.mem_of_getElem? (i := 0) rfl)
theorem w_541 : Cond.fieldLink "LoanHouseModel" 778 "LoanHouseModel$Item" "parts" "I" ∈ TBL := tb_18 _ (List.mem_of_getElem? (i := 1) rfl)
theorem w_542 : Cond.code yX30_ruleFns cX30_ruleFns 5 none ∈ TBL := tb_18 _ (List.mem_of_getElem? (i := 2) rfl)
theorem w_543 : Cond.instanceMethod yX30_ruleFns ∈ TBL := tb_18 _ (List.mem_of_getElem? (i := 3) rfl)
theorem w_544 : Cond.selects "LoanHouseModel" yX30_ruleFns yX30_ruleFns ∈ TBL := tb_18 _ (List.mem_of_getElem? (i := 4) rfl)
theorem w_545 : Cond.fieldLink "LoanHouseModel" 501 "LoanHouseModel$Program" "fns" "Ljava/util/ArrayList;" ∈ TBL := tb_18 _ (List.mem_of_getElem? (i := 5) rfl)
theorem w_546 : Cond.fieldLink "LoanHouseModel" 473 "LoanHouseModel$Fn" "first" "I" ∈ TBL := tb_18 _ (List.mem_of_getElem? (i := 6) rfl)
theorem w_547 : Cond.fieldLink "LoanHouseModel" 475 "LoanHouseModel$Fn" "name" "Ljava/lang/String;" ∈ TBL := tb_18 _ (List.mem_of_getElem? (i := 7) rfl)
theorem w_548 : Cond.methodLink "LoanHouseModel" 805 yX30_fnOf ∈ TBL := tb_18 _ (List.mem_of_getElem? (i := 8) rfl)
theorem w_549 : Cond.fieldLink "LoanHouseModel" 474 "LoanHouseModel$Fn" "place" "I" ∈ TBL := tb_18 _ (List.mem_of_getElem? (i := 9) rfl)
theorem w_550 : Cond.fieldLink "LoanHouseModel" 476 "LoanHouseModel$Fn" "params" "Ljava/util/ArrayList;" ∈ TBL := tb_18 _ (List.mem_of_getElem? (i := 10) rfl)
theorem w_551 : Cond.fieldLink "LoanHouseModel" 479 "LoanHouseModel$Fn" "told" "LLoanHouseModel$Told;" ∈ TBL := tb_18 _ (List.mem_of_getElem? (i := 11) rfl)
theorem w_552 : Cond.fieldLink "LoanHouseModel" 809 "LoanHouseModel$Fn" "result" "LLoanHouseModel$Type;" ∈ TBL := tb_18 _ (List.mem_of_getElem? (i := 12) rfl)
theorem w_553 : Cond.fieldLink "LoanHouseModel" 724 "LoanHouseModel$Program" "places" "Ljava/util/ArrayList;" ∈ TBL := tb_18 _ (List.mem_of_getElem? (i := 13) rfl)
theorem w_554 : Cond.classLink "LoanHouseModel" 717 "LoanHouseModel$Place" ∈ TBL := tb_18 _ (List.mem_of_getElem? (i := 14) rfl)
theorem w_555 : Cond.instantiable "LoanHouseModel$Place" 11 ∈ TBL := tb_18 _ (List.mem_of_getElem? (i := 15) rfl)
theorem w_556 : Cond.initialized "LoanHouseModel$Place" ∈ TBL := tb_18 _ (List.mem_of_getElem? (i := 16) rfl)
theorem w_557 : Cond.fieldLink "LoanHouseModel" 720 "LoanHouseModel$Place" "place" "I" ∈ TBL := tb_18 _ (List.mem_of_getElem? (i := 17) rfl)
theorem w_558 : Cond.code yX30_fnOf cX30_fnOf 3 (some (.object "LoanHouseModel$Fn")) ∈ TBL := tb_18 _ (List.mem_of_getElem? (i := 18) rfl)
theorem w_559 : Cond.instanceMethod yX30_fnOf ∈ TBL := tb_18 _ (List.mem_of_getElem? (i := 19) rfl)
theorem w_560 : Cond.selects "LoanHouseModel" yX30_fnOf yX30_fnOf ∈ TBL := tb_18 _ (List.mem_of_getElem? (i := 20) rfl)
theorem w_561 : Cond.code yX30_wrong cX30_wrong 2 none ∈ TBL := tb_18 _ (List.mem_of_getElem? (i := 21) rfl)
theorem w_562 : Cond.instanceMethod yX30_wrong ∈ TBL := tb_18 _ (List.mem_of_getElem? (i := 22) rfl)
theorem w_563 : Cond.selects "LoanHouseModel" yX30_wrong yX30_wrong ∈ TBL := tb_18 _ (List.mem_of_getElem? (i := 23) rfl)
theorem w_564 : Cond.methodLink "LoanHouseModel" 307 yX30_breaks ∈ TBL := tb_18 _ (List.mem_of_getElem? (i := 24) rfl)
theorem w_565 : Cond.code yX30_breaks cX30_breaks 4 none ∈ TBL := tb_18 _ (List.mem_of_getElem? (i := 25) rfl)
theorem w_566 : Cond.instanceMethod yX30_breaks ∈ TBL := tb_18 _ (List.mem_of_getElem? (i := 26) rfl)
theorem w_567 : Cond.selects "LoanHouseModel" yX30_breaks yX30_breaks ∈ TBL := tb_18 _ (List.mem_of_getElem? (i := 27) rfl)
theorem w_568 : Cond.code yX30_fault cX30_fault 2 (some .int) ∈ TBL := tb_18 _ (List.mem_of_getElem? (i := 28) rfl)
theorem w_569 : Cond.instanceMethod yX30_fault ∈ TBL := tb_18 _ (List.mem_of_getElem? (i := 29) rfl)
theorem w_570 : Cond.selects "LoanHouseModel" yX30_fault yX30_fault ∈ TBL := tb_19 _ (List.mem_of_getElem? (i := 0) rfl)
theorem w_571 : Cond.code yX30_give_ cX30_give_ 3 (some .int) ∈ TBL := tb_19 _ (List.mem_of_getElem? (i := 1) rfl)
theorem w_572 : Cond.instanceMethod yX30_give_ ∈ TBL := tb_19 _ (List.mem_of_getElem? (i := 2) rfl)
theorem w_573 : Cond.selects "LoanHouseModel" yX30_give_ yX30_give_ ∈ TBL := tb_19 _ (List.mem_of_getElem? (i := 3) rfl)
theorem w_574 : Cond.fieldLink "LoanHouseModel" 1502 "LoanHouseModel" "gaves" "I" ∈ TBL := tb_19 _ (List.mem_of_getElem? (i := 4) rfl)
theorem w_575 : Cond.code yX30_run cX30_run 4 (some .int) ∈ TBL := tb_19 _ (List.mem_of_getElem? (i := 5) rfl)
theorem w_576 : Cond.instanceMethod yX30_run ∈ TBL := tb_19 _ (List.mem_of_getElem? (i := 6) rfl)
theorem w_577 : Cond.selects "LoanHouseModel" yX30_run yX30_run ∈ TBL := tb_19 _ (List.mem_of_getElem? (i := 7) rfl)
theorem w_578 : Cond.constant "LoanHouseModel" 1545 (50000) ∈ TBL := tb_19 _ (List.mem_of_getElem? (i := 8) rfl)
theorem w_579 : Cond.fieldLink "LoanHouseModel" 1294 "LoanHouseModel" "pool" "I" ∈ TBL := tb_19 _ (List.mem_of_getElem? (i := 9) rfl)
theorem w_580 : Cond.fieldLink "LoanHouseModel" 1288 "LoanHouseModel" "spare" "I" ∈ TBL := tb_19 _ (List.mem_of_getElem? (i := 10) rfl)
theorem w_581 : Cond.fieldLink "LoanHouseModel" 1341 "LoanHouseModel" "time" "J" ∈ TBL := tb_19 _ (List.mem_of_getElem? (i := 11) rfl)
theorem w_582 : Cond.fieldLink "LoanHouseModel" 1401 "LoanHouseModel" "lends" "I" ∈ TBL := tb_19 _ (List.mem_of_getElem? (i := 12) rfl)
theorem w_583 : Cond.fieldLink "LoanHouseModel" 1359 "LoanHouseModel" "strays" "I" ∈ TBL := tb_19 _ (List.mem_of_getElem? (i := 13) rfl)
theorem w_584 : Cond.fieldLink "LoanHouseModel" 1387 "LoanHouseModel" "twices" "I" ∈ TBL := tb_19 _ (List.mem_of_getElem? (i := 14) rfl)
theorem w_585 : Cond.fieldLink "LoanHouseModel" 1417 "LoanHouseModel" "clashes" "I" ∈ TBL := tb_19 _ (List.mem_of_getElem? (i := 15) rfl)
theorem w_586 : Cond.fieldLink "LoanHouseModel" 1546 "LoanHouseModel" "lefts" "I" ∈ TBL := tb_19 _ (List.mem_of_getElem? (i := 16) rfl)
theorem w_587 : Cond.fieldLink "LoanHouseModel" 1375 "LoanHouseModel" "outs" "I" ∈ TBL := tb_19 _ (List.mem_of_getElem? (i := 17) rfl)
theorem w_588 : Cond.fieldLink "LoanHouseModel" 1477 "LoanHouseModel" "toldMade" "I" ∈ TBL := tb_19 _ (List.mem_of_getElem? (i := 18) rfl)
theorem w_589 : Cond.fieldLink "LoanHouseModel" 1393 "LoanHouseModel" "toldDropped" "I" ∈ TBL := tb_19 _ (List.mem_of_getElem? (i := 19) rfl)
theorem w_590 : Cond.fieldLink "LoanHouseModel" 1396 "LoanHouseModel" "boxes" "I" ∈ TBL := tb_19 _ (List.mem_of_getElem? (i := 20) rfl)
theorem w_591 : Cond.fieldLink "LoanHouseModel" 1399 "LoanHouseModel" "rows" "I" ∈ TBL := tb_19 _ (List.mem_of_getElem? (i := 21) rfl)
theorem w_592 : Cond.fieldLink "LoanHouseModel" 1480 "LoanHouseModel" "mostBoxes" "I" ∈ TBL := tb_19 _ (List.mem_of_getElem? (i := 22) rfl)
theorem w_593 : Cond.fieldLink "LoanHouseModel" 1486 "LoanHouseModel" "mostRows" "I" ∈ TBL := tb_19 _ (List.mem_of_getElem? (i := 23) rfl)
theorem w_594 : Cond.fieldLink "LoanHouseModel" 1496 "LoanHouseModel" "ended" "I" ∈ TBL := tb_19 _ (List.mem_of_getElem? (i := 24) rfl)
theorem w_595 : Cond.fieldLink "LoanHouseModel" 1425 "LoanHouseModel" "failWhy" "I" ∈ TBL := tb_19 _ (List.mem_of_getElem? (i := 25) rfl)
theorem w_596 : Cond.fieldLink "LoanHouseModel" 1428 "LoanHouseModel" "failPlace" "I" ∈ TBL := tb_19 _ (List.mem_of_getElem? (i := 26) rfl)
theorem w_597 : Cond.fieldLink "LoanHouseModel" 1493 "LoanHouseModel" "steps" "I" ∈ TBL := tb_19 _ (List.mem_of_getElem? (i := 27) rfl)
theorem w_598 : Cond.fieldLink "LoanHouseModel" 1499 "LoanHouseModel" "reads" "I" ∈ TBL := tb_19 _ (List.mem_of_getElem? (i := 28) rfl)
theorem w_599 : Cond.fieldLink "LoanHouseModel" 1422 "LoanHouseModel" "high" "I" ∈ TBL := tb_19 _ (List.mem_of_getElem? (i := 29) rfl)
theorem w_600 : Cond.fieldLink "LoanHouseModel" 1431 "LoanHouseModel" "calls" "I" ∈ TBL := tb_20 _ (List.mem_of_getElem? (i := 0) rfl)
theorem w_601 : Cond.fieldLink "LoanHouseModel" 504 "LoanHouseModel$Fn" "index" "I" ∈ TBL := tb_20 _ (List.mem_of_getElem? (i := 1) rfl)
theorem w_602 : Cond.code yX30_about cX30_about 2 (some .int) ∈ TBL := tb_20 _ (List.mem_of_getElem? (i := 2) rfl)
theorem w_603 : Cond.instanceMethod yX30_about ∈ TBL := tb_20 _ (List.mem_of_getElem? (i := 3) rfl)
theorem w_604 : Cond.selects "LoanHouseModel" yX30_about yX30_about ∈ TBL := tb_20 _ (List.mem_of_getElem? (i := 4) rfl)
theorem w_605 : Cond.code yX30_out_ cX30_out_ 3 (some .long) ∈ TBL := tb_20 _ (List.mem_of_getElem? (i := 5) rfl)
theorem w_606 : Cond.instanceMethod yX30_out_ ∈ TBL := tb_20 _ (List.mem_of_getElem? (i := 6) rfl)
theorem w_607 : Cond.selects "LoanHouseModel" yX30_out_ yX30_out_ ∈ TBL := tb_20 _ (List.mem_of_getElem? (i := 7) rfl)
theorem w_608 : Cond.code yX30_count cX30_count 2 (some .int) ∈ TBL := tb_20 _ (List.mem_of_getElem? (i := 8) rfl)
theorem w_609 : Cond.instanceMethod yX30_count ∈ TBL := tb_20 _ (List.mem_of_getElem? (i := 9) rfl)
theorem w_610 : Cond.selects "LoanHouseModel" yX30_count yX30_count ∈ TBL := tb_20 _ (List.mem_of_getElem? (i := 10) rfl)
theorem w_611 : Cond.fieldLink "LoanHouseModel" 1256 "LoanHouseModel$Program" "loans" "Ljava/util/ArrayList;" ∈ TBL := tb_20 _ (List.mem_of_getElem? (i := 11) rfl)
theorem w_612 : Cond.code yX30_place_ cX30_place_ 4 (some .int) ∈ TBL := tb_20 _ (List.mem_of_getElem? (i := 12) rfl)
theorem w_613 : Cond.instanceMethod yX30_place_ ∈ TBL := tb_20 _ (List.mem_of_getElem? (i := 13) rfl)
theorem w_614 : Cond.selects "LoanHouseModel" yX30_place_ yX30_place_ ∈ TBL := tb_20 _ (List.mem_of_getElem? (i := 14) rfl)
theorem w_615 : Cond.fieldLink "LoanHouseModel" 937 "LoanHouseModel$Place" "act" "I" ∈ TBL := tb_20 _ (List.mem_of_getElem? (i := 15) rfl)
theorem w_616 : Cond.fieldLink "LoanHouseModel" 722 "LoanHouseModel$Place" "fn" "LLoanHouseModel$Fn;" ∈ TBL := tb_20 _ (List.mem_of_getElem? (i := 16) rfl)
theorem w_617 : Cond.fieldLink "LoanHouseModel" 1221 "LoanHouseModel$Place" "inForce" "I" ∈ TBL := tb_20 _ (List.mem_of_getElem? (i := 17) rfl)
theorem w_618 : Cond.fieldLink "LoanHouseModel" 1138 "LoanHouseModel$Place" "isCome" "Z" ∈ TBL := tb_20 _ (List.mem_of_getElem? (i := 18) rfl)
theorem w_619 : Cond.code yX30_loan cX30_loan 4 (some .int) ∈ TBL := tb_20 _ (List.mem_of_getElem? (i := 19) rfl)
theorem w_620 : Cond.instanceMethod yX30_loan ∈ TBL := tb_20 _ (List.mem_of_getElem? (i := 20) rfl)
theorem w_621 : Cond.selects "LoanHouseModel" yX30_loan yX30_loan ∈ TBL := tb_20 _ (List.mem_of_getElem? (i := 21) rfl)
theorem w_622 : Cond.classLink "LoanHouseModel" 876 "LoanHouseModel$Loan" ∈ TBL := tb_20 _ (List.mem_of_getElem? (i := 22) rfl)
theorem w_623 : Cond.instantiable "LoanHouseModel$Loan" 6 ∈ TBL := tb_20 _ (List.mem_of_getElem? (i := 23) rfl)
theorem w_624 : Cond.initialized "LoanHouseModel$Loan" ∈ TBL := tb_20 _ (List.mem_of_getElem? (i := 24) rfl)
theorem w_625 : Cond.fieldLink "LoanHouseModel" 878 "LoanHouseModel$Loan" "sign" "I" ∈ TBL := tb_20 _ (List.mem_of_getElem? (i := 25) rfl)
theorem w_626 : Cond.fieldLink "LoanHouseModel" 980 "LoanHouseModel$Loan" "isSole" "Z" ∈ TBL := tb_20 _ (List.mem_of_getElem? (i := 26) rfl)
theorem w_627 : Cond.fieldLink "LoanHouseModel" 983 "LoanHouseModel$Loan" "place" "LLoanHouseModel$Place;" ∈ TBL := tb_20 _ (List.mem_of_getElem? (i := 27) rfl)
theorem w_628 : Cond.fieldLink "LoanHouseModel" 727 "LoanHouseModel$Place" "number" "I" ∈ TBL := tb_20 _ (List.mem_of_getElem? (i := 28) rfl)
theorem w_629 : Cond.fieldLink "LoanHouseModel" 1223 "LoanHouseModel$Loan" "acts" "I" ∈ TBL := tb_20 _ (List.mem_of_getElem? (i := 29) rfl)
theorem w_630 : Cond.code yX30_force cX30_force 3 (some .int) ∈ TBL := tb_21 _ (List.mem_of_getElem? (i := 0) rfl)
theorem w_631 : Cond.instanceMethod yX30_force ∈ TBL := tb_21 _ (List.mem_of_getElem? (i := 1) rfl)
theorem w_632 : Cond.selects "LoanHouseModel" yX30_force yX30_force ∈ TBL := tb_21 _ (List.mem_of_getElem? (i := 2) rfl)
theorem w_633 : Cond.code yX30_function cX30_function 4 (some .int) ∈ TBL := tb_21 _ (List.mem_of_getElem? (i := 3) rfl)
theorem w_634 : Cond.instanceMethod yX30_function ∈ TBL := tb_21 _ (List.mem_of_getElem? (i := 4) rfl)
theorem w_635 : Cond.selects "LoanHouseModel" yX30_function yX30_function ∈ TBL := tb_21 _ (List.mem_of_getElem? (i := 5) rfl)
theorem w_636 : Cond.fieldLink "LoanHouseModel" 836 "LoanHouseModel$Fn" "vars" "Ljava/util/ArrayList;" ∈ TBL := tb_21 _ (List.mem_of_getElem? (i := 6) rfl)
theorem w_637 : Cond.fieldLink "LoanHouseModel" 840 "LoanHouseModel$Fn" "leaves" "I" ∈ TBL := tb_21 _ (List.mem_of_getElem? (i := 7) rfl)
theorem w_638 : Cond.fieldLink "LoanHouseModel" 1150 "LoanHouseModel$Fn" "torn" "I" ∈ TBL := tb_21 _ (List.mem_of_getElem? (i := 8) rfl)
theorem w_639 : Cond.fieldLink "LoanHouseModel" 873 "LoanHouseModel$Fn" "loans" "Ljava/util/ArrayList;" ∈ TBL := tb_21 _ (List.mem_of_getElem? (i := 9) rfl)
theorem w_640 : Cond.code yX30_size cX30_size 2 (some .int) ∈ TBL := tb_21 _ (List.mem_of_getElem? (i := 10) rfl)
theorem w_641 : Cond.instanceMethod yX30_size ∈ TBL := tb_21 _ (List.mem_of_getElem? (i := 11) rfl)
theorem w_642 : Cond.selects "LoanHouseModel" yX30_size yX30_size ∈ TBL := tb_21 _ (List.mem_of_getElem? (i := 12) rfl)
theorem w_643 : Cond.code yX30_strays cX30_strays 1 (some .int) ∈ TBL := tb_21 _ (List.mem_of_getElem? (i := 13) rfl)
theorem w_644 : Cond.instanceMethod yX30_strays ∈ TBL := tb_21 _ (List.mem_of_getElem? (i := 14) rfl)
theorem w_645 : Cond.selects "LoanHouseModel" yX30_strays yX30_strays ∈ TBL := tb_21 _ (List.mem_of_getElem? (i := 15) rfl)
theorem w_646 : Cond.code yX30_twices cX30_twices 1 (some .int) ∈ TBL := tb_21 _ (List.mem_of_getElem? (i := 16) rfl)
theorem w_647 : Cond.instanceMethod yX30_twices ∈ TBL := tb_21 _ (List.mem_of_getElem? (i := 17) rfl)
theorem w_648 : Cond.selects "LoanHouseModel" yX30_twices yX30_twices ∈ TBL := tb_21 _ (List.mem_of_getElem? (i := 18) rfl)
theorem w_649 : Cond.code yX30_lefts cX30_lefts 1 (some .int) ∈ TBL := tb_21 _ (List.mem_of_getElem? (i := 19) rfl)
theorem w_650 : Cond.instanceMethod yX30_lefts ∈ TBL := tb_21 _ (List.mem_of_getElem? (i := 20) rfl)
theorem w_651 : Cond.selects "LoanHouseModel" yX30_lefts yX30_lefts ∈ TBL := tb_21 _ (List.mem_of_getElem? (i := 21) rfl)
theorem w_652 : Cond.code yX30_clashes_ cX30_clashes_ 1 (some .int) ∈ TBL := tb_21 _ (List.mem_of_getElem? (i := 22) rfl)
theorem w_653 : Cond.instanceMethod yX30_clashes_ ∈ TBL := tb_21 _ (List.mem_of_getElem? (i := 23) rfl)
theorem w_654 : Cond.selects "LoanHouseModel" yX30_clashes_ yX30_clashes_ ∈ TBL := tb_21 _ (List.mem_of_getElem? (i := 24) rfl)
theorem w_655 : Cond.code yX26_init cX26_init 4 none ∈ TBL := tb_21 _ (List.mem_of_getElem? (i := 25) rfl)
theorem w_656 : Cond.instanceMethod yX26_init ∈ TBL := tb_21 _ (List.mem_of_getElem? (i := 26) rfl)
theorem w_657 : Cond.methodLink "LoanHouseModel$Type" 3 objectInit ∈ TBL := tb_21 _ (List.mem_of_getElem? (i := 27) rfl)
theorem w_658 : Cond.fieldLink "LoanHouseModel$Type" 9 "LoanHouseModel$Type" "kind" "I" ∈ TBL := tb_21 _ (List.mem_of_getElem? (i := 28) rfl)
theorem w_659 : Cond.fieldLink "LoanHouseModel$Type" 15 "LoanHouseModel$Type" "item" "LLoanHouseModel$Item;" ∈ TBL := tb_21 _ (List.mem_of_getElem? (i := 29) rfl)
theorem w_660 : Cond.fieldLink "LoanHouseModel$Type" 19 "LoanHouseModel$Type" "of" "LLoanHouseModel$Type;" ∈ TBL := tb_22 _ (List.mem_of_getElem? (i := 0) rfl)
theorem w_661 : Cond.code yX23_init cX23_init 1 none ∈ TBL := tb_22 _ (List.mem_of_getElem? (i := 1) rfl)
theorem w_662 : Cond.instanceMethod yX23_init ∈ TBL := tb_22 _ (List.mem_of_getElem? (i := 2) rfl)
theorem w_663 : Cond.methodLink "LoanHouseModel$Program" 1 objectInit ∈ TBL := tb_22 _ (List.mem_of_getElem? (i := 3) rfl)
theorem w_664 : Cond.classLink "LoanHouseModel$Program" 7 "java/util/ArrayList" ∈ TBL := tb_22 _ (List.mem_of_getElem? (i := 4) rfl)
theorem w_665 : Cond.methodLink "LoanHouseModel$Program" 9 yJx4a65c_init_da8c8 ∈ TBL := tb_22 _ (List.mem_of_getElem? (i := 5) rfl)
theorem w_666 : Cond.fieldLink "LoanHouseModel$Program" 10 "LoanHouseModel$Program" "items" "Ljava/util/ArrayList;" ∈ TBL := tb_22 _ (List.mem_of_getElem? (i := 6) rfl)
theorem w_667 : Cond.fieldLink "LoanHouseModel$Program" 16 "LoanHouseModel$Program" "fns" "Ljava/util/ArrayList;" ∈ TBL := tb_22 _ (List.mem_of_getElem? (i := 7) rfl)
theorem w_668 : Cond.fieldLink "LoanHouseModel$Program" 19 "LoanHouseModel$Program" "places" "Ljava/util/ArrayList;" ∈ TBL := tb_22 _ (List.mem_of_getElem? (i := 8) rfl)
theorem w_669 : Cond.fieldLink "LoanHouseModel$Program" 22 "LoanHouseModel$Program" "loans" "Ljava/util/ArrayList;" ∈ TBL := tb_22 _ (List.mem_of_getElem? (i := 9) rfl)
theorem w_670 : Cond.code yJ5_init_d00df cJ5_init_d00df 2 none ∈ TBL := tb_22 _ (List.mem_of_getElem? (i := 10) rfl)
theorem w_671 : Cond.initialized "java/lang/AbstractStringBuilder" ∈ TBL := tb_22 _ (List.mem_of_getElem? (i := 11) rfl)
theorem w_672 : Cond.instanceMethod yJ5_init_d00df ∈ TBL := tb_22 _ (List.mem_of_getElem? (i := 12) rfl)
theorem w_673 : Cond.methodLink "java/lang/AbstractStringBuilder" 3 objectInit ∈ TBL := tb_22 _ (List.mem_of_getElem? (i := 13) rfl)
theorem w_674 : Cond.fieldLink "java/lang/AbstractStringBuilder" 18 "java/lang/String" "COMPACT_STRINGS" "Z" ∈ TBL := tb_22 _ (List.mem_of_getElem? (i := 14) rfl)
theorem w_675 : Cond.fieldLink "java/lang/AbstractStringBuilder" 15 "java/lang/AbstractStringBuilder" "value" "[B" ∈ TBL := tb_22 _ (List.mem_of_getElem? (i := 15) rfl)
theorem w_676 : Cond.fieldLink "java/lang/AbstractStringBuilder" 22 "java/lang/AbstractStringBuilder" "coder" "B" ∈ TBL := tb_22 _ (List.mem_of_getElem? (i := 16) rfl)
theorem w_677 : Cond.code yJ5_length_8abf5 cJ5_length_8abf5 1 (some .int) ∈ TBL := tb_22 _ (List.mem_of_getElem? (i := 17) rfl)
theorem w_678 : Cond.instanceMethod yJ5_length_8abf5 ∈ TBL := tb_22 _ (List.mem_of_getElem? (i := 18) rfl)
theorem w_679 : Cond.fieldLink "java/lang/AbstractStringBuilder" 79 "java/lang/AbstractStringBuilder" "count" "I" ∈ TBL := tb_22 _ (List.mem_of_getElem? (i := 19) rfl)
theorem w_680 : Cond.code yJ5_ensureCapacityInternal_d00df cJ5_ensureCapacityInternal_d00df 3 none ∈ TBL := tb_22 _ (List.mem_of_getElem? (i := 20) rfl)
theorem w_681 : Cond.instanceMethod yJ5_ensureCapacityInternal_d00df ∈ TBL := tb_22 _ (List.mem_of_getElem? (i := 21) rfl)
theorem w_682 : Cond.code yJ5_setLength_d00df cJ5_setLength_d00df 2 none ∈ TBL := tb_22 _ (List.mem_of_getElem? (i := 22) rfl)
theorem w_683 : Cond.instanceMethod yJ5_setLength_d00df ∈ TBL := tb_22 _ (List.mem_of_getElem? (i := 23) rfl)
theorem w_684 : Cond.methodLink "java/lang/AbstractStringBuilder" 100 yJ5_ensureCapacityInternal_d00df ∈ TBL := tb_22 _ (List.mem_of_getElem? (i := 24) rfl)
theorem w_685 : Cond.methodLink "java/lang/AbstractStringBuilder" 83 yJ5_isLatin1_aae02 ∈ TBL := tb_22 _ (List.mem_of_getElem? (i := 25) rfl)
theorem w_686 : Cond.fieldLink "java/lang/AbstractStringBuilder" 73 "java/lang/AbstractStringBuilder" "maybeLatin1" "Z" ∈ TBL := tb_22 _ (List.mem_of_getElem? (i := 26) rfl)
theorem w_687 : Cond.code yJ5_getValue_6d5f1 cJ5_getValue_6d5f1 1 (some (.array .byte)) ∈ TBL := tb_22 _ (List.mem_of_getElem? (i := 27) rfl)
theorem w_688 : Cond.instanceMethod yJ5_getValue_6d5f1 ∈ TBL := tb_22 _ (List.mem_of_getElem? (i := 28) rfl)
theorem w_689 : Cond.code yJ5_isLatin1_aae02 cJ5_isLatin1_aae02 1 (some .boolean) ∈ TBL := tb_22 _ (List.mem_of_getElem? (i := 29) rfl)
theorem w_690 : Cond.instanceMethod yJ5_isLatin1_aae02 ∈ TBL := tb_23 _ (List.mem_of_getElem? (i := 0) rfl)
theorem w_691 : Cond.code yJ4_init_d00df cJ4_init_d00df 2 none ∈ TBL := tb_23 _ (List.mem_of_getElem? (i := 1) rfl)
theorem w_692 : Cond.instanceMethod yJ4_init_d00df ∈ TBL := tb_23 _ (List.mem_of_getElem? (i := 2) rfl)
theorem w_693 : Cond.methodLink "java/lang/StringBuilder" 1 yJ5_init_d00df ∈ TBL := tb_23 _ (List.mem_of_getElem? (i := 3) rfl)
theorem w_694 : Cond.code yJ4_toString_0e30d cJ4_toString_0e30d 1 (some (.object "java/lang/String")) ∈ TBL := tb_23 _ (List.mem_of_getElem? (i := 4) rfl)
theorem w_695 : Cond.instanceMethod yJ4_toString_0e30d ∈ TBL := tb_23 _ (List.mem_of_getElem? (i := 5) rfl)
theorem w_696 : Cond.selects "java/lang/StringBuilder" yJ4_toString_0e30d yJ4_toString_0e30d ∈ TBL := tb_23 _ (List.mem_of_getElem? (i := 6) rfl)
theorem w_697 : Cond.classLink "java/lang/StringBuilder" 18 "java/lang/String" ∈ TBL := tb_23 _ (List.mem_of_getElem? (i := 7) rfl)
theorem w_698 : Cond.methodLink "java/lang/StringBuilder" 137 yJ0_init_81219 ∈ TBL := tb_23 _ (List.mem_of_getElem? (i := 8) rfl)
theorem w_699 : Cond.code yJ4_setLength_d00df cJ4_setLength_d00df 2 none ∈ TBL := tb_23 _ (List.mem_of_getElem? (i := 9) rfl)
theorem w_700 : Cond.instanceMethod yJ4_setLength_d00df ∈ TBL := tb_23 _ (List.mem_of_getElem? (i := 10) rfl)
theorem w_701 : Cond.selects "java/lang/StringBuilder" yJ4_setLength_d00df yJ4_setLength_d00df ∈ TBL := tb_23 _ (List.mem_of_getElem? (i := 11) rfl)
theorem w_702 : Cond.methodLink "java/lang/StringBuilder" 333 yJ5_setLength_d00df ∈ TBL := tb_23 _ (List.mem_of_getElem? (i := 12) rfl)
theorem w_703 : Cond.code yJ4_length_8abf5 cJ4_length_8abf5 1 (some .int) ∈ TBL := tb_23 _ (List.mem_of_getElem? (i := 13) rfl)
theorem w_704 : Cond.instanceMethod yJ4_length_8abf5 ∈ TBL := tb_23 _ (List.mem_of_getElem? (i := 14) rfl)
theorem w_705 : Cond.methodLink "java/lang/StringBuilder" 343 yJ5_length_8abf5 ∈ TBL := tb_23 _ (List.mem_of_getElem? (i := 15) rfl)
theorem w_706 : Cond.code yJ0_init_81219 cJ0_init_81219 2 none ∈ TBL := tb_23 _ (List.mem_of_getElem? (i := 16) rfl)
theorem w_707 : Cond.instanceMethod yJ0_init_81219 ∈ TBL := tb_23 _ (List.mem_of_getElem? (i := 17) rfl)
theorem w_708 : Cond.methodLink "java/lang/String" 489 yJ0_init_db425 ∈ TBL := tb_23 _ (List.mem_of_getElem? (i := 18) rfl)
theorem w_709 : Cond.code yJ0_init_db425 cJ0_init_db425 5 none ∈ TBL := tb_23 _ (List.mem_of_getElem? (i := 19) rfl)
theorem w_710 : Cond.instanceMethod yJ0_init_db425 ∈ TBL := tb_23 _ (List.mem_of_getElem? (i := 20) rfl)
theorem w_711 : Cond.methodLink "java/lang/String" 1 objectInit ∈ TBL := tb_23 _ (List.mem_of_getElem? (i := 21) rfl)
theorem w_712 : Cond.methodLink "java/lang/String" 552 yJ5_getValue_6d5f1 ∈ TBL := tb_23 _ (List.mem_of_getElem? (i := 22) rfl)
theorem w_713 : Cond.methodLink "java/lang/String" 549 yJ5_length_8abf5 ∈ TBL := tb_23 _ (List.mem_of_getElem? (i := 23) rfl)
theorem w_714 : Cond.methodLink "java/lang/String" 1047 yJ5_isLatin1_aae02 ∈ TBL := tb_23 _ (List.mem_of_getElem? (i := 24) rfl)
theorem w_715 : Cond.fieldLink "java/lang/String" 15 "java/lang/String" "coder" "B" ∈ TBL := tb_23 _ (List.mem_of_getElem? (i := 25) rfl)
theorem w_716 : Cond.methodLink "java/lang/String" 54 yJ7_copyOfRange_39247 ∈ TBL := tb_23 _ (List.mem_of_getElem? (i := 26) rfl)
theorem w_717 : Cond.fieldLink "java/lang/String" 9 "java/lang/String" "value" "[B" ∈ TBL := tb_23 _ (List.mem_of_getElem? (i := 27) rfl)
theorem w_718 : Cond.fieldLink "java/lang/String" 38 "java/lang/String" "COMPACT_STRINGS" "Z" ∈ TBL := tb_23 _ (List.mem_of_getElem? (i := 28) rfl)
theorem w_719 : Cond.fieldLink "java/lang/String" 1048 "java/lang/AbstractStringBuilder" "maybeLatin1" "Z" ∈ TBL := tb_23 _ (List.mem_of_getElem? (i := 29) rfl)
theorem w_720 : Cond.code yJ0_length_8abf5 cJ0_length_8abf5 1 (some .int) ∈ TBL := tb_24 _ (List.mem_of_getElem? (i := 0) rfl)
theorem w_721 : Cond.instanceMethod yJ0_length_8abf5 ∈ TBL := tb_24 _ (List.mem_of_getElem? (i := 1) rfl)
theorem w_722 : Cond.selects "java/lang/String" yJ0_length_8abf5 yJ0_length_8abf5 ∈ TBL := tb_24 _ (List.mem_of_getElem? (i := 2) rfl)
theorem w_723 : Cond.methodLink "java/lang/String" 335 yJ0_coder_7d493 ∈ TBL := tb_24 _ (List.mem_of_getElem? (i := 3) rfl)
theorem w_724 : Cond.code yJ0_charAt_5068e cJ0_charAt_5068e 2 (some .char) ∈ TBL := tb_24 _ (List.mem_of_getElem? (i := 4) rfl)
theorem w_725 : Cond.instanceMethod yJ0_charAt_5068e ∈ TBL := tb_24 _ (List.mem_of_getElem? (i := 5) rfl)
theorem w_726 : Cond.selects "java/lang/String" yJ0_charAt_5068e yJ0_charAt_5068e ∈ TBL := tb_24 _ (List.mem_of_getElem? (i := 6) rfl)
theorem w_727 : Cond.methodLink "java/lang/String" 492 yJ0_isLatin1_aae02 ∈ TBL := tb_24 _ (List.mem_of_getElem? (i := 7) rfl)
theorem w_728 : Cond.methodLink "java/lang/String" 495 yJ1_charAt_3b067 ∈ TBL := tb_24 _ (List.mem_of_getElem? (i := 8) rfl)
theorem w_729 : Cond.code yJ0_coder_7d493 cJ0_coder_7d493 1 (some .byte) ∈ TBL := tb_24 _ (List.mem_of_getElem? (i := 9) rfl)
theorem w_730 : Cond.instanceMethod yJ0_coder_7d493 ∈ TBL := tb_24 _ (List.mem_of_getElem? (i := 10) rfl)
theorem w_731 : Cond.selects "java/lang/String" yJ0_coder_7d493 yJ0_coder_7d493 ∈ TBL := tb_24 _ (List.mem_of_getElem? (i := 11) rfl)
theorem w_732 : Cond.code yJ0_isLatin1_aae02 cJ0_isLatin1_aae02 1 (some .boolean) ∈ TBL := tb_24 _ (List.mem_of_getElem? (i := 12) rfl)
theorem w_733 : Cond.instanceMethod yJ0_isLatin1_aae02 ∈ TBL := tb_24 _ (List.mem_of_getElem? (i := 13) rfl)
theorem w_734 : Cond.selects "java/lang/String" yJ0_isLatin1_aae02 yJ0_isLatin1_aae02 ∈ TBL := tb_24 _ (List.mem_of_getElem? (i := 14) rfl)
theorem w_735 : Cond.code yJ0_checkIndex_df160 cJ0_checkIndex_df160 2 none ∈ TBL := tb_24 _ (List.mem_of_getElem? (i := 15) rfl)
theorem w_736 : Cond.static yJ0_checkIndex_df160 ∈ TBL := tb_24 _ (List.mem_of_getElem? (i := 16) rfl)
theorem w_737 : Cond.fieldLink "java/lang/String" 1053 "jdk/internal/util/Preconditions" "SIOOBE_FORMATTER" "Ljava/util/function/BiFunction;" ∈ TBL := tb_24 _ (List.mem_of_getElem? (i := 17) rfl)
theorem w_738 : Cond.methodLink "java/lang/String" 1059 yJ3_checkIndex_8e157 ∈ TBL := tb_24 _ (List.mem_of_getElem? (i := 18) rfl)
theorem w_739 : Cond.code yJ1_charAt_3b067 cJ1_charAt_3b067 2 (some .char) ∈ TBL := tb_24 _ (List.mem_of_getElem? (i := 19) rfl)
theorem w_740 : Cond.initialized "java/lang/StringLatin1" ∈ TBL := tb_24 _ (List.mem_of_getElem? (i := 20) rfl)
theorem w_741 : Cond.static yJ1_charAt_3b067 ∈ TBL := tb_24 _ (List.mem_of_getElem? (i := 21) rfl)
theorem w_742 : Cond.methodLink "java/lang/StringLatin1" 9 yJ0_checkIndex_df160 ∈ TBL := tb_24 _ (List.mem_of_getElem? (i := 22) rfl)
theorem w_743 : Cond.code yJ3_checkIndex_8e157 cJ3_checkIndex_8e157 3 (some .int) ∈ TBL := tb_24 _ (List.mem_of_getElem? (i := 23) rfl)
theorem w_744 : Cond.initialized "jdk/internal/util/Preconditions" ∈ TBL := tb_24 _ (List.mem_of_getElem? (i := 24) rfl)
theorem w_745 : Cond.static yJ3_checkIndex_8e157 ∈ TBL := tb_24 _ (List.mem_of_getElem? (i := 25) rfl)
theorem w_746 : Cond.code yJ7_copyOfRange_39247 cJ7_copyOfRange_39247 3 (some (.array .byte)) ∈ TBL := tb_24 _ (List.mem_of_getElem? (i := 26) rfl)
theorem w_747 : Cond.initialized "java/util/Arrays" ∈ TBL := tb_24 _ (List.mem_of_getElem? (i := 27) rfl)
theorem w_748 : Cond.static yJ7_copyOfRange_39247 ∈ TBL := tb_24 _ (List.mem_of_getElem? (i := 28) rfl)
theorem w_749 : Cond.methodLink "java/util/Arrays" 339 yJ7_copyOfRangeByte_39247 ∈ TBL := tb_24 _ (List.mem_of_getElem? (i := 29) rfl)
theorem w_750 : Cond.classLink "java/util/Arrays" 311 "[B" ∈ TBL := tb_25 _ (List.mem_of_getElem? (i := 0) rfl)
theorem w_751 : Cond.code yJ7_copyOfRangeByte_39247 cJ7_copyOfRangeByte_39247 5 (some (.array .byte)) ∈ TBL := tb_25 _ (List.mem_of_getElem? (i := 1) rfl)
theorem w_752 : Cond.static yJ7_copyOfRangeByte_39247 ∈ TBL := tb_25 _ (List.mem_of_getElem? (i := 2) rfl)
theorem w_753 : Cond.methodLink "java/util/Arrays" 343 yJ7_checkLength_df160 ∈ TBL := tb_25 _ (List.mem_of_getElem? (i := 3) rfl)
theorem w_754 : Cond.methodLink "java/util/Arrays" 304 Lib.Math.min.name ∈ TBL := tb_25 _ (List.mem_of_getElem? (i := 4) rfl)
theorem w_755 : Cond.methodLink "java/util/Arrays" 150 arraycopyName ∈ TBL := tb_25 _ (List.mem_of_getElem? (i := 5) rfl)
theorem w_756 : Cond.code yJ7_checkLength_df160 cJ7_checkLength_df160 2 none ∈ TBL := tb_25 _ (List.mem_of_getElem? (i := 6) rfl)
theorem w_757 : Cond.static yJ7_checkLength_df160 ∈ TBL := tb_25 _ (List.mem_of_getElem? (i := 7) rfl)
theorem w_758 : Cond.code yJxa1e45_init_da8c8 cJxa1e45_init_da8c8 1 none ∈ TBL := tb_25 _ (List.mem_of_getElem? (i := 8) rfl)
theorem w_759 : Cond.initialized "java/util/AbstractCollection" ∈ TBL := tb_25 _ (List.mem_of_getElem? (i := 9) rfl)
theorem w_760 : Cond.instanceMethod yJxa1e45_init_da8c8 ∈ TBL := tb_25 _ (List.mem_of_getElem? (i := 10) rfl)
theorem w_761 : Cond.methodLink "java/util/AbstractCollection" 1 objectInit ∈ TBL := tb_25 _ (List.mem_of_getElem? (i := 11) rfl)
theorem w_762 : Cond.code yJxc12de_init_da8c8 cJxc12de_init_da8c8 1 none ∈ TBL := tb_25 _ (List.mem_of_getElem? (i := 12) rfl)
theorem w_763 : Cond.initialized "java/util/AbstractList" ∈ TBL := tb_25 _ (List.mem_of_getElem? (i := 13) rfl)
theorem w_764 : Cond.instanceMethod yJxc12de_init_da8c8 ∈ TBL := tb_25 _ (List.mem_of_getElem? (i := 14) rfl)
theorem w_765 : Cond.methodLink "java/util/AbstractList" 1 yJxa1e45_init_da8c8 ∈ TBL := tb_25 _ (List.mem_of_getElem? (i := 15) rfl)
theorem w_766 : Cond.fieldLink "java/util/AbstractList" 7 "java/util/AbstractList" "modCount" "I" ∈ TBL := tb_25 _ (List.mem_of_getElem? (i := 16) rfl)
theorem w_767 : Cond.code yJx4a65c_init_da8c8 cJx4a65c_init_da8c8 1 none ∈ TBL := tb_25 _ (List.mem_of_getElem? (i := 17) rfl)
theorem w_768 : Cond.instanceMethod yJx4a65c_init_da8c8 ∈ TBL := tb_25 _ (List.mem_of_getElem? (i := 18) rfl)
theorem w_769 : Cond.methodLink "java/util/ArrayList" 1 yJxc12de_init_da8c8 ∈ TBL := tb_25 _ (List.mem_of_getElem? (i := 19) rfl)
theorem w_770 : Cond.fieldLink "java/util/ArrayList" 39 "java/util/ArrayList" "DEFAULTCAPACITY_EMPTY_ELEMENTDATA" "[Ljava/lang/Object;" ∈ TBL := tb_25 _ (List.mem_of_getElem? (i := 20) rfl)
theorem w_771 : Cond.fieldLink "java/util/ArrayList" 9 "java/util/ArrayList" "elementData" "[Ljava/lang/Object;" ∈ TBL := tb_25 _ (List.mem_of_getElem? (i := 21) rfl)
theorem w_772 : Cond.code yJx4a65c_size_8abf5 cJx4a65c_size_8abf5 1 (some .int) ∈ TBL := tb_25 _ (List.mem_of_getElem? (i := 22) rfl)
theorem w_773 : Cond.instanceMethod yJx4a65c_size_8abf5 ∈ TBL := tb_25 _ (List.mem_of_getElem? (i := 23) rfl)
theorem w_774 : Cond.selects "java/util/ArrayList" yJx4a65c_size_8abf5 yJx4a65c_size_8abf5 ∈ TBL := tb_25 _ (List.mem_of_getElem? (i := 24) rfl)
theorem w_775 : Cond.fieldLink "java/util/ArrayList" 48 "java/util/ArrayList" "size" "I" ∈ TBL := tb_25 _ (List.mem_of_getElem? (i := 25) rfl)
theorem w_776 : Cond.classLink "LoanHouseLaw" 7 "LoanHouse" ∈ TBL := tb_25 _ (List.mem_of_getElem? (i := 26) rfl)
theorem w_777 : Cond.instantiable "LoanHouse" 17 ∈ TBL := tb_25 _ (List.mem_of_getElem? (i := 27) rfl)
theorem w_778 : Cond.methodLink "LoanHouseLaw" 9 yX12_init ∈ TBL := tb_25 _ (List.mem_of_getElem? (i := 28) rfl)
theorem w_779 : Cond.classLink "LoanHouseLaw" 10 "LoanHouseModel" ∈ TBL := tb_25 _ (List.mem_of_getElem? (i := 29) rfl)
theorem w_780 : Cond.instantiable "LoanHouseModel" 95 ∈ TBL := tb_26 _ (List.mem_of_getElem? (i := 0) rfl)
theorem w_781 : Cond.methodLink "LoanHouseLaw" 12 yX30_init ∈ TBL := tb_26 _ (List.mem_of_getElem? (i := 1) rfl)
theorem w_782 : Cond.methodLink "LoanHouseLaw" 13 yX12_feed ∈ TBL := tb_26 _ (List.mem_of_getElem? (i := 2) rfl)
theorem w_783 : Cond.methodLink "LoanHouseLaw" 17 yX30_feed ∈ TBL := tb_26 _ (List.mem_of_getElem? (i := 3) rfl)
theorem w_784 : Cond.methodLink "LoanHouseLaw" 18 yX12_judge ∈ TBL := tb_26 _ (List.mem_of_getElem? (i := 4) rfl)
theorem w_785 : Cond.methodLink "LoanHouseLaw" 22 yX30_judge ∈ TBL := tb_26 _ (List.mem_of_getElem? (i := 5) rfl)
theorem w_786 : Cond.methodLink "LoanHouseLaw" 23 yX12_fault ∈ TBL := tb_26 _ (List.mem_of_getElem? (i := 6) rfl)
theorem w_787 : Cond.methodLink "LoanHouseLaw" 26 yX30_fault ∈ TBL := tb_26 _ (List.mem_of_getElem? (i := 7) rfl)
theorem w_788 : Cond.constantLong "LoanHouseLaw" 27 (4294967295) ∈ TBL := tb_26 _ (List.mem_of_getElem? (i := 8) rfl)
theorem w_789 : Cond.methodLink "LoanHouseLaw" 29 yX12_give ∈ TBL := tb_26 _ (List.mem_of_getElem? (i := 9) rfl)
theorem w_790 : Cond.methodLink "LoanHouseLaw" 33 yX30_give_ ∈ TBL := tb_26 _ (List.mem_of_getElem? (i := 10) rfl)
theorem w_791 : Cond.methodLink "LoanHouseLaw" 34 yX12_run ∈ TBL := tb_26 _ (List.mem_of_getElem? (i := 11) rfl)
theorem w_792 : Cond.methodLink "LoanHouseLaw" 37 yX30_run ∈ TBL := tb_26 _ (List.mem_of_getElem? (i := 12) rfl)
theorem w_793 : Cond.methodLink "LoanHouseLaw" 38 yX12_about ∈ TBL := tb_26 _ (List.mem_of_getElem? (i := 13) rfl)
theorem w_794 : Cond.methodLink "LoanHouseLaw" 41 yX30_about ∈ TBL := tb_26 _ (List.mem_of_getElem? (i := 14) rfl)
theorem w_795 : Cond.methodLink "LoanHouseLaw" 42 yX12_out ∈ TBL := tb_26 _ (List.mem_of_getElem? (i := 15) rfl)
theorem w_796 : Cond.methodLink "LoanHouseLaw" 46 yX30_out_ ∈ TBL := tb_26 _ (List.mem_of_getElem? (i := 16) rfl)
theorem w_797 : Cond.methodLink "LoanHouseLaw" 47 yX12_count ∈ TBL := tb_26 _ (List.mem_of_getElem? (i := 17) rfl)
theorem w_798 : Cond.methodLink "LoanHouseLaw" 50 yX30_count ∈ TBL := tb_26 _ (List.mem_of_getElem? (i := 18) rfl)
theorem w_799 : Cond.methodLink "LoanHouseLaw" 51 yX12_place ∈ TBL := tb_26 _ (List.mem_of_getElem? (i := 19) rfl)
theorem w_800 : Cond.methodLink "LoanHouseLaw" 55 yX30_place_ ∈ TBL := tb_26 _ (List.mem_of_getElem? (i := 20) rfl)
theorem w_801 : Cond.methodLink "LoanHouseLaw" 56 yX12_loan ∈ TBL := tb_26 _ (List.mem_of_getElem? (i := 21) rfl)
theorem w_802 : Cond.methodLink "LoanHouseLaw" 59 yX30_loan ∈ TBL := tb_26 _ (List.mem_of_getElem? (i := 22) rfl)
theorem w_803 : Cond.methodLink "LoanHouseLaw" 60 yX12_force ∈ TBL := tb_26 _ (List.mem_of_getElem? (i := 23) rfl)
theorem w_804 : Cond.methodLink "LoanHouseLaw" 63 yX30_force ∈ TBL := tb_26 _ (List.mem_of_getElem? (i := 24) rfl)
theorem w_805 : Cond.methodLink "LoanHouseLaw" 64 yX12_function ∈ TBL := tb_26 _ (List.mem_of_getElem? (i := 25) rfl)
theorem w_806 : Cond.methodLink "LoanHouseLaw" 67 yX30_function ∈ TBL := tb_26 _ (List.mem_of_getElem? (i := 26) rfl)
theorem w_807 : Cond.methodLink "LoanHouseLaw" 68 yX12_size ∈ TBL := tb_26 _ (List.mem_of_getElem? (i := 27) rfl)
theorem w_808 : Cond.methodLink "LoanHouseLaw" 71 yX30_size ∈ TBL := tb_26 _ (List.mem_of_getElem? (i := 28) rfl)
theorem w_809 : Cond.methodLink "LoanHouseLaw" 72 yX12_strays ∈ TBL := tb_26 _ (List.mem_of_getElem? (i := 29) rfl)
theorem w_810 : Cond.methodLink "LoanHouseLaw" 76 yX30_strays ∈ TBL := tb_27 _ (List.mem_of_getElem? (i := 0) rfl)
theorem w_811 : Cond.methodLink "LoanHouseLaw" 77 yX12_twices ∈ TBL := tb_27 _ (List.mem_of_getElem? (i := 1) rfl)
theorem w_812 : Cond.methodLink "LoanHouseLaw" 80 yX30_twices ∈ TBL := tb_27 _ (List.mem_of_getElem? (i := 2) rfl)
theorem w_813 : Cond.methodLink "LoanHouseLaw" 81 yX12_lefts ∈ TBL := tb_27 _ (List.mem_of_getElem? (i := 3) rfl)
theorem w_814 : Cond.methodLink "LoanHouseLaw" 84 yX30_lefts ∈ TBL := tb_27 _ (List.mem_of_getElem? (i := 4) rfl)
theorem w_815 : Cond.methodLink "LoanHouseLaw" 85 yX12_clashes ∈ TBL := tb_27 _ (List.mem_of_getElem? (i := 5) rfl)
theorem w_816 : Cond.methodLink "LoanHouseLaw" 88 yX30_clashes_ ∈ TBL := tb_27 _ (List.mem_of_getElem? (i := 6) rfl)
theorem w_817 : Cond.sameField "java/util/ArrayList" "java/util/AbstractList" "modCount" "I" ∈ TBL := tb_27 _ (List.mem_of_getElem? (i := 7) rfl)
theorem w_818 : Cond.superclass "java/lang/StringBuilder" "java/lang/AbstractStringBuilder" ∈ TBL := tb_27 _ (List.mem_of_getElem? (i := 8) rfl)
theorem w_819 : Cond.sameMethod "java/lang/AbstractStringBuilder" "java/lang/AbstractStringBuilder" "isLatin1" "()Z" ∈ TBL := tb_27 _ (List.mem_of_getElem? (i := 9) rfl)
theorem w_820 : Cond.selects "java/lang/StringBuilder" yJ5_isLatin1_aae02 yJ5_isLatin1_aae02 ∈ TBL := tb_27 _ (List.mem_of_getElem? (i := 10) rfl)
theorem w_821 : Cond.sameMethod "java/lang/AbstractStringBuilder" "java/lang/AbstractStringBuilder" "getValue" "()[B" ∈ TBL := tb_27 _ (List.mem_of_getElem? (i := 11) rfl)
theorem w_822 : Cond.selects "java/lang/StringBuilder" yJ5_getValue_6d5f1 yJ5_getValue_6d5f1 ∈ TBL := tb_27 _ (List.mem_of_getElem? (i := 12) rfl)
theorem w_823 : Cond.sameMethod "java/lang/AbstractStringBuilder" "java/lang/AbstractStringBuilder" "length" "()I" ∈ TBL := tb_27 _ (List.mem_of_getElem? (i := 13) rfl)
theorem w_824 : Cond.selects "java/lang/StringBuilder" yJ5_length_8abf5 yJ4_length_8abf5 ∈ TBL := tb_27 _ (List.mem_of_getElem? (i := 14) rfl)
theorem w_825 : Cond.sameMethod "java/lang/AbstractStringBuilder" "java/lang/AbstractStringBuilder" "setLength" "(I)V" ∈ TBL := tb_27 _ (List.mem_of_getElem? (i := 15) rfl)
theorem w_826 : Cond.sameMethod "java/lang/AbstractStringBuilder" "java/lang/AbstractStringBuilder" "ensureCapacityInternal" "(I)V" ∈ TBL := tb_27 _ (List.mem_of_getElem? (i := 16) rfl)
theorem tbx_ok : TBX.all goodWord = true := by decide +kernel
theorem gw_0 : TB0.all goodWord = true := by decide +kernel
theorem gw_1 : TB1.all goodWord = true := by decide +kernel
theorem gw_2 : TB2.all goodWord = true := by decide +kernel
theorem gw_3 : TB3.all goodWord = true := by decide +kernel
theorem gw_4 : TB4.all goodWord = true := by decide +kernel
theorem gw_5 : TB5.all goodWord = true := by decide +kernel
theorem gw_6 : TB6.all goodWord = true := by decide +kernel
theorem gw_7 : TB7.all goodWord = true := by decide +kernel
theorem gw_8 : TB8.all goodWord = true := by decide +kernel
theorem gw_9 : TB9.all goodWord = true := by decide +kernel
theorem gw_10 : TB10.all goodWord = true := by decide +kernel
theorem gw_11 : TB11.all goodWord = true := by decide +kernel
theorem gw_12 : TB12.all goodWord = true := by decide +kernel
theorem gw_13 : TB13.all goodWord = true := by decide +kernel
theorem gw_14 : TB14.all goodWord = true := by decide +kernel
theorem gw_15 : TB15.all goodWord = true := by decide +kernel
theorem gw_16 : TB16.all goodWord = true := by decide +kernel
theorem gw_17 : TB17.all goodWord = true := by decide +kernel
theorem gw_18 : TB18.all goodWord = true := by decide +kernel
theorem gw_19 : TB19.all goodWord = true := by decide +kernel
theorem gw_20 : TB20.all goodWord = true := by decide +kernel
theorem gw_21 : TB21.all goodWord = true := by decide +kernel
theorem gw_22 : TB22.all goodWord = true := by decide +kernel
theorem gw_23 : TB23.all goodWord = true := by decide +kernel
theorem gw_24 : TB24.all goodWord = true := by decide +kernel
theorem gw_25 : TB25.all goodWord = true := by decide +kernel
theorem gw_26 : TB26.all goodWord = true := by decide +kernel
theorem gw_27 : TB27.all goodWord = true := by decide +kernel
theorem gw_X12 : (u_ws "LoanHouse" TX12 17).all goodWord = true := by decide +kernel
theorem gw_X8 : (u_ws "LoanHouse$Tree" TX8 12).all goodWord = true := by decide +kernel
theorem gw_X6 : (u_ws "LoanHouse$Reader" TX6 18).all goodWord = true := by decide +kernel
theorem gw_X0 : (u_ws "LoanHouse$Checker" TX0 11).all goodWord = true := by decide +kernel
theorem gw_X1 : (u_ws "LoanHouse$Emitter" TX1 10).all goodWord = true := by decide +kernel
theorem gw_X11 : (u_ws "LoanHouse$Ways" TX11 22).all goodWord = true := by decide +kernel
theorem gw_X3 : (u_ws "LoanHouse$Machine" TX3 21).all goodWord = true := by decide +kernel
theorem gw_X7 : (u_ws "LoanHouse$Store" TX7 19).all goodWord = true := by decide +kernel
theorem gw_X5 : (u_ws "LoanHouse$Program" TX5 15).all goodWord = true := by decide +kernel
theorem gw_X9 : (u_ws "LoanHouse$Types" TX9 19).all goodWord = true := by decide +kernel
theorem gw_X2 : (u_ws "LoanHouse$Functions" TX2 19).all goodWord = true := by decide +kernel
theorem gw_X10 : (u_ws "LoanHouse$Variables" TX10 12).all goodWord = true := by decide +kernel
theorem gw_X4 : (u_ws "LoanHouse$Places" TX4 20).all goodWord = true := by decide +kernel
theorem gw_X30 : (u_ws "LoanHouseModel" TX30 95).all goodWord = true := by decide +kernel
theorem gw_X26 : (u_ws "LoanHouseModel$Type" TX26 3).all goodWord = true := by decide +kernel
theorem gw_X23 : (u_ws "LoanHouseModel$Program" TX23 4).all goodWord = true := by decide +kernel
theorem gw_J4 : (u_ws "java/lang/StringBuilder" TJ4 4).all goodWord = true := by decide +kernel
theorem gw_J0 : (u_ws "java/lang/String" TJ0 4).all goodWord = true := by decide +kernel
theorem gw_Jx4a65c : (u_ws "java/util/ArrayList" TJx4a65c 3).all goodWord = true := by decide +kernel
theorem tbl_ok : ∀ w ∈ TBL, ((w.onTables && w.keeps) = true ∨ ∃ ty, w = .arrayClass ty) := fun w h => good_of_word ((show w ∈ TBL → goodWord w = true from fun h => (List.mem_append.mp h).elim (fun h => List.all_eq_true.mp tbx_ok w h) (fun h => (List.mem_append.mp h).elim (fun h => List.all_eq_true.mp gw_0 w h) (fun h => (List.mem_append.mp h).elim (fun h => List.all_eq_true.mp gw_1 w h) (fun h => (List.mem_append.mp h).elim (fun h => List.all_eq_true.mp gw_2 w h) (fun h => (List.mem_append.mp h).elim (fun h => List.all_eq_true.mp gw_3 w h) (fun h => (List.mem_append.mp h).elim (fun h => List.all_eq_true.mp gw_4 w h) (fun h => (List.mem_append.mp h).elim (fun h => List.all_eq_true.mp gw_5 w h) (fun h => (List.mem_append.mp h).elim (fun h => List.all_eq_true.mp gw_6 w h) (fun h => (List.mem_append.mp h).elim (fun h => List.all_eq_true.mp gw_7 w h) (fun h => (List.mem_append.mp h).elim (fun h => List.all_eq_true.mp gw_8 w h) (fun h => (List.mem_append.mp h).elim (fun h => List.all_eq_true.mp gw_9 w h) (fun h => (List.mem_append.mp h).elim (fun h => List.all_eq_true.mp gw_10 w h) (fun h => (List.mem_append.mp h).elim (fun h => List.all_eq_true.mp gw_11 w h) (fun h => (List.mem_append.mp h).elim (fun h => List.all_eq_true.mp gw_12 w h) (fun h => (List.mem_append.mp h).elim (fun h => List.all_eq_true.mp gw_13 w h) (fun h => (List.mem_append.mp h).elim (fun h => List.all_eq_true.mp gw_14 w h) (fun h => (List.mem_append.mp h).elim (fun h => List.all_eq_true.mp gw_15 w h) (fun h => (List.mem_append.mp h).elim (fun h => List.all_eq_true.mp gw_16 w h) (fun h => (List.mem_append.mp h).elim (fun h => List.all_eq_true.mp gw_17 w h) (fun h => (List.mem_append.mp h).elim (fun h => List.all_eq_true.mp gw_18 w h) (fun h => (List.mem_append.mp h).elim (fun h => List.all_eq_true.mp gw_19 w h) (fun h => (List.mem_append.mp h).elim (fun h => List.all_eq_true.mp gw_20 w h) (fun h => (List.mem_append.mp h).elim (fun h => List.all_eq_true.mp gw_21 w h) (fun h => (List.mem_append.mp h).elim (fun h => List.all_eq_true.mp gw_22 w h) (fun h => (List.mem_append.mp h).elim (fun h => List.all_eq_true.mp gw_23 w h) (fun h => (List.mem_append.mp h).elim (fun h => List.all_eq_true.mp gw_24 w h) (fun h => (List.mem_append.mp h).elim (fun h => List.all_eq_true.mp gw_25 w h) (fun h => (List.mem_append.mp h).elim (fun h => List.all_eq_true.mp gw_26 w h) (fun h => (List.mem_append.mp h).elim (fun h => List.all_eq_true.mp gw_27 w h) (fun h => (List.mem_append.mp h).elim (fun h => List.all_eq_true.mp gw_X12 w h) (fun h => (List.mem_append.mp h).elim (fun h => List.all_eq_true.mp gw_X8 w h) (fun h => (List.mem_append.mp h).elim (fun h => List.all_eq_true.mp gw_X6 w h) (fun h => (List.mem_append.mp h).elim (fun h => List.all_eq_true.mp gw_X0 w h) (fun h => (List.mem_append.mp h).elim (fun h => List.all_eq_true.mp gw_X1 w h) (fun h => (List.mem_append.mp h).elim (fun h => List.all_eq_true.mp gw_X11 w h) (fun h => (List.mem_append.mp h).elim (fun h => List.all_eq_true.mp gw_X3 w h) (fun h => (List.mem_append.mp h).elim (fun h => List.all_eq_true.mp gw_X7 w h) (fun h => (List.mem_append.mp h).elim (fun h => List.all_eq_true.mp gw_X5 w h) (fun h => (List.mem_append.mp h).elim (fun h => List.all_eq_true.mp gw_X9 w h) (fun h => (List.mem_append.mp h).elim (fun h => List.all_eq_true.mp gw_X2 w h) (fun h => (List.mem_append.mp h).elim (fun h => List.all_eq_true.mp gw_X10 w h) (fun h => (List.mem_append.mp h).elim (fun h => List.all_eq_true.mp gw_X4 w h) (fun h => (List.mem_append.mp h).elim (fun h => List.all_eq_true.mp gw_X30 w h) (fun h => (List.mem_append.mp h).elim (fun h => List.all_eq_true.mp gw_X26 w h) (fun h => (List.mem_append.mp h).elim (fun h => List.all_eq_true.mp gw_X23 w h) (fun h => (List.mem_append.mp h).elim (fun h => List.all_eq_true.mp gw_J4 w h) (fun h => (List.mem_append.mp h).elim (fun h => List.all_eq_true.mp gw_J0 w h) (fun h => List.all_eq_true.mp gw_Jx4a65c w h)))))))))))))))))))))))))))))))))))))))))))))))) h)
def NST : List Cond := [.methodLinkNest "LoanHouse" 19 yX8_init "LoanHouse", .methodLinkNest "LoanHouse" 26 yX6_init "LoanHouse", .methodLinkNest "LoanHouse" 35 yX0_init "LoanHouse", .methodLinkNest "LoanHouse" 42 yX1_init "LoanHouse", .methodLinkNest "LoanHouse" 49 yX11_init "LoanHouse", .methodLinkNest "LoanHouse" 56 yX3_init "LoanHouse", .methodLinkNest "LoanHouse" 63 yX5_init "LoanHouse", .methodLinkNest "LoanHouse" 85 yX6_read "LoanHouse", .methodLinkNest "LoanHouse" 106 yX5_clear "LoanHouse", .methodLinkNest "LoanHouse" 109 yX0_check "LoanHouse", .methodLinkNest "LoanHouse" 113 ⟨"LoanHouse$Emitter", "emitAll", "(LLoanHouse$Program;)V"⟩ "LoanHouse", .methodLinkNest "LoanHouse" 117 ⟨"LoanHouse$Ways", "follow", "(LLoanHouse$Program;)V"⟩ "LoanHouse", .methodLinkNest "LoanHouse" 120 ⟨"LoanHouse$Ways", "strayPlace", "()I"⟩ "LoanHouse", .methodLinkNest "LoanHouse" 124 ⟨"LoanHouse$Ways", "strayOther", "()I"⟩ "LoanHouse", .methodLinkNest "LoanHouse" 127 ⟨"LoanHouse$Ways", "clashPlace", "()I"⟩ "LoanHouse", .methodLinkNest "LoanHouse" 130 ⟨"LoanHouse$Ways", "clashOther", "()I"⟩ "LoanHouse", .methodLinkNest "LoanHouse" 137 ⟨"LoanHouse$Machine", "start", "(LLoanHouse$Program;[JII)I"⟩ "LoanHouse", .methodLinkNest "LoanHouse" 141 ⟨"LoanHouse$Machine", "tell", "(I)I"⟩ "LoanHouse", .fieldLinkNest "LoanHouse" 144 "LoanHouse$Machine" "store" "LLoanHouse$Store;" "LoanHouse", .methodLinkNest "LoanHouse" 148 ⟨"LoanHouse$Store", "entry", "(II)J"⟩ "LoanHouse", .fieldLinkNest "LoanHouse" 154 "LoanHouse$Program" "types" "LLoanHouse$Types;" "LoanHouse", .fieldLinkNest "LoanHouse" 158 "LoanHouse$Types" "decls" "I" "LoanHouse", .fieldLinkNest "LoanHouse" 163 "LoanHouse$Program" "functions" "LLoanHouse$Functions;" "LoanHouse", .fieldLinkNest "LoanHouse" 167 "LoanHouse$Functions" "total" "I" "LoanHouse", .fieldLinkNest "LoanHouse" 172 "LoanHouse$Program" "places" "LLoanHouse$Places;" "LoanHouse", .fieldLinkNest "LoanHouse" 176 "LoanHouse$Places" "total" "I" "LoanHouse", .fieldLinkNest "LoanHouse" 179 "LoanHouse$Places" "loans" "I" "LoanHouse", .methodLinkNest "LoanHouse" 182 ⟨"LoanHouse$Places", "tell", "(II)I"⟩ "LoanHouse", .methodLinkNest "LoanHouse" 185 ⟨"LoanHouse$Program", "tellLoan", "(II)I"⟩ "LoanHouse", .methodLinkNest "LoanHouse" 188 ⟨"LoanHouse$Program", "inForce", "(II)I"⟩ "LoanHouse", .methodLinkNest "LoanHouse" 191 ⟨"LoanHouse$Functions", "tell", "(II)I"⟩ "LoanHouse", .fieldLinkNest "LoanHouse" 192 "LoanHouse$Types" "declCells" "[I" "LoanHouse", .fieldLinkNest "LoanHouse" 196 "LoanHouse$Store" "strays" "I" "LoanHouse", .fieldLinkNest "LoanHouse" 199 "LoanHouse$Store" "twices" "I" "LoanHouse", .methodLinkNest "LoanHouse" 202 ⟨"LoanHouse$Machine", "left", "()I"⟩ "LoanHouse", .methodLinkNest "LoanHouse$Reader" 79 yX8_clear "LoanHouse", .methodLinkNest "LoanHouse$Reader" 90 yX8_add "LoanHouse", .fieldLinkNest "LoanHouse$Reader" 112 "LoanHouse$Tree" "from" "[I" "LoanHouse", .methodLinkNest "LoanHouse$Reader" 115 ⟨"LoanHouse$Tree", "append", "(III)I"⟩ "LoanHouse", .fieldLinkNest "LoanHouse$Checker" 15 "LoanHouse$Program" "types" "LLoanHouse$Types;" "LoanHouse", .fieldLinkNest "LoanHouse$Checker" 22 "LoanHouse$Program" "functions" "LLoanHouse$Functions;" "LoanHouse", .fieldLinkNest "LoanHouse$Checker" 27 "LoanHouse$Program" "variables" "LLoanHouse$Variables;" "LoanHouse", .fieldLinkNest "LoanHouse$Checker" 32 "LoanHouse$Program" "places" "LLoanHouse$Places;" "LoanHouse", .fieldLinkNest "LoanHouse$Checker" 42 "LoanHouse$Tree" "a" "[I" "LoanHouse", .fieldLinkNest "LoanHouse$Checker" 52 "LoanHouse$Tree" "kind" "[I" "LoanHouse", .fieldLinkNest "LoanHouse$Checker" 59 "LoanHouse$Tree" "next" "[I" "LoanHouse", .methodLinkNest "LoanHouse$Checker" 62 yX9_measure "LoanHouse", .fieldLinkNest "LoanHouse$Checker" 70 "LoanHouse$Functions" "total" "I" "LoanHouse", .fieldLinkNest "LoanHouse$Checker" 90 "LoanHouse$Tree" "name" "[I" "LoanHouse", .fieldLinkNest "LoanHouse$Checker" 93 "LoanHouse$Tree" "from" "[I" "LoanHouse", .methodLinkNest "LoanHouse$Checker" 100 ⟨"LoanHouse$Functions", "find", "(I)I"⟩ "LoanHouse", .fieldLinkNest "LoanHouse$Checker" 104 "LoanHouse$Tree" "pos" "[I" "LoanHouse", .methodLinkNest "LoanHouse$Checker" 111 ⟨"LoanHouse$Functions", "add", "(II)V"⟩ "LoanHouse", .fieldLinkNest "LoanHouse$Checker" 114 "LoanHouse$Types" "decls" "I" "LoanHouse", .methodLinkNest "LoanHouse$Checker" 117 ⟨"LoanHouse$Types", "findDecl", "(I)I"⟩ "LoanHouse", .fieldLinkNest "LoanHouse$Checker" 120 "LoanHouse$Tree" "ref" "[I" "LoanHouse", .methodLinkNest "LoanHouse$Checker" 123 ⟨"LoanHouse$Types", "addDecl", "(II)V"⟩ "LoanHouse", .fieldLinkNest "LoanHouse$Checker" 174 "LoanHouse$Types" "declCells" "[I" "LoanHouse", .fieldLinkNest "LoanHouse$Checker" 177 "LoanHouse$Types" "declParts" "[I" "LoanHouse", .fieldLinkNest "LoanHouse$Checker" 180 "LoanHouse$Functions" "node" "[I" "LoanHouse", .fieldLinkNest "LoanHouse$Checker" 201 "LoanHouse$Tree" "b" "[I" "LoanHouse", .fieldLinkNest "LoanHouse$Checker" 224 "LoanHouse$Functions" "main" "I" "LoanHouse", .methodLinkNest "LoanHouse$Machine" 11 yX7_init "LoanHouse", .methodLinkNest "LoanHouse$Program" 11 yX9_init "LoanHouse", .methodLinkNest "LoanHouse$Program" 20 yX2_init "LoanHouse", .methodLinkNest "LoanHouse$Program" 27 yX10_init "LoanHouse", .methodLinkNest "LoanHouse$Program" 34 yX4_init "LoanHouse", .methodLinkNest "LoanHouse$Program" 61 yX9_clear "LoanHouse", .methodLinkNest "LoanHouse$Program" 64 yX2_clear "LoanHouse", .methodLinkNest "LoanHouse$Program" 65 yX10_clear "LoanHouse", .methodLinkNest "LoanHouse$Program" 66 yX4_clear "LoanHouse", .methodLinkNest "LoanHouseModel" 1237 yX23_init "LoanHouseModel"]
theorem nw_0 : Cond.methodLinkNest "LoanHouse" 19 yX8_init "LoanHouse" ∈ NST := List.mem_of_getElem? (i := 0) rfl
theorem nw_1 : Cond.methodLinkNest "LoanHouse" 26 yX6_init "LoanHouse" ∈ NST := List.mem_of_getElem? (i := 1) rfl
theorem nw_2 : Cond.methodLinkNest "LoanHouse" 35 yX0_init "LoanHouse" ∈ NST := List.mem_of_getElem? (i := 2) rfl
theorem nw_3 : Cond.methodLinkNest "LoanHouse" 42 yX1_init "LoanHouse" ∈ NST := List.mem_of_getElem? (i := 3) rfl
theorem nw_4 : Cond.methodLinkNest "LoanHouse" 49 yX11_init "LoanHouse" ∈ NST := List.mem_of_getElem? (i := 4) rfl
theorem nw_5 : Cond.methodLinkNest "LoanHouse" 56 yX3_init "LoanHouse" ∈ NST := List.mem_of_getElem? (i := 5) rfl
theorem nw_6 : Cond.methodLinkNest "LoanHouse" 63 yX5_init "LoanHouse" ∈ NST := List.mem_of_getElem? (i := 6) rfl
theorem nw_7 : Cond.methodLinkNest "LoanHouse" 85 yX6_read "LoanHouse" ∈ NST := List.mem_of_getElem? (i := 7) rfl
theorem nw_8 : Cond.methodLinkNest "LoanHouse" 106 yX5_clear "LoanHouse" ∈ NST := List.mem_of_getElem? (i := 8) rfl
theorem nw_9 : Cond.methodLinkNest "LoanHouse" 109 yX0_check "LoanHouse" ∈ NST := List.mem_of_getElem? (i := 9) rfl
theorem nw_10 : Cond.methodLinkNest "LoanHouse" 113 ⟨"LoanHouse$Emitter", "emitAll", "(LLoanHouse$Program;)V"⟩ "LoanHouse" ∈ NST := List.mem_of_getElem? (i := 10) rfl
theorem nw_11 : Cond.methodLinkNest "LoanHouse" 117 ⟨"LoanHouse$Ways", "follow", "(LLoanHouse$Program;)V"⟩ "LoanHouse" ∈ NST := List.mem_of_getElem? (i := 11) rfl
theorem nw_12 : Cond.methodLinkNest "LoanHouse" 120 ⟨"LoanHouse$Ways", "strayPlace", "()I"⟩ "LoanHouse" ∈ NST := List.mem_of_getElem? (i := 12) rfl
theorem nw_13 : Cond.methodLinkNest "LoanHouse" 124 ⟨"LoanHouse$Ways", "strayOther", "()I"⟩ "LoanHouse" ∈ NST := List.mem_of_getElem? (i := 13) rfl
theorem nw_14 : Cond.methodLinkNest "LoanHouse" 127 ⟨"LoanHouse$Ways", "clashPlace", "()I"⟩ "LoanHouse" ∈ NST := List.mem_of_getElem? (i := 14) rfl
theorem nw_15 : Cond.methodLinkNest "LoanHouse" 130 ⟨"LoanHouse$Ways", "clashOther", "()I"⟩ "LoanHouse" ∈ NST := List.mem_of_getElem? (i := 15) rfl
theorem nw_16 : Cond.methodLinkNest "LoanHouse" 137 ⟨"LoanHouse$Machine", "start", "(LLoanHouse$Program;[JII)I"⟩ "LoanHouse" ∈ NST := List.mem_of_getElem? (i := 16) rfl
theorem nw_17 : Cond.methodLinkNest "LoanHouse" 141 ⟨"LoanHouse$Machine", "tell", "(I)I"⟩ "LoanHouse" ∈ NST := List.mem_of_getElem? (i := 17) rfl
theorem nw_18 : Cond.fieldLinkNest "LoanHouse" 144 "LoanHouse$Machine" "store" "LLoanHouse$Store;" "LoanHouse" ∈ NST := List.mem_of_getElem? (i := 18) rfl
theorem nw_19 : Cond.methodLinkNest "LoanHouse" 148 ⟨"LoanHouse$Store", "entry", "(II)J"⟩ "LoanHouse" ∈ NST := List.mem_of_getElem? (i := 19) rfl
theorem nw_20 : Cond.fieldLinkNest "LoanHouse" 154 "LoanHouse$Program" "types" "LLoanHouse$Types;" "LoanHouse" ∈ NST := List.mem_of_getElem? (i := 20) rfl
theorem nw_21 : Cond.fieldLinkNest "LoanHouse" 158 "LoanHouse$Types" "decls" "I" "LoanHouse" ∈ NST := List.mem_of_getElem? (i := 21) rfl
theorem nw_22 : Cond.fieldLinkNest "LoanHouse" 163 "LoanHouse$Program" "functions" "LLoanHouse$Functions;" "LoanHouse" ∈ NST := List.mem_of_getElem? (i := 22) rfl
theorem nw_23 : Cond.fieldLinkNest "LoanHouse" 167 "LoanHouse$Functions" "total" "I" "LoanHouse" ∈ NST := List.mem_of_getElem? (i := 23) rfl
theorem nw_24 : Cond.fieldLinkNest "LoanHouse" 172 "LoanHouse$Program" "places" "LLoanHouse$Places;" "LoanHouse" ∈ NST := List.mem_of_getElem? (i := 24) rfl
theorem nw_25 : Cond.fieldLinkNest "LoanHouse" 176 "LoanHouse$Places" "total" "I" "LoanHouse" ∈ NST := List.mem_of_getElem? (i := 25) rfl
theorem nw_26 : Cond.fieldLinkNest "LoanHouse" 179 "LoanHouse$Places" "loans" "I" "LoanHouse" ∈ NST := List.mem_of_getElem? (i := 26) rfl
theorem nw_27 : Cond.methodLinkNest "LoanHouse" 182 ⟨"LoanHouse$Places", "tell", "(II)I"⟩ "LoanHouse" ∈ NST := List.mem_of_getElem? (i := 27) rfl
theorem nw_28 : Cond.methodLinkNest "LoanHouse" 185 ⟨"LoanHouse$Program", "tellLoan", "(II)I"⟩ "LoanHouse" ∈ NST := List.mem_of_getElem? (i := 28) rfl
theorem nw_29 : Cond.methodLinkNest "LoanHouse" 188 ⟨"LoanHouse$Program", "inForce", "(II)I"⟩ "LoanHouse" ∈ NST := List.mem_of_getElem? (i := 29) rfl
theorem nw_30 : Cond.methodLinkNest "LoanHouse" 191 ⟨"LoanHouse$Functions", "tell", "(II)I"⟩ "LoanHouse" ∈ NST := List.mem_of_getElem? (i := 30) rfl
theorem nw_31 : Cond.fieldLinkNest "LoanHouse" 192 "LoanHouse$Types" "declCells" "[I" "LoanHouse" ∈ NST := List.mem_of_getElem? (i := 31) rfl
theorem nw_32 : Cond.fieldLinkNest "LoanHouse" 196 "LoanHouse$Store" "strays" "I" "LoanHouse" ∈ NST := List.mem_of_getElem? (i := 32) rfl
theorem nw_33 : Cond.fieldLinkNest "LoanHouse" 199 "LoanHouse$Store" "twices" "I" "LoanHouse" ∈ NST := List.mem_of_getElem? (i := 33) rfl
theorem nw_34 : Cond.methodLinkNest "LoanHouse" 202 ⟨"LoanHouse$Machine", "left", "()I"⟩ "LoanHouse" ∈ NST := List.mem_of_getElem? (i := 34) rfl
theorem nw_35 : Cond.methodLinkNest "LoanHouse$Reader" 79 yX8_clear "LoanHouse" ∈ NST := List.mem_of_getElem? (i := 35) rfl
theorem nw_36 : Cond.methodLinkNest "LoanHouse$Reader" 90 yX8_add "LoanHouse" ∈ NST := List.mem_of_getElem? (i := 36) rfl
theorem nw_37 : Cond.fieldLinkNest "LoanHouse$Reader" 112 "LoanHouse$Tree" "from" "[I" "LoanHouse" ∈ NST := List.mem_of_getElem? (i := 37) rfl
theorem nw_38 : Cond.methodLinkNest "LoanHouse$Reader" 115 ⟨"LoanHouse$Tree", "append", "(III)I"⟩ "LoanHouse" ∈ NST := List.mem_of_getElem? (i := 38) rfl
theorem nw_39 : Cond.fieldLinkNest "LoanHouse$Checker" 15 "LoanHouse$Program" "types" "LLoanHouse$Types;" "LoanHouse" ∈ NST := List.mem_of_getElem? (i := 39) rfl
theorem nw_40 : Cond.fieldLinkNest "LoanHouse$Checker" 22 "LoanHouse$Program" "functions" "LLoanHouse$Functions;" "LoanHouse" ∈ NST := List.mem_of_getElem? (i := 40) rfl
theorem nw_41 : Cond.fieldLinkNest "LoanHouse$Checker" 27 "LoanHouse$Program" "variables" "LLoanHouse$Variables;" "LoanHouse" ∈ NST := List.mem_of_getElem? (i := 41) rfl
theorem nw_42 : Cond.fieldLinkNest "LoanHouse$Checker" 32 "LoanHouse$Program" "places" "LLoanHouse$Places;" "LoanHouse" ∈ NST := List.mem_of_getElem? (i := 42) rfl
theorem nw_43 : Cond.fieldLinkNest "LoanHouse$Checker" 42 "LoanHouse$Tree" "a" "[I" "LoanHouse" ∈ NST := List.mem_of_getElem? (i := 43) rfl
theorem nw_44 : Cond.fieldLinkNest "LoanHouse$Checker" 52 "LoanHouse$Tree" "kind" "[I" "LoanHouse" ∈ NST := List.mem_of_getElem? (i := 44) rfl
theorem nw_45 : Cond.fieldLinkNest "LoanHouse$Checker" 59 "LoanHouse$Tree" "next" "[I" "LoanHouse" ∈ NST := List.mem_of_getElem? (i := 45) rfl
theorem nw_46 : Cond.methodLinkNest "LoanHouse$Checker" 62 yX9_measure "LoanHouse" ∈ NST := List.mem_of_getElem? (i := 46) rfl
theorem nw_47 : Cond.fieldLinkNest "LoanHouse$Checker" 70 "LoanHouse$Functions" "total" "I" "LoanHouse" ∈ NST := List.mem_of_getElem? (i := 47) rfl
theorem nw_48 : Cond.fieldLinkNest "LoanHouse$Checker" 90 "LoanHouse$Tree" "name" "[I" "LoanHouse" ∈ NST := List.mem_of_getElem? (i := 48) rfl
theorem nw_49 : Cond.fieldLinkNest "LoanHouse$Checker" 93 "LoanHouse$Tree" "from" "[I" "LoanHouse" ∈ NST := List.mem_of_getElem? (i := 49) rfl
theorem nw_50 : Cond.methodLinkNest "LoanHouse$Checker" 100 ⟨"LoanHouse$Functions", "find", "(I)I"⟩ "LoanHouse" ∈ NST := List.mem_of_getElem? (i := 50) rfl
theorem nw_51 : Cond.fieldLinkNest "LoanHouse$Checker" 104 "LoanHouse$Tree" "pos" "[I" "LoanHouse" ∈ NST := List.mem_of_getElem? (i := 51) rfl
theorem nw_52 : Cond.methodLinkNest "LoanHouse$Checker" 111 ⟨"LoanHouse$Functions", "add", "(II)V"⟩ "LoanHouse" ∈ NST := List.mem_of_getElem? (i := 52) rfl
theorem nw_53 : Cond.fieldLinkNest "LoanHouse$Checker" 114 "LoanHouse$Types" "decls" "I" "LoanHouse" ∈ NST := List.mem_of_getElem? (i := 53) rfl
theorem nw_54 : Cond.methodLinkNest "LoanHouse$Checker" 117 ⟨"LoanHouse$Types", "findDecl", "(I)I"⟩ "LoanHouse" ∈ NST := List.mem_of_getElem? (i := 54) rfl
theorem nw_55 : Cond.fieldLinkNest "LoanHouse$Checker" 120 "LoanHouse$Tree" "ref" "[I" "LoanHouse" ∈ NST := List.mem_of_getElem? (i := 55) rfl
theorem nw_56 : Cond.methodLinkNest "LoanHouse$Checker" 123 ⟨"LoanHouse$Types", "addDecl", "(II)V"⟩ "LoanHouse" ∈ NST := List.mem_of_getElem? (i := 56) rfl
theorem nw_57 : Cond.fieldLinkNest "LoanHouse$Checker" 174 "LoanHouse$Types" "declCells" "[I" "LoanHouse" ∈ NST := List.mem_of_getElem? (i := 57) rfl
theorem nw_58 : Cond.fieldLinkNest "LoanHouse$Checker" 177 "LoanHouse$Types" "declParts" "[I" "LoanHouse" ∈ NST := List.mem_of_getElem? (i := 58) rfl
theorem nw_59 : Cond.fieldLinkNest "LoanHouse$Checker" 180 "LoanHouse$Functions" "node" "[I" "LoanHouse" ∈ NST := List.mem_of_getElem? (i := 59) rfl
theorem nw_60 : Cond.fieldLinkNest "LoanHouse$Checker" 201 "LoanHouse$Tree" "b" "[I" "LoanHouse" ∈ NST := List.mem_of_getElem? (i := 60) rfl
theorem nw_61 : Cond.fieldLinkNest "LoanHouse$Checker" 224 "LoanHouse$Functions" "main" "I" "LoanHouse" ∈ NST := List.mem_of_getElem? (i := 61) rfl
theorem nw_62 : Cond.methodLinkNest "LoanHouse$Machine" 11 yX7_init "LoanHouse" ∈ NST := List.mem_of_getElem? (i := 62) rfl
theorem nw_63 : Cond.methodLinkNest "LoanHouse$Program" 11 yX9_init "LoanHouse" ∈ NST := List.mem_of_getElem? (i := 63) rfl
theorem nw_64 : Cond.methodLinkNest "LoanHouse$Program" 20 yX2_init "LoanHouse" ∈ NST := List.mem_of_getElem? (i := 64) rfl
theorem nw_65 : Cond.methodLinkNest "LoanHouse$Program" 27 yX10_init "LoanHouse" ∈ NST := List.mem_of_getElem? (i := 65) rfl
theorem nw_66 : Cond.methodLinkNest "LoanHouse$Program" 34 yX4_init "LoanHouse" ∈ NST := List.mem_of_getElem? (i := 66) rfl
theorem nw_67 : Cond.methodLinkNest "LoanHouse$Program" 61 yX9_clear "LoanHouse" ∈ NST := List.mem_of_getElem? (i := 67) rfl
theorem nw_68 : Cond.methodLinkNest "LoanHouse$Program" 64 yX2_clear "LoanHouse" ∈ NST := List.mem_of_getElem? (i := 68) rfl
theorem nw_69 : Cond.methodLinkNest "LoanHouse$Program" 65 yX10_clear "LoanHouse" ∈ NST := List.mem_of_getElem? (i := 69) rfl
theorem nw_70 : Cond.methodLinkNest "LoanHouse$Program" 66 yX4_clear "LoanHouse" ∈ NST := List.mem_of_getElem? (i := 70) rfl
theorem nw_71 : Cond.methodLinkNest "LoanHouseModel" 1237 yX23_init "LoanHouseModel" ∈ NST := List.mem_of_getElem? (i := 71) rfl
def isNest : Cond → Bool
  | .fieldLinkNest .. => true
  | .methodLinkNest .. => true
  | _ => false
theorem nst_ok : ∀ w ∈ NST, isNest w = true := by decide +kernel
def CL : List vw_C := [("LoanHouse", TX12, 17), ("LoanHouse$Tree", TX8, 12), ("LoanHouse$Reader", TX6, 18), ("LoanHouse$Checker", TX0, 11), ("LoanHouse$Emitter", TX1, 10), ("LoanHouse$Ways", TX11, 22), ("LoanHouse$Machine", TX3, 21), ("LoanHouse$Store", TX7, 19), ("LoanHouse$Program", TX5, 15), ("LoanHouse$Types", TX9, 19), ("LoanHouse$Functions", TX2, 19), ("LoanHouse$Variables", TX10, 12), ("LoanHouse$Places", TX4, 20), ("LoanHouseModel", TX30, 95), ("LoanHouseModel$Type", TX26, 3), ("LoanHouseModel$Program", TX23, 4), ("java/lang/StringBuilder", TJ4, 4), ("java/lang/String", TJ0, 4), ("java/util/ArrayList", TJx4a65c, 3)]
