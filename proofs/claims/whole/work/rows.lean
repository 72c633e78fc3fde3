section
def RX0 : String := "ProofBench$Forms"
def TX0 : u_T := fun k => match k with
  | 0 => ("ProofBench$Forms", "names", "LProofBench$Names;", true)
  | 1 => ("ProofBench$Forms", "codes", "[I", true)
  | 2 => ("ProofBench$Forms", "ends", "[I", true)
  | 3 => ("ProofBench$Forms", "frees", "[I", true)
  | 4 => ("ProofBench$Forms", "length", "I", false)
  | 5 => ("ProofBench$Forms", "heights", "[I", true)
  | 6 => ("ProofBench$Forms", "lefts", "[I", true)
  | 7 => ("ProofBench$Forms", "rights", "[I", true)
  | _ => ("ProofBench$Forms", "needs", "[I", true)
def tyX0 : Nat → FieldType := fun k => match k with
  | 0 => .object "ProofBench$Names"
  | 1 => .array .int
  | 2 => .array .int
  | 3 => .array .int
  | 4 => .int
  | 5 => .array .int
  | 6 => .array .int
  | 7 => .array .int
  | _ => .array .int
abbrev wsX00 : List Cond := u_ws RX0 TX0 9
theorem nmX0 : ∀ a, a < 9 → ∀ b, b < 9 → a ≠ b → (TX0 a).2.1 ≠ (TX0 b).2.1 := by decide +kernel
theorem tyX0_ok : ∀ k, k < 9 → parseFieldDescriptor (TX0 k).2.2.1 = some (tyX0 k) := by decide +kernel
def RX1 : String := "ProofBench$Look"
def TX1 : u_T := fun k => match k with
  | 0 => ("ProofBench$Look", "tape", "LProofBench$Tape;", true)
  | 1 => ("ProofBench$Look", "names", "LProofBench$Names;", true)
  | 2 => ("ProofBench$Look", "model", "LProofBench$Model;", true)
  | 3 => ("ProofBench$Look", "first", "LProofBench$Row;", true)
  | 4 => ("ProofBench$Look", "second", "LProofBench$Row;", true)
  | 5 => ("ProofBench$Look", "values", "[I", true)
  | 6 => ("ProofBench$Look", "row", "[I", true)
  | 7 => ("ProofBench$Look", "rowLength", "I", false)
  | 8 => ("ProofBench$Look", "fresh", "J", false)
  | 9 => ("ProofBench$Look", "into", "LProofBench$Row;", false)
  | 10 => ("ProofBench$Look", "at", "I", false)
  | _ => ("ProofBench$Look", "things", "I", false)
def tyX1 : Nat → FieldType := fun k => match k with
  | 0 => .object "ProofBench$Tape"
  | 1 => .object "ProofBench$Names"
  | 2 => .object "ProofBench$Model"
  | 3 => .object "ProofBench$Row"
  | 4 => .object "ProofBench$Row"
  | 5 => .array .int
  | 6 => .array .int
  | 7 => .int
  | 8 => .long
  | 9 => .object "ProofBench$Row"
  | 10 => .int
  | _ => .int
abbrev wsX10 : List Cond := u_ws RX1 TX1 12
theorem nmX1 : ∀ a, a < 12 → ∀ b, b < 12 → a ≠ b → (TX1 a).2.1 ≠ (TX1 b).2.1 := by decide +kernel
theorem tyX1_ok : ∀ k, k < 12 → parseFieldDescriptor (TX1 k).2.2.1 = some (tyX1 k) := by decide +kernel
def RX2 : String := "ProofBench$Model"
def TX2 : u_T := fun k => match k with
  | 0 => ("ProofBench$Model", "names", "LProofBench$Names;", true)
  | 1 => ("ProofBench$Model", "forms", "LProofBench$Forms;", true)
  | 2 => ("ProofBench$Model", "sizes", "[I", true)
  | 3 => ("ProofBench$Model", "tables", "[I", true)
  | 4 => ("ProofBench$Model", "things", "[I", true)
  | _ => ("ProofBench$Model", "zero", "I", false)
def tyX2 : Nat → FieldType := fun k => match k with
  | 0 => .object "ProofBench$Names"
  | 1 => .object "ProofBench$Forms"
  | 2 => .array .int
  | 3 => .array .int
  | 4 => .array .int
  | _ => .int
abbrev wsX20 : List Cond := u_ws RX2 TX2 6
theorem nmX2 : ∀ a, a < 6 → ∀ b, b < 6 → a ≠ b → (TX2 a).2.1 ≠ (TX2 b).2.1 := by decide +kernel
theorem tyX2_ok : ∀ k, k < 6 → parseFieldDescriptor (TX2 k).2.2.1 = some (tyX2 k) := by decide +kernel
def RX3 : String := "ProofBench$Names"
def TX3 : u_T := fun k => match k with
  | 0 => ("ProofBench$Names", "counts", "[I", true)
  | 1 => ("ProofBench$Names", "keys", "[J", true)
  | 2 => ("ProofBench$Names", "sorts", "[I", true)
  | 3 => ("ProofBench$Names", "arities", "[I", true)
  | _ => ("ProofBench$Names", "parts", "[I", true)
def tyX3 : Nat → FieldType := fun k => match k with
  | 0 => .array .int
  | 1 => .array .long
  | 2 => .array .int
  | 3 => .array .int
  | _ => .array .int
abbrev wsX30 : List Cond := u_ws RX3 TX3 5
theorem nmX3 : ∀ a, a < 5 → ∀ b, b < 5 → a ≠ b → (TX3 a).2.1 ≠ (TX3 b).2.1 := by decide +kernel
theorem tyX3_ok : ∀ k, k < 5 → parseFieldDescriptor (TX3 k).2.2.1 = some (tyX3 k) := by decide +kernel
def RX4 : String := "ProofBench$Out"
def TX4 : u_T := fun k => match k with
  | 0 => ("ProofBench$Out", "names", "LProofBench$Names;", true)
  | 1 => ("ProofBench$Out", "numbers", "[I", true)
  | 2 => ("ProofBench$Out", "lefts", "[I", true)
  | 3 => ("ProofBench$Out", "turned", "[I", true)
  | _ => ("ProofBench$Out", "count", "I", false)
def tyX4 : Nat → FieldType := fun k => match k with
  | 0 => .object "ProofBench$Names"
  | 1 => .array .int
  | 2 => .array .int
  | 3 => .array .int
  | _ => .int
abbrev wsX40 : List Cond := u_ws RX4 TX4 5
theorem nmX4 : ∀ a, a < 5 → ∀ b, b < 5 → a ≠ b → (TX4 a).2.1 ≠ (TX4 b).2.1 := by decide +kernel
theorem tyX4_ok : ∀ k, k < 5 → parseFieldDescriptor (TX4 k).2.2.1 = some (tyX4 k) := by decide +kernel
def RX5 : String := "ProofBench$Proof"
def TX5 : u_T := fun k => match k with
  | 0 => ("ProofBench$Proof", "names", "LProofBench$Names;", true)
  | 1 => ("ProofBench$Proof", "forms", "LProofBench$Forms;", true)
  | 2 => ("ProofBench$Proof", "look", "LProofBench$Look;", true)
  | 3 => ("ProofBench$Proof", "search", "LProofBench$Search;", true)
  | 4 => ("ProofBench$Proof", "steps", "[LProofBench$Step;", true)
  | 5 => ("ProofBench$Proof", "facts", "[LProofBench$Step;", true)
  | 6 => ("ProofBench$Proof", "named", "[LProofBench$Step;", true)
  | 7 => ("ProofBench$Proof", "nothing", "LProofBench$Step;", true)
  | 8 => ("ProofBench$Proof", "made", "LProofBench$Row;", true)
  | 9 => ("ProofBench$Proof", "other", "LProofBench$Row;", true)
  | 10 => ("ProofBench$Proof", "count", "I", false)
  | 11 => ("ProofBench$Proof", "called", "I", false)
  | 12 => ("ProofBench$Proof", "kept", "[LProofBench$Thing;", true)
  | 13 => ("ProofBench$Proof", "keptCount", "I", false)
  | 14 => ("ProofBench$Proof", "crowded", "Z", false)
  | 15 => ("ProofBench$Proof", "leaning", "J", false)
  | _ => ("ProofBench$Proof", "induced", "Z", false)
def tyX5 : Nat → FieldType := fun k => match k with
  | 0 => .object "ProofBench$Names"
  | 1 => .object "ProofBench$Forms"
  | 2 => .object "ProofBench$Look"
  | 3 => .object "ProofBench$Search"
  | 4 => .array (.object "ProofBench$Step")
  | 5 => .array (.object "ProofBench$Step")
  | 6 => .array (.object "ProofBench$Step")
  | 7 => .object "ProofBench$Step"
  | 8 => .object "ProofBench$Row"
  | 9 => .object "ProofBench$Row"
  | 10 => .int
  | 11 => .int
  | 12 => .array (.object "ProofBench$Thing")
  | 13 => .int
  | 14 => .boolean
  | 15 => .long
  | _ => .boolean
abbrev wsX50 : List Cond := u_ws RX5 TX5 17
theorem nmX5 : ∀ a, a < 17 → ∀ b, b < 17 → a ≠ b → (TX5 a).2.1 ≠ (TX5 b).2.1 := by decide +kernel
theorem tyX5_ok : ∀ k, k < 17 → parseFieldDescriptor (TX5 k).2.2.1 = some (tyX5 k) := by decide +kernel
def RX6 : String := "ProofBench$Row"
def TX6 : u_T := fun k => match k with
  | 0 => ("ProofBench$Row", "codes", "[I", true)
  | _ => ("ProofBench$Row", "length", "I", false)
def tyX6 : Nat → FieldType := fun k => match k with
  | 0 => .array .int
  | _ => .int
abbrev wsX60 : List Cond := u_ws RX6 TX6 2
theorem nmX6 : ∀ a, a < 2 → ∀ b, b < 2 → a ≠ b → (TX6 a).2.1 ≠ (TX6 b).2.1 := by decide +kernel
theorem tyX6_ok : ∀ k, k < 2 → parseFieldDescriptor (TX6 k).2.2.1 = some (tyX6 k) := by decide +kernel
abbrev cX6_init : ByteArray := prog_8_method_1_code
def yX6_init : MethodName := ⟨RX6, "<init>", "(I)V"⟩
def RX7 : String := "ProofBench$Search"
def TX7 : u_T := fun k => match k with
  | 0 => ("ProofBench$Search", "forms", "LProofBench$Forms;", true)
  | 1 => ("ProofBench$Search", "letters", "[LProofBench$Row;", true)
  | 2 => ("ProofBench$Search", "count", "I", false)
  | 3 => ("ProofBench$Search", "signs", "I", false)
  | 4 => ("ProofBench$Search", "at", "I", false)
  | _ => ("ProofBench$Search", "lost", "Z", false)
def tyX7 : Nat → FieldType := fun k => match k with
  | 0 => .object "ProofBench$Forms"
  | 1 => .array (.object "ProofBench$Row")
  | 2 => .int
  | 3 => .int
  | 4 => .int
  | _ => .boolean
abbrev wsX70 : List Cond := u_ws RX7 TX7 6
theorem nmX7 : ∀ a, a < 6 → ∀ b, b < 6 → a ≠ b → (TX7 a).2.1 ≠ (TX7 b).2.1 := by decide +kernel
theorem tyX7_ok : ∀ k, k < 6 → parseFieldDescriptor (TX7 k).2.2.1 = some (tyX7 k) := by decide +kernel
def RX8 : String := "ProofBench$Step"
def TX8 : u_T := fun k => match k with
  | 0 => ("ProofBench$Step", "shows", "LProofBench$Thing;", true)
  | 1 => ("ProofBench$Step", "from", "[LProofBench$Thing;", true)
  | 2 => ("ProofBench$Step", "leaning", "J", true)
  | _ => ("ProofBench$Step", "induced", "Z", true)
def tyX8 : Nat → FieldType := fun k => match k with
  | 0 => .object "ProofBench$Thing"
  | 1 => .array (.object "ProofBench$Thing")
  | 2 => .long
  | _ => .boolean
abbrev wsX80 : List Cond := u_ws RX8 TX8 4
theorem nmX8 : ∀ a, a < 4 → ∀ b, b < 4 → a ≠ b → (TX8 a).2.1 ≠ (TX8 b).2.1 := by decide +kernel
theorem tyX8_ok : ∀ k, k < 4 → parseFieldDescriptor (TX8 k).2.2.1 = some (tyX8 k) := by decide +kernel
abbrev cX8_init : ByteArray := prog_10_method_1_code
def yX8_init : MethodName := ⟨RX8, "<init>", "(LProofBench$Thing;[LProofBench$Thing;JZ)V"⟩
def RX9 : String := "ProofBench$Tape"
def TX9 : u_T := fun k => match k with
  | 0 => ("ProofBench$Tape", "bytes", "[B", true)
  | 1 => ("ProofBench$Tape", "kinds", "[I", true)
  | 2 => ("ProofBench$Tape", "starts", "[I", true)
  | 3 => ("ProofBench$Tape", "worths", "[J", true)
  | 4 => ("ProofBench$Tape", "formAt", "[I", true)
  | 5 => ("ProofBench$Tape", "operandAt", "[I", true)
  | 6 => ("ProofBench$Tape", "length", "I", false)
  | 7 => ("ProofBench$Tape", "count", "I", false)
  | 8 => ("ProofBench$Tape", "next", "I", false)
  | 9 => ("ProofBench$Tape", "word", "I", false)
  | _ => ("ProofBench$Tape", "wrongAt", "I", false)
def tyX9 : Nat → FieldType := fun k => match k with
  | 0 => .array .byte
  | 1 => .array .int
  | 2 => .array .int
  | 3 => .array .long
  | 4 => .array .int
  | 5 => .array .int
  | 6 => .int
  | 7 => .int
  | 8 => .int
  | 9 => .int
  | _ => .int
abbrev wsX90 : List Cond := u_ws RX9 TX9 11
theorem nmX9 : ∀ a, a < 11 → ∀ b, b < 11 → a ≠ b → (TX9 a).2.1 ≠ (TX9 b).2.1 := by decide +kernel
theorem tyX9_ok : ∀ k, k < 11 → parseFieldDescriptor (TX9 k).2.2.1 = some (tyX9 k) := by decide +kernel
def RX10 : String := "ProofBench$Thing"
def TX10 : u_T := fun k => match k with
  | 0 => ("ProofBench$Thing", "codes", "[I", true)
  | _ => ("ProofBench$Thing", "free", "I", true)
def tyX10 : Nat → FieldType := fun k => match k with
  | 0 => .array .int
  | _ => .int
abbrev wsX100 : List Cond := u_ws RX10 TX10 2
theorem nmX10 : ∀ a, a < 2 → ∀ b, b < 2 → a ≠ b → (TX10 a).2.1 ≠ (TX10 b).2.1 := by decide +kernel
theorem tyX10_ok : ∀ k, k < 2 → parseFieldDescriptor (TX10 k).2.2.1 = some (tyX10 k) := by decide +kernel
abbrev cX10_init : ByteArray := prog_12_method_1_code
def yX10_init : MethodName := ⟨RX10, "<init>", "([II)V"⟩
def RX11 : String := "ProofBench"
def TX11 : u_T := fun k => match k with
  | 0 => ("ProofBench", "tape", "LProofBench$Tape;", true)
  | 1 => ("ProofBench", "names", "LProofBench$Names;", true)
  | 2 => ("ProofBench", "forms", "LProofBench$Forms;", true)
  | 3 => ("ProofBench", "model", "LProofBench$Model;", true)
  | 4 => ("ProofBench", "look", "LProofBench$Look;", true)
  | 5 => ("ProofBench", "proof", "LProofBench$Proof;", true)
  | 6 => ("ProofBench", "said", "LProofBench$Out;", true)
  | 7 => ("ProofBench", "refused", "[I", true)
  | _ => ("ProofBench", "wrongAt", "I", false)
def tyX11 : Nat → FieldType := fun k => match k with
  | 0 => .object "ProofBench$Tape"
  | 1 => .object "ProofBench$Names"
  | 2 => .object "ProofBench$Forms"
  | 3 => .object "ProofBench$Model"
  | 4 => .object "ProofBench$Look"
  | 5 => .object "ProofBench$Proof"
  | 6 => .object "ProofBench$Out"
  | 7 => .array .int
  | _ => .int
abbrev wsX110 : List Cond := u_ws RX11 TX11 9
theorem nmX11 : ∀ a, a < 9 → ∀ b, b < 9 → a ≠ b → (TX11 a).2.1 ≠ (TX11 b).2.1 := by decide +kernel
theorem tyX11_ok : ∀ k, k < 9 → parseFieldDescriptor (TX11 k).2.2.1 = some (tyX11 k) := by decide +kernel
def RX12 : String := "ProofBenchModel"
def TX12 : u_T := fun k => match k with
  | 0 => ("ProofBenchModel", "why", "I", false)
  | 1 => ("ProofBenchModel", "names", "I", false)
  | 2 => ("ProofBenchModel", "letters", "[I", true)
  | 3 => ("ProofBenchModel", "letterMany", "[I", true)
  | 4 => ("ProofBenchModel", "asSort", "[I", true)
  | 5 => ("ProofBenchModel", "asFun", "[I", true)
  | 6 => ("ProofBenchModel", "asRel", "[I", true)
  | 7 => ("ProofBenchModel", "asVariable", "[I", true)
  | 8 => ("ProofBenchModel", "asFact", "[I", true)
  | 9 => ("ProofBenchModel", "sorts", "I", false)
  | 10 => ("ProofBenchModel", "sortName", "[I", true)
  | 11 => ("ProofBenchModel", "funs", "I", false)
  | 12 => ("ProofBenchModel", "funName", "[I", true)
  | 13 => ("ProofBenchModel", "funMany", "[I", true)
  | 14 => ("ProofBenchModel", "funParts", "[I", true)
  | 15 => ("ProofBenchModel", "funSort", "[I", true)
  | 16 => ("ProofBenchModel", "rels", "I", false)
  | 17 => ("ProofBenchModel", "relName", "[I", true)
  | 18 => ("ProofBenchModel", "relMany", "[I", true)
  | 19 => ("ProofBenchModel", "relParts", "[I", true)
  | 20 => ("ProofBenchModel", "variables", "I", false)
  | 21 => ("ProofBenchModel", "variableName", "[I", true)
  | 22 => ("ProofBenchModel", "variableSort", "[I", true)
  | 23 => ("ProofBenchModel", "nodes", "I", false)
  | 24 => ("ProofBenchModel", "kind", "[I", false)
  | 25 => ("ProofBenchModel", "id", "[I", false)
  | 26 => ("ProofBenchModel", "one", "[I", false)
  | 27 => ("ProofBenchModel", "two", "[I", false)
  | 28 => ("ProofBenchModel", "three", "[I", false)
  | 29 => ("ProofBenchModel", "oneBound", "[I", true)
  | 30 => ("ProofBenchModel", "otherBound", "[I", true)
  | 31 => ("ProofBenchModel", "tape", "[I", true)
  | 32 => ("ProofBenchModel", "taped", "I", false)
  | 33 => ("ProofBenchModel", "at", "I", false)
  | 34 => ("ProofBenchModel", "token", "I", false)
  | 35 => ("ProofBenchModel", "tokenAt", "I", false)
  | 36 => ("ProofBenchModel", "tokenLong", "I", false)
  | 37 => ("ProofBenchModel", "tokenValue", "I", false)
  | 38 => ("ProofBenchModel", "raws", "I", false)
  | 39 => ("ProofBenchModel", "rawSign", "[I", true)
  | 40 => ("ProofBenchModel", "rawAt", "[I", true)
  | 41 => ("ProofBenchModel", "rawLong", "[I", true)
  | 42 => ("ProofBenchModel", "rawValue", "[I", true)
  | 43 => ("ProofBenchModel", "rawFirst", "[I", true)
  | 44 => ("ProofBenchModel", "rawNext", "[I", true)
  | 45 => ("ProofBenchModel", "isWrong", "Z", false)
  | 46 => ("ProofBenchModel", "statement", "I", false)
  | 47 => ("ProofBenchModel", "patternAt", "I", false)
  | 48 => ("ProofBenchModel", "items", "I", false)
  | 49 => ("ProofBenchModel", "itemLetter", "[I", true)
  | 50 => ("ProofBenchModel", "itemAt", "[I", true)
  | 51 => ("ProofBenchModel", "itemLong", "[I", true)
  | 52 => ("ProofBenchModel", "itemValue", "[I", true)
  | 53 => ("ProofBenchModel", "listed", "I", false)
  | 54 => ("ProofBenchModel", "listAt", "[I", true)
  | 55 => ("ProofBenchModel", "listLong", "[I", true)
  | 56 => ("ProofBenchModel", "listValue", "[I", true)
  | 57 => ("ProofBenchModel", "rawNode", "[I", true)
  | 58 => ("ProofBenchModel", "rawSort", "[I", true)
  | 59 => ("ProofBenchModel", "rawPlaces", "[I", true)
  | 60 => ("ProofBenchModel", "rawDeep", "[I", true)
  | 61 => ("ProofBenchModel", "got", "[I", true)
  | 62 => ("ProofBenchModel", "listGot", "[I", true)
  | 63 => ("ProofBenchModel", "steps", "I", false)
  | 64 => ("ProofBenchModel", "shows", "[I", true)
  | 65 => ("ProofBenchModel", "hypothesisMany", "[I", true)
  | 66 => ("ProofBenchModel", "hypothesis", "[I", true)
  | 67 => ("ProofBenchModel", "leanOf", "[J", true)
  | 68 => ("ProofBenchModel", "isInductive", "[Z", true)
  | 69 => ("ProofBenchModel", "facts", "I", false)
  | 70 => ("ProofBenchModel", "factRow", "[I", true)
  | 71 => ("ProofBenchModel", "factLeans", "[J", true)
  | 72 => ("ProofBenchModel", "isInductiveFact", "[Z", true)
  | 73 => ("ProofBenchModel", "now", "[I", true)
  | 74 => ("ProofBenchModel", "nowMany", "I", false)
  | 75 => ("ProofBenchModel", "nowLeans", "J", false)
  | 76 => ("ProofBenchModel", "nowInductive", "Z", false)
  | 77 => ("ProofBenchModel", "made", "I", false)
  | 78 => ("ProofBenchModel", "letterOf", "[I", true)
  | 79 => ("ProofBenchModel", "letterCount", "I", false)
  | 80 => ("ProofBenchModel", "joints", "I", false)
  | 81 => ("ProofBenchModel", "written", "I", false)
  | 82 => ("ProofBenchModel", "size", "[I", true)
  | 83 => ("ProofBenchModel", "zero", "I", false)
  | 84 => ("ProofBenchModel", "valueOf", "[I", true)
  | 85 => ("ProofBenchModel", "isSo", "[Z", true)
  | 86 => ("ProofBenchModel", "thingOf", "[I", true)
  | 87 => ("ProofBenchModel", "out", "[I", true)
  | 88 => ("ProofBenchModel", "outs", "I", false)
  | 89 => ("ProofBenchModel", "text", "[I", true)
  | 90 => ("ProofBenchModel", "texts", "I", false)
  | 91 => ("ProofBenchModel", "told", "I", false)
  | 92 => ("ProofBenchModel", "wrongAt", "I", false)
  | _ => ("ProofBenchModel", "refused", "[I", true)
def tyX12 : Nat → FieldType := fun k => match k with
  | 0 => .int
  | 1 => .int
  | 2 => .array .int
  | 3 => .array .int
  | 4 => .array .int
  | 5 => .array .int
  | 6 => .array .int
  | 7 => .array .int
  | 8 => .array .int
  | 9 => .int
  | 10 => .array .int
  | 11 => .int
  | 12 => .array .int
  | 13 => .array .int
  | 14 => .array .int
  | 15 => .array .int
  | 16 => .int
  | 17 => .array .int
  | 18 => .array .int
  | 19 => .array .int
  | 20 => .int
  | 21 => .array .int
  | 22 => .array .int
  | 23 => .int
  | 24 => .array .int
  | 25 => .array .int
  | 26 => .array .int
  | 27 => .array .int
  | 28 => .array .int
  | 29 => .array .int
  | 30 => .array .int
  | 31 => .array .int
  | 32 => .int
  | 33 => .int
  | 34 => .int
  | 35 => .int
  | 36 => .int
  | 37 => .int
  | 38 => .int
  | 39 => .array .int
  | 40 => .array .int
  | 41 => .array .int
  | 42 => .array .int
  | 43 => .array .int
  | 44 => .array .int
  | 45 => .boolean
  | 46 => .int
  | 47 => .int
  | 48 => .int
  | 49 => .array .int
  | 50 => .array .int
  | 51 => .array .int
  | 52 => .array .int
  | 53 => .int
  | 54 => .array .int
  | 55 => .array .int
  | 56 => .array .int
  | 57 => .array .int
  | 58 => .array .int
  | 59 => .array .int
  | 60 => .array .int
  | 61 => .array .int
  | 62 => .array .int
  | 63 => .int
  | 64 => .array .int
  | 65 => .array .int
  | 66 => .array .int
  | 67 => .array .long
  | 68 => .array .boolean
  | 69 => .int
  | 70 => .array .int
  | 71 => .array .long
  | 72 => .array .boolean
  | 73 => .array .int
  | 74 => .int
  | 75 => .long
  | 76 => .boolean
  | 77 => .int
  | 78 => .array .int
  | 79 => .int
  | 80 => .int
  | 81 => .int
  | 82 => .array .int
  | 83 => .int
  | 84 => .array .int
  | 85 => .array .boolean
  | 86 => .array .int
  | 87 => .array .int
  | 88 => .int
  | 89 => .array .int
  | 90 => .int
  | 91 => .int
  | 92 => .int
  | _ => .array .int
abbrev wsX120 : List Cond := u_ws RX12 TX12 94
theorem nmX12 : ∀ a, a < 94 → ∀ b, b < 94 → a ≠ b → (TX12 a).2.1 ≠ (TX12 b).2.1 := by decide +kernel
theorem tyX12_ok : ∀ k, k < 94 → parseFieldDescriptor (TX12 k).2.2.1 = some (tyX12 k) := by decide +kernel
def RJ11 : String := "java/lang/Character"
def TJ11 : u_T := fun k => match k with
  | _ => ("", "", "", false)
def tyJ11 : Nat → FieldType := fun k => match k with
  | _ => .int
abbrev wsJ110 : List Cond := u_ws RJ11 TJ11 0
theorem nmJ11 : ∀ a, a < 0 → ∀ b, b < 0 → a ≠ b → (TJ11 a).2.1 ≠ (TJ11 b).2.1 := by decide +kernel
theorem tyJ11_ok : ∀ k, k < 0 → parseFieldDescriptor (TJ11 k).2.2.1 = some (tyJ11 k) := by decide +kernel
def RJ6 : String := "java/lang/Integer"
def TJ6 : u_T := fun k => match k with
  | _ => ("", "", "", false)
def tyJ6 : Nat → FieldType := fun k => match k with
  | _ => .int
abbrev wsJ60 : List Cond := u_ws RJ6 TJ6 0
theorem nmJ6 : ∀ a, a < 0 → ∀ b, b < 0 → a ≠ b → (TJ6 a).2.1 ≠ (TJ6 b).2.1 := by decide +kernel
theorem tyJ6_ok : ∀ k, k < 0 → parseFieldDescriptor (TJ6 k).2.2.1 = some (tyJ6 k) := by decide +kernel
def RJ9 : String := "java/lang/Math"
def TJ9 : u_T := fun k => match k with
  | _ => ("", "", "", false)
def tyJ9 : Nat → FieldType := fun k => match k with
  | _ => .int
abbrev wsJ90 : List Cond := u_ws RJ9 TJ9 0
theorem nmJ9 : ∀ a, a < 0 → ∀ b, b < 0 → a ≠ b → (TJ9 a).2.1 ≠ (TJ9 b).2.1 := by decide +kernel
theorem tyJ9_ok : ∀ k, k < 0 → parseFieldDescriptor (TJ9 k).2.2.1 = some (tyJ9 k) := by decide +kernel
def RJ0 : String := "java/lang/String"
def TJ0 : u_T := fun k => match k with
  | _ => ("", "", "", false)
def tyJ0 : Nat → FieldType := fun k => match k with
  | _ => .int
abbrev wsJ00 : List Cond := u_ws RJ0 TJ0 0
theorem nmJ0 : ∀ a, a < 0 → ∀ b, b < 0 → a ≠ b → (TJ0 a).2.1 ≠ (TJ0 b).2.1 := by decide +kernel
theorem tyJ0_ok : ∀ k, k < 0 → parseFieldDescriptor (TJ0 k).2.2.1 = some (tyJ0 k) := by decide +kernel
def RJ1 : String := "java/lang/StringLatin1"
def TJ1 : u_T := fun k => match k with
  | _ => ("", "", "", false)
def tyJ1 : Nat → FieldType := fun k => match k with
  | _ => .int
abbrev wsJ10 : List Cond := u_ws RJ1 TJ1 0
theorem nmJ1 : ∀ a, a < 0 → ∀ b, b < 0 → a ≠ b → (TJ1 a).2.1 ≠ (TJ1 b).2.1 := by decide +kernel
theorem tyJ1_ok : ∀ k, k < 0 → parseFieldDescriptor (TJ1 k).2.2.1 = some (tyJ1 k) := by decide +kernel
def RJ2 : String := "java/lang/StringUTF16"
def TJ2 : u_T := fun k => match k with
  | _ => ("", "", "", false)
def tyJ2 : Nat → FieldType := fun k => match k with
  | _ => .int
abbrev wsJ20 : List Cond := u_ws RJ2 TJ2 0
theorem nmJ2 : ∀ a, a < 0 → ∀ b, b < 0 → a ≠ b → (TJ2 a).2.1 ≠ (TJ2 b).2.1 := by decide +kernel
theorem tyJ2_ok : ∀ k, k < 0 → parseFieldDescriptor (TJ2 k).2.2.1 = some (tyJ2 k) := by decide +kernel
def RJ10 : String := "java/lang/System"
def TJ10 : u_T := fun k => match k with
  | _ => ("", "", "", false)
def tyJ10 : Nat → FieldType := fun k => match k with
  | _ => .int
abbrev wsJ100 : List Cond := u_ws RJ10 TJ10 0
theorem nmJ10 : ∀ a, a < 0 → ∀ b, b < 0 → a ≠ b → (TJ10 a).2.1 ≠ (TJ10 b).2.1 := by decide +kernel
theorem tyJ10_ok : ∀ k, k < 0 → parseFieldDescriptor (TJ10 k).2.2.1 = some (tyJ10 k) := by decide +kernel
def RJ7 : String := "java/util/Arrays"
def TJ7 : u_T := fun k => match k with
  | _ => ("", "", "", false)
def tyJ7 : Nat → FieldType := fun k => match k with
  | _ => .int
abbrev wsJ70 : List Cond := u_ws RJ7 TJ7 0
theorem nmJ7 : ∀ a, a < 0 → ∀ b, b < 0 → a ≠ b → (TJ7 a).2.1 ≠ (TJ7 b).2.1 := by decide +kernel
theorem tyJ7_ok : ∀ k, k < 0 → parseFieldDescriptor (TJ7 k).2.2.1 = some (tyJ7 k) := by decide +kernel
def RJ3 : String := "jdk/internal/util/Preconditions"
def TJ3 : u_T := fun k => match k with
  | _ => ("", "", "", false)
def tyJ3 : Nat → FieldType := fun k => match k with
  | _ => .int
abbrev wsJ30 : List Cond := u_ws RJ3 TJ3 0
theorem nmJ3 : ∀ a, a < 0 → ∀ b, b < 0 → a ≠ b → (TJ3 a).2.1 ≠ (TJ3 b).2.1 := by decide +kernel
theorem tyJ3_ok : ∀ k, k < 0 → parseFieldDescriptor (TJ3 k).2.2.1 = some (tyJ3 k) := by decide +kernel
def RL : String := "ProofBenchLaw"
def wsX10_init : List Cond := .code yX10_init cX10_init 3 none :: ([.methodLink RX10 3 objectInit, .instanceMethod objectInit, .code objectInit ⟨#[0xb1]⟩ 1 none, .fieldLink RX10 9 "ProofBench$Thing" "codes" "[I", .fieldLink RX10 15 "ProofBench$Thing" "free" "I"] ++ wsX100)
def wsX6_init : List Cond := .code yX6_init cX6_init 2 none :: ([.methodLink RX6 1 objectInit, .instanceMethod objectInit, .code objectInit ⟨#[0xb1]⟩ 1 none, .arrayClass .int, .fieldLink RX6 7 "ProofBench$Row" "codes" "[I"] ++ wsX60)
def wsX8_init : List Cond := .code yX8_init cX8_init 6 none :: ([.methodLink RX8 1 objectInit, .instanceMethod objectInit, .code objectInit ⟨#[0xb1]⟩ 1 none, .fieldLink RX8 7 "ProofBench$Step" "shows" "LProofBench$Thing;", .fieldLink RX8 13 "ProofBench$Step" "from" "[LProofBench$Thing;", .fieldLink RX8 17 "ProofBench$Step" "leaning" "J", .fieldLink RX8 21 "ProofBench$Step" "induced" "Z"] ++ wsX80)
theorem dX6_init_0 : decode cX6_init 0 = .ok (.aload_n 0, 1) := by decide +kernel
theorem dX6_init_1 : decode cX6_init 1 = .ok (.invokespecial 1, 3) := by decide +kernel
theorem dX6_init_4 : decode cX6_init 4 = .ok (.aload_n 0, 1) := by decide +kernel
theorem dX6_init_5 : decode cX6_init 5 = .ok (.iload_n 1, 1) := by decide +kernel
theorem dX6_init_6 : decode cX6_init 6 = .ok (.newarray .int, 2) := by decide +kernel
theorem dX6_init_8 : decode cX6_init 8 = .ok (.putfield 7, 3) := by decide +kernel
theorem dX6_init_11 : decode cX6_init 11 = .ok (.return_, 1) := by decide +kernel
theorem dX8_init_0 : decode cX8_init 0 = .ok (.aload_n 0, 1) := by decide +kernel
theorem dX8_init_1 : decode cX8_init 1 = .ok (.invokespecial 1, 3) := by decide +kernel
theorem dX8_init_4 : decode cX8_init 4 = .ok (.aload_n 0, 1) := by decide +kernel
theorem dX8_init_5 : decode cX8_init 5 = .ok (.aload_n 1, 1) := by decide +kernel
theorem dX8_init_6 : decode cX8_init 6 = .ok (.putfield 7, 3) := by decide +kernel
theorem dX8_init_9 : decode cX8_init 9 = .ok (.aload_n 0, 1) := by decide +kernel
theorem dX8_init_10 : decode cX8_init 10 = .ok (.aload_n 2, 1) := by decide +kernel
theorem dX8_init_11 : decode cX8_init 11 = .ok (.putfield 13, 3) := by decide +kernel
theorem dX8_init_14 : decode cX8_init 14 = .ok (.aload_n 0, 1) := by decide +kernel
theorem dX8_init_15 : decode cX8_init 15 = .ok (.lload_n 3, 1) := by decide +kernel
theorem dX8_init_16 : decode cX8_init 16 = .ok (.putfield 17, 3) := by decide +kernel
theorem dX8_init_19 : decode cX8_init 19 = .ok (.aload_n 0, 1) := by decide +kernel
theorem dX8_init_20 : decode cX8_init 20 = .ok (.iload 5, 2) := by decide +kernel
theorem dX8_init_22 : decode cX8_init 22 = .ok (.putfield 21, 3) := by decide +kernel
theorem dX8_init_25 : decode cX8_init 25 = .ok (.return_, 1) := by decide +kernel
theorem dX10_init_0 : decode cX10_init 0 = .ok (.aload_n 0, 1) := by decide +kernel
theorem dX10_init_1 : decode cX10_init 1 = .ok (.invokespecial 3, 3) := by decide +kernel
theorem dX10_init_4 : decode cX10_init 4 = .ok (.aload_n 0, 1) := by decide +kernel
theorem dX10_init_5 : decode cX10_init 5 = .ok (.aload_n 1, 1) := by decide +kernel
theorem dX10_init_6 : decode cX10_init 6 = .ok (.putfield 9, 3) := by decide +kernel
theorem dX10_init_9 : decode cX10_init 9 = .ok (.aload_n 0, 1) := by decide +kernel
theorem dX10_init_10 : decode cX10_init 10 = .ok (.iload_n 2, 1) := by decide +kernel
theorem dX10_init_11 : decode cX10_init 11 = .ok (.putfield 15, 3) := by decide +kernel
theorem dX10_init_14 : decode cX10_init 14 = .ok (.return_, 1) := by decide +kernel
abbrev vwCl : List vw_C := [(RX0, TX0, 9), (RX1, TX1, 12), (RX2, TX2, 6), (RX3, TX3, 5), (RX4, TX4, 5), (RX5, TX5, 17), (RX6, TX6, 2), (RX7, TX7, 6), (RX8, TX8, 4), (RX9, TX9, 11), (RX10, TX10, 2), (RX11, TX11, 9), (RX12, TX12, 94)]
end
section
set_option maxHeartbeats 4000000 in
set_option maxRecDepth 100000 in
/-- Row(N): a row of N zeros, empty -/
theorem c_Row_init (l : Launch) (dC : Nat → ClassId) (dI : Nat → Nat → Nat) (sz : Nat) (h0 N : Nat) (hN : N ≤ 2000) : Met l yX6_init wsX6_init ({ frames := 1, cells := 1, slots := N, locals := 12 }) (va_Pc [.ref h0, .int (nI N)] (fun U => U.heap.size = sz ∧ va_P (dC, dI) vwCl [(h0, .inr (6, [.null, .int 0]))] U.heap ∧ va_K (dC, dI) vwCl [] U ∧ va_D (fun _ => True) [(h0, .inr (6, [.null, .int 0]))])) (va_Qv (fun _ : Unit => True) (fun _ t => ∃ (q : Nat) (cA : ClassId), va_P (dC, dI) vwCl [(h0, .inr (6, [.ref q, .int 0])), (q, .inl (cA, N, .inl (fun _ => 0)))] t.heap ∧ va_K (dC, dI) vwCl [(cA, .int)] t ∧ va_D (va_A [(h0, .inr (6, [.null, .int 0]))] sz) [(h0, .inr (6, [.ref q, .int 0])), (q, .inl (cA, N, .inl (fun _ => 0)))]) (va_A [(h0, .inr (6, [.null, .int 0]))] sz)) (1) (N) (va_A [(h0, .inr (6, [.null, .int 0]))] sz) := by
  refine Met.ofW (cc := cX6_init) (maxL := 2) (ret := none) (by decide) rfl ?_
  intro p e s m args below meth c s₁ B hml hv
  obtain ⟨rfl, hsz, hP, hK, hD0⟩ := hv
  have hx := B.exec
  have hb := B.bytes
  have hr := B.returns
  have hts := atoms_spec (ws := wsX6_init) B.pre
  have hown : s.vm.findClass RX6 = some m.cls := findClass_of_methodNamed B.named
  have hlocks := B.notSynchronized
  have hin : meth.name = "<init>" := (name_of_methodNamed B.named B.method).1
  subst hsz
  have hD := hD0.self (sz := s.heap.size)
  generalize hAe : va_A [(h0, .inr (6, [.null, .int 0]))] s.heap.size = A at hD ⊢
  have hA : ∀ q : Nat, s.heap.size ≤ q → A q := fun q h => by rw [← hAe]; exact Or.inr h
  have hS : va_S A s.heap s.heap [] := va_S.rf
  have hl := lv_entry ([.ref h0, .int (nI N)]) (n := 2) (Nat.le_of_ble_eq_true rfl)
  rw [lg_entry_eq]
  generalize (lg_sl ([.ref h0, .int (nI N)]) ++ List.replicate (2 - (lg_sl ([.ref h0, .int (nI N)])).length) Slot.unset).toArray = ls at hl ⊢
  have hl : lv_has ls 2 [(0, .ref h0), (1, .int (nI N))] := hl
  refine lv_aload_n hx hb dX6_init_0 rfl (lv_at hl 0 rfl) ?_
  refine W.objInit hx hb hown (hts (.methodLink RX6 1 objectInit) (by decide +kernel)) (hts (.instanceMethod objectInit) (by decide +kernel)) (hts (.code objectInit ⟨#[0xb1]⟩ 1 none) (by decide +kernel)) rfl (by rw [hml]; exact hl.1) rfl dX6_init_1 (Nat.le_of_ble_eq_true rfl) (Nat.le_of_ble_eq_true rfl) ?_
  refine W.eq (g2 := F0 m 4 ls []) rfl ?_
  refine lv_aload_n hx hb dX6_init_4 rfl (lv_at hl 0 rfl) ?_
  refine lv_iload_n hx hb dX6_init_5 rfl (lv_at hl 1 rfl) ?_
  have hby : N * componentBytes (.int) ≤ 536870912 := by rw [show componentBytes .int = 4 from rfl]; omega
  have hn0 : ¬ nI N < 0 := nI_pos (by omega)
  have hn1 : (nI N).toNatClampNeg = N := nI_clamp (by omega)
  refine va_newa (atype := .int) (n := (nI N)) (N' := N) (ty := .int) (a0 := (N, .inl (fun _ => 0))) hx hb (hts (.arrayClass .int) (by decide +kernel)) rfl hK hP hD hS hA (fun _ => rfl) hn0 hn1 hby (show 0 + 1 ≤ 1 by omega) (show 0 + N ≤ N by omega) dX6_init_6 (fun q_1 cA_2 H hK hP hD hS => ?_)
  have hP : va_P (dC, dI) vwCl [(h0, .inr (6, [.null, .int 0])), (q_1, .inl (cA_2, N, .inl (fun _ => 0)))] H := hP
  have hD : va_D A [(h0, .inr (6, [.null, .int 0])), (q_1, .inl (cA_2, N, .inl (fun _ => 0)))] := hD
  have hK : va_K (dC, dI) vwCl [(cA_2, .int)] s := hK
  refine W.widen (k := 1) (n := N) (by omega) (by omega) ?_
  refine va_putF (D := (dC, dI)) (ci := 6) (v := .ref q_1) (ty := .array .int) (C := RX6) (T := TX6) (N := 2) hx hb hts (by decide +kernel) tyX6 tyX6_ok nmX6 hown hK hP hD hS 0 rfl rfl 0 (by decide) (hts (.fieldLink RX6 7 "ProofBench$Row" "codes" "[I") (by decide +kernel)) (fun _ h9 => h9) rfl hin rfl (by decide +kernel) rfl rfl (Nat.le_of_ble_eq_true rfl) dX6_init_8 (fun H locs hP hD hS => ?_)
  have hP : va_P (dC, dI) vwCl [(h0, .inr (6, [.ref q_1, .int 0])), (q_1, .inl (cA_2, N, .inl (fun _ => 0)))] H := hP
  have hD : va_D A [(h0, .inr (6, [.ref q_1, .int 0])), (q_1, .inl (cA_2, N, .inl (fun _ => 0)))] := hD
  have hP9 := hP.sub (ws' := [(h0, .inr (6, [.ref q_1, .int 0])), (q_1, .inl (cA_2, N, .inl (fun _ => 0)))]) [0, 1] rfl
  have hD9 := hD.sub (ws' := [(h0, .inr (6, [.ref q_1, .int 0])), (q_1, .inl (cA_2, N, .inl (fun _ => 0)))]) [0, 1] (by decide) rfl
  have hK9 := hK.sub (tys' := [(cA_2, .int)]) [0] rfl
  refine W.widen (k := 1) (n := N) (by omega) (by omega) ?_
  exact W.vret hx hb hr (fun t ht hW => ⟨⟨(), rfl, trivial, q_1, cA_2, by rw [ht]; exact hP9, va_K.moved hW.alike hK9, hD9⟩, hS.F ht⟩) hS.2.2 dX6_init_11
set_option maxHeartbeats 4000000 in
set_option maxRecDepth 100000 in
/-- Thing(codes, free) -/
theorem c_Thing_init (l : Launch) (dC : Nat → ClassId) (dI : Nat → Nat → Nat) (sz : Nat) (h0 h1 : Nat) (f : Int32) : Met l yX10_init wsX10_init ({ frames := 1, cells := 0, slots := 0, locals := 12 }) (va_Pc [.ref h0, .ref h1, .int f] (fun U => U.heap.size = sz ∧ va_P (dC, dI) vwCl [(h0, .inr (10, [.null, .int 0]))] U.heap ∧ va_K (dC, dI) vwCl [] U ∧ va_D (fun _ => True) [(h0, .inr (10, [.null, .int 0]))])) (va_Qv (fun _ : Unit => True) (fun _ t => va_P (dC, dI) vwCl [(h0, .inr (10, [.ref h1, .int f]))] t.heap ∧ va_K (dC, dI) vwCl [] t ∧ va_D (va_A [(h0, .inr (10, [.null, .int 0]))] sz) [(h0, .inr (10, [.ref h1, .int f]))]) (va_A [(h0, .inr (10, [.null, .int 0]))] sz)) (0) (0) (va_A [(h0, .inr (10, [.null, .int 0]))] sz) := by
  refine Met.ofW (cc := cX10_init) (maxL := 3) (ret := none) (by decide) rfl ?_
  intro p e s m args below meth c s₁ B hml hv
  obtain ⟨rfl, hsz, hP, hK, hD0⟩ := hv
  have hx := B.exec
  have hb := B.bytes
  have hr := B.returns
  have hts := atoms_spec (ws := wsX10_init) B.pre
  have hown : s.vm.findClass RX10 = some m.cls := findClass_of_methodNamed B.named
  have hlocks := B.notSynchronized
  have hin : meth.name = "<init>" := (name_of_methodNamed B.named B.method).1
  subst hsz
  have hD := hD0.self (sz := s.heap.size)
  generalize hAe : va_A [(h0, .inr (10, [.null, .int 0]))] s.heap.size = A at hD ⊢
  have hA : ∀ q : Nat, s.heap.size ≤ q → A q := fun q h => by rw [← hAe]; exact Or.inr h
  have hS : va_S A s.heap s.heap [] := va_S.rf
  have hl := lv_entry ([.ref h0, .ref h1, .int f]) (n := 3) (Nat.le_of_ble_eq_true rfl)
  rw [lg_entry_eq]
  generalize (lg_sl ([.ref h0, .ref h1, .int f]) ++ List.replicate (3 - (lg_sl ([.ref h0, .ref h1, .int f])).length) Slot.unset).toArray = ls at hl ⊢
  have hl : lv_has ls 3 [(0, .ref h0), (1, .ref h1), (2, .int f)] := hl
  refine lv_aload_n hx hb dX10_init_0 rfl (lv_at hl 0 rfl) ?_
  refine W.objInit hx hb hown (hts (.methodLink RX10 3 objectInit) (by decide +kernel)) (hts (.instanceMethod objectInit) (by decide +kernel)) (hts (.code objectInit ⟨#[0xb1]⟩ 1 none) (by decide +kernel)) rfl (by rw [hml]; exact hl.1) rfl dX10_init_1 (Nat.le_of_ble_eq_true rfl) (Nat.le_of_ble_eq_true rfl) ?_
  refine W.eq (g2 := F0 m 4 ls []) rfl ?_
  refine lv_aload_n hx hb dX10_init_4 rfl (lv_at hl 0 rfl) ?_
  refine lv_aload_n hx hb dX10_init_5 rfl (lv_at hl 1 rfl) ?_
  refine va_putF (D := (dC, dI)) (ci := 10) (v := .ref h1) (ty := .array .int) (C := RX10) (T := TX10) (N := 2) hx hb hts (by decide +kernel) tyX10 tyX10_ok nmX10 hown hK hP hD hS 0 rfl rfl 0 (by decide) (hts (.fieldLink RX10 9 "ProofBench$Thing" "codes" "[I") (by decide +kernel)) (fun _ h9 => h9) rfl hin rfl (by decide +kernel) rfl rfl (Nat.le_of_ble_eq_true rfl) dX10_init_6 (fun H locs hP hD hS => ?_)
  have hP : va_P (dC, dI) vwCl [(h0, .inr (10, [.ref h1, .int 0]))] H := hP
  have hD : va_D A [(h0, .inr (10, [.ref h1, .int 0]))] := hD
  refine lv_aload_n hx hb dX10_init_9 rfl (lv_at hl 0 rfl) ?_
  refine lv_iload_n hx hb dX10_init_10 rfl (lv_at hl 2 rfl) ?_
  refine va_putF (D := (dC, dI)) (ci := 10) (v := .int f) (ty := .int) (C := RX10) (T := TX10) (N := 2) hx hb hts (by decide +kernel) tyX10 tyX10_ok nmX10 hown hK hP hD hS 0 rfl rfl 1 (by decide) (hts (.fieldLink RX10 15 "ProofBench$Thing" "free" "I") (by decide +kernel)) (fun _ h9 => h9) rfl hin rfl (by decide +kernel) rfl rfl (Nat.le_of_ble_eq_true rfl) dX10_init_11 (fun H locs hP hD hS => ?_)
  have hP : va_P (dC, dI) vwCl [(h0, .inr (10, [.ref h1, .int f]))] H := hP
  have hD : va_D A [(h0, .inr (10, [.ref h1, .int f]))] := hD
  have hP9 := hP.sub (ws' := [(h0, .inr (10, [.ref h1, .int f]))]) [0] rfl
  have hD9 := hD.sub (ws' := [(h0, .inr (10, [.ref h1, .int f]))]) [0] (by decide) rfl
  have hK9 := hK.sub (tys' := []) [] rfl
  refine W.widen (k := 0) (n := 0) (by omega) (by omega) ?_
  exact W.vret hx hb hr (fun t ht hW => ⟨⟨(), rfl, trivial, by rw [ht]; exact hP9, va_K.moved hW.alike hK9, hD9⟩, hS.F ht⟩) hS.2.2 dX10_init_14
set_option maxHeartbeats 4000000 in
set_option maxRecDepth 100000 in
/-- Step(shows, from, leaning, induced) -/
theorem c_Step_init (l : Launch) (dC : Nat → ClassId) (dI : Nat → Nat → Nat) (sz : Nat) (h0 h1 h2 : Nat) (g : Int64) : Met l yX8_init wsX8_init ({ frames := 1, cells := 0, slots := 0, locals := 12 }) (va_Pc [.ref h0, .ref h1, .ref h2, .long g, .int 0] (fun U => U.heap.size = sz ∧ va_P (dC, dI) vwCl [(h0, .inr (8, [.null, .null, .long 0, .int 0]))] U.heap ∧ va_K (dC, dI) vwCl [] U ∧ va_D (fun _ => True) [(h0, .inr (8, [.null, .null, .long 0, .int 0]))])) (va_Qv (fun _ : Unit => True) (fun _ t => va_P (dC, dI) vwCl [(h0, .inr (8, [.ref h1, .ref h2, .long g, .int 0]))] t.heap ∧ va_K (dC, dI) vwCl [] t ∧ va_D (va_A [(h0, .inr (8, [.null, .null, .long 0, .int 0]))] sz) [(h0, .inr (8, [.ref h1, .ref h2, .long g, .int 0]))]) (va_A [(h0, .inr (8, [.null, .null, .long 0, .int 0]))] sz)) (0) (0) (va_A [(h0, .inr (8, [.null, .null, .long 0, .int 0]))] sz) := by
  refine Met.ofW (cc := cX8_init) (maxL := 6) (ret := none) (by decide) rfl ?_
  intro p e s m args below meth c s₁ B hml hv
  obtain ⟨rfl, hsz, hP, hK, hD0⟩ := hv
  have hx := B.exec
  have hb := B.bytes
  have hr := B.returns
  have hts := atoms_spec (ws := wsX8_init) B.pre
  have hown : s.vm.findClass RX8 = some m.cls := findClass_of_methodNamed B.named
  have hlocks := B.notSynchronized
  have hin : meth.name = "<init>" := (name_of_methodNamed B.named B.method).1
  subst hsz
  have hD := hD0.self (sz := s.heap.size)
  generalize hAe : va_A [(h0, .inr (8, [.null, .null, .long 0, .int 0]))] s.heap.size = A at hD ⊢
  have hA : ∀ q : Nat, s.heap.size ≤ q → A q := fun q h => by rw [← hAe]; exact Or.inr h
  have hS : va_S A s.heap s.heap [] := va_S.rf
  have hl := lv_entry ([.ref h0, .ref h1, .ref h2, .long g, .int 0]) (n := 6) (Nat.le_of_ble_eq_true rfl)
  rw [lg_entry_eq]
  generalize (lg_sl ([.ref h0, .ref h1, .ref h2, .long g, .int 0]) ++ List.replicate (6 - (lg_sl ([.ref h0, .ref h1, .ref h2, .long g, .int 0])).length) Slot.unset).toArray = ls at hl ⊢
  have hl : lv_has ls 6 [(0, .ref h0), (1, .ref h1), (2, .ref h2), (3, .long g), (5, .int 0)] := hl
  refine lv_aload_n hx hb dX8_init_0 rfl (lv_at hl 0 rfl) ?_
  refine W.objInit hx hb hown (hts (.methodLink RX8 1 objectInit) (by decide +kernel)) (hts (.instanceMethod objectInit) (by decide +kernel)) (hts (.code objectInit ⟨#[0xb1]⟩ 1 none) (by decide +kernel)) rfl (by rw [hml]; exact hl.1) rfl dX8_init_1 (Nat.le_of_ble_eq_true rfl) (Nat.le_of_ble_eq_true rfl) ?_
  refine W.eq (g2 := F0 m 4 ls []) rfl ?_
  refine lv_aload_n hx hb dX8_init_4 rfl (lv_at hl 0 rfl) ?_
  refine lv_aload_n hx hb dX8_init_5 rfl (lv_at hl 1 rfl) ?_
  refine va_putF (D := (dC, dI)) (ci := 8) (v := .ref h1) (ty := .object "ProofBench$Thing") (C := RX8) (T := TX8) (N := 4) hx hb hts (by decide +kernel) tyX8 tyX8_ok nmX8 hown hK hP hD hS 0 rfl rfl 0 (by decide) (hts (.fieldLink RX8 7 "ProofBench$Step" "shows" "LProofBench$Thing;") (by decide +kernel)) (fun _ h9 => h9) rfl hin rfl (by decide +kernel) rfl rfl (Nat.le_of_ble_eq_true rfl) dX8_init_6 (fun H locs hP hD hS => ?_)
  have hP : va_P (dC, dI) vwCl [(h0, .inr (8, [.ref h1, .null, .long 0, .int 0]))] H := hP
  have hD : va_D A [(h0, .inr (8, [.ref h1, .null, .long 0, .int 0]))] := hD
  refine lv_aload_n hx hb dX8_init_9 rfl (lv_at hl 0 rfl) ?_
  refine lv_aload_n hx hb dX8_init_10 rfl (lv_at hl 2 rfl) ?_
  refine va_putF (D := (dC, dI)) (ci := 8) (v := .ref h2) (ty := .array (.object "ProofBench$Thing")) (C := RX8) (T := TX8) (N := 4) hx hb hts (by decide +kernel) tyX8 tyX8_ok nmX8 hown hK hP hD hS 0 rfl rfl 1 (by decide) (hts (.fieldLink RX8 13 "ProofBench$Step" "from" "[LProofBench$Thing;") (by decide +kernel)) (fun _ h9 => h9) rfl hin rfl (by decide +kernel) rfl rfl (Nat.le_of_ble_eq_true rfl) dX8_init_11 (fun H locs hP hD hS => ?_)
  have hP : va_P (dC, dI) vwCl [(h0, .inr (8, [.ref h1, .ref h2, .long 0, .int 0]))] H := hP
  have hD : va_D A [(h0, .inr (8, [.ref h1, .ref h2, .long 0, .int 0]))] := hD
  refine lv_aload_n hx hb dX8_init_14 rfl (lv_at hl 0 rfl) ?_
  refine lv_lload_n hx hb dX8_init_15 rfl (lv_at hl 3 rfl) ?_
  refine va_putF (D := (dC, dI)) (ci := 8) (v := .long g) (ty := .long) (C := RX8) (T := TX8) (N := 4) hx hb hts (by decide +kernel) tyX8 tyX8_ok nmX8 hown hK hP hD hS 0 rfl rfl 2 (by decide) (hts (.fieldLink RX8 17 "ProofBench$Step" "leaning" "J") (by decide +kernel)) (fun _ h9 => h9) rfl hin rfl (by decide +kernel) rfl rfl (Nat.le_of_ble_eq_true rfl) dX8_init_16 (fun H locs hP hD hS => ?_)
  have hP : va_P (dC, dI) vwCl [(h0, .inr (8, [.ref h1, .ref h2, .long g, .int 0]))] H := hP
  have hD : va_D A [(h0, .inr (8, [.ref h1, .ref h2, .long g, .int 0]))] := hD
  refine lv_aload_n hx hb dX8_init_19 rfl (lv_at hl 0 rfl) ?_
  refine lv_iload hx hb dX8_init_20 (lv_at hl 4 rfl) ?_
  refine va_putF (D := (dC, dI)) (ci := 8) (v := .int 0) (ty := .boolean) (C := RX8) (T := TX8) (N := 4) hx hb hts (by decide +kernel) tyX8 tyX8_ok nmX8 hown hK hP hD hS 0 rfl rfl 3 (by decide) (hts (.fieldLink RX8 21 "ProofBench$Step" "induced" "Z") (by decide +kernel)) (fun _ h9 => h9) rfl hin rfl (by decide +kernel) rfl rfl (Nat.le_of_ble_eq_true rfl) dX8_init_22 (fun H locs hP hD hS => ?_)
  have hP : va_P (dC, dI) vwCl [(h0, .inr (8, [.ref h1, .ref h2, .long g, .int 0]))] H := hP
  have hD : va_D A [(h0, .inr (8, [.ref h1, .ref h2, .long g, .int 0]))] := hD
  have hP9 := hP.sub (ws' := [(h0, .inr (8, [.ref h1, .ref h2, .long g, .int 0]))]) [0] rfl
  have hD9 := hD.sub (ws' := [(h0, .inr (8, [.ref h1, .ref h2, .long g, .int 0]))]) [0] (by decide) rfl
  have hK9 := hK.sub (tys' := []) [] rfl
  refine W.widen (k := 0) (n := 0) (by omega) (by omega) ?_
  exact W.vret hx hb hr (fun t ht hW => ⟨⟨(), rfl, trivial, by rw [ht]; exact hP9, va_K.moved hW.alike hK9, hD9⟩, hS.F ht⟩) hS.2.2 dX8_init_25
end
