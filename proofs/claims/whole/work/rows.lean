section
theorem goodIn_r {big : List Cond} (ws : List Cond) (ps : List Nat) (hp : ws = ps.filterMap (fun i => big[i]?)) (h : ws.all goodWord = true) : GoodIn big ws := by
  intro w hw
  have h1 := List.all_eq_true.mp h w hw
  rw [hp] at hw
  obtain ⟨i, -, hi⟩ := List.mem_filterMap.mp hw
  have hm : w ∈ big := by first | exact List.mem_of_getElem? hi | exact List.getElem?_mem hi
  exact ⟨hm, good_of_word h1⟩
theorem goodIn_app {big a b : List Cond} (ha : GoodIn big a) (hb : GoodIn big b) : GoodIn big (a ++ b) := fun w h => (List.mem_append.mp h).elim (ha w) (hb w)
theorem goodIn_ca {big a b : List Cond} {c : Cond} (ha : GoodIn big (c :: a)) (hb : GoodIn big b) : GoodIn big (c :: (a ++ b)) := fun w h => (List.mem_cons.mp h).elim (fun e => ha w (List.mem_cons.mpr (Or.inl e))) (fun h => (List.mem_append.mp h).elim (fun h => ha w (List.mem_cons.mpr (Or.inr h))) (hb w))
theorem goodIn_sub {big ws : List Cond} (hm : ∀ w ∈ ws, w ∈ big) (h : ws.all goodWord = true) : GoodIn big ws := fun w hw => ⟨hm w hw, good_of_word (List.all_eq_true.mp h w hw)⟩
def RX0 : String := "ProofBench$Forms"
def TX0 : u_T := fun k => match k with
  | 0 => ("ProofBench$Forms", "names", "LProofBench$Names;", true)
  | 1 => ("ProofBench$Forms", "codes", "[I", true)
  | 2 => ("ProofBench$Forms", "ends", "[I", true)
  | 3 => ("ProofBench$Forms", "frees", "[I", true)
  | 4 => ("ProofBench$Forms", "length", "I", false)
  | 5 => ("ProofBench$Forms", "heights", "[I", true)
  | 6 => ("ProofBench$Forms", "lefts", "[I", true)
  | 7 => ("ProofBench$Forms", "rights", "[I", true)
  | _ => ("ProofBench$Forms", "needs", "[I", true)
def tyX0 : Nat → FieldType := fun k => match k with
  | 0 => .object "ProofBench$Names"
  | 1 => .array .int
  | 2 => .array .int
  | 3 => .array .int
  | 4 => .int
  | 5 => .array .int
  | 6 => .array .int
  | 7 => .array .int
  | _ => .array .int
abbrev wsX00 : List Cond := u_ws RX0 TX0 9
theorem nmX0 : ∀ a, a < 9 → ∀ b, b < 9 → a ≠ b → (TX0 a).2.1 ≠ (TX0 b).2.1 := by decide +kernel
theorem tyX0_ok : ∀ k, k < 9 → parseFieldDescriptor (TX0 k).2.2.1 = some (tyX0 k) := by decide +kernel
abbrev cX0_init : ByteArray := prog_2_method_1_code
def yX0_init : MethodName := ⟨RX0, "<init>", "(LProofBench$Names;)V"⟩
def RX1 : String := "ProofBench$Look"
def TX1 : u_T := fun k => match k with
  | 0 => ("ProofBench$Look", "tape", "LProofBench$Tape;", true)
  | 1 => ("ProofBench$Look", "names", "LProofBench$Names;", true)
  | 2 => ("ProofBench$Look", "model", "LProofBench$Model;", true)
  | 3 => ("ProofBench$Look", "first", "LProofBench$Row;", true)
  | 4 => ("ProofBench$Look", "second", "LProofBench$Row;", true)
  | 5 => ("ProofBench$Look", "values", "[I", true)
  | 6 => ("ProofBench$Look", "row", "[I", true)
  | 7 => ("ProofBench$Look", "rowLength", "I", false)
  | 8 => ("ProofBench$Look", "fresh", "J", false)
  | 9 => ("ProofBench$Look", "into", "LProofBench$Row;", false)
  | 10 => ("ProofBench$Look", "at", "I", false)
  | _ => ("ProofBench$Look", "things", "I", false)
def tyX1 : Nat → FieldType := fun k => match k with
  | 0 => .object "ProofBench$Tape"
  | 1 => .object "ProofBench$Names"
  | 2 => .object "ProofBench$Model"
  | 3 => .object "ProofBench$Row"
  | 4 => .object "ProofBench$Row"
  | 5 => .array .int
  | 6 => .array .int
  | 7 => .int
  | 8 => .long
  | 9 => .object "ProofBench$Row"
  | 10 => .int
  | _ => .int
abbrev wsX10 : List Cond := u_ws RX1 TX1 12
theorem nmX1 : ∀ a, a < 12 → ∀ b, b < 12 → a ≠ b → (TX1 a).2.1 ≠ (TX1 b).2.1 := by decide +kernel
theorem tyX1_ok : ∀ k, k < 12 → parseFieldDescriptor (TX1 k).2.2.1 = some (tyX1 k) := by decide +kernel
abbrev cX1_init : ByteArray := prog_3_method_1_code
def yX1_init : MethodName := ⟨RX1, "<init>", "(LProofBench$Tape;LProofBench$Names;LProofBench$Model;)V"⟩
def RX2 : String := "ProofBench$Model"
def TX2 : u_T := fun k => match k with
  | 0 => ("ProofBench$Model", "names", "LProofBench$Names;", true)
  | 1 => ("ProofBench$Model", "forms", "LProofBench$Forms;", true)
  | 2 => ("ProofBench$Model", "sizes", "[I", true)
  | 3 => ("ProofBench$Model", "tables", "[I", true)
  | 4 => ("ProofBench$Model", "things", "[I", true)
  | _ => ("ProofBench$Model", "zero", "I", false)
def tyX2 : Nat → FieldType := fun k => match k with
  | 0 => .object "ProofBench$Names"
  | 1 => .object "ProofBench$Forms"
  | 2 => .array .int
  | 3 => .array .int
  | 4 => .array .int
  | _ => .int
abbrev wsX20 : List Cond := u_ws RX2 TX2 6
theorem nmX2 : ∀ a, a < 6 → ∀ b, b < 6 → a ≠ b → (TX2 a).2.1 ≠ (TX2 b).2.1 := by decide +kernel
theorem tyX2_ok : ∀ k, k < 6 → parseFieldDescriptor (TX2 k).2.2.1 = some (tyX2 k) := by decide +kernel
abbrev cX2_init : ByteArray := prog_4_method_1_code
def yX2_init : MethodName := ⟨RX2, "<init>", "(LProofBench$Names;LProofBench$Forms;)V"⟩
def RX3 : String := "ProofBench$Names"
def TX3 : u_T := fun k => match k with
  | 0 => ("ProofBench$Names", "counts", "[I", true)
  | 1 => ("ProofBench$Names", "keys", "[J", true)
  | 2 => ("ProofBench$Names", "sorts", "[I", true)
  | 3 => ("ProofBench$Names", "arities", "[I", true)
  | _ => ("ProofBench$Names", "parts", "[I", true)
def tyX3 : Nat → FieldType := fun k => match k with
  | 0 => .array .int
  | 1 => .array .long
  | 2 => .array .int
  | 3 => .array .int
  | _ => .array .int
abbrev wsX30 : List Cond := u_ws RX3 TX3 5
theorem nmX3 : ∀ a, a < 5 → ∀ b, b < 5 → a ≠ b → (TX3 a).2.1 ≠ (TX3 b).2.1 := by decide +kernel
theorem tyX3_ok : ∀ k, k < 5 → parseFieldDescriptor (TX3 k).2.2.1 = some (tyX3 k) := by decide +kernel
def RX4 : String := "ProofBench$Out"
def TX4 : u_T := fun k => match k with
  | 0 => ("ProofBench$Out", "names", "LProofBench$Names;", true)
  | 1 => ("ProofBench$Out", "numbers", "[I", true)
  | 2 => ("ProofBench$Out", "lefts", "[I", true)
  | 3 => ("ProofBench$Out", "turned", "[I", true)
  | _ => ("ProofBench$Out", "count", "I", false)
def tyX4 : Nat → FieldType := fun k => match k with
  | 0 => .object "ProofBench$Names"
  | 1 => .array .int
  | 2 => .array .int
  | 3 => .array .int
  | _ => .int
abbrev wsX40 : List Cond := u_ws RX4 TX4 5
theorem nmX4 : ∀ a, a < 5 → ∀ b, b < 5 → a ≠ b → (TX4 a).2.1 ≠ (TX4 b).2.1 := by decide +kernel
theorem tyX4_ok : ∀ k, k < 5 → parseFieldDescriptor (TX4 k).2.2.1 = some (tyX4 k) := by decide +kernel
abbrev cX4_init : ByteArray := prog_6_method_1_code
def yX4_init : MethodName := ⟨RX4, "<init>", "(LProofBench$Names;)V"⟩
def RX5 : String := "ProofBench$Proof"
def TX5 : u_T := fun k => match k with
  | 0 => ("ProofBench$Proof", "names", "LProofBench$Names;", true)
  | 1 => ("ProofBench$Proof", "forms", "LProofBench$Forms;", true)
  | 2 => ("ProofBench$Proof", "look", "LProofBench$Look;", true)
  | 3 => ("ProofBench$Proof", "search", "LProofBench$Search;", true)
  | 4 => ("ProofBench$Proof", "steps", "[LProofBench$Step;", true)
  | 5 => ("ProofBench$Proof", "facts", "[LProofBench$Step;", true)
  | 6 => ("ProofBench$Proof", "named", "[LProofBench$Step;", true)
  | 7 => ("ProofBench$Proof", "nothing", "LProofBench$Step;", true)
  | 8 => ("ProofBench$Proof", "made", "LProofBench$Row;", true)
  | 9 => ("ProofBench$Proof", "other", "LProofBench$Row;", true)
  | 10 => ("ProofBench$Proof", "count", "I", false)
  | 11 => ("ProofBench$Proof", "called", "I", false)
  | 12 => ("ProofBench$Proof", "kept", "[LProofBench$Thing;", true)
  | 13 => ("ProofBench$Proof", "keptCount", "I", false)
  | 14 => ("ProofBench$Proof", "crowded", "Z", false)
  | 15 => ("ProofBench$Proof", "leaning", "J", false)
  | _ => ("ProofBench$Proof", "induced", "Z", false)
def tyX5 : Nat → FieldType := fun k => match k with
  | 0 => .object "ProofBench$Names"
  | 1 => .object "ProofBench$Forms"
  | 2 => .object "ProofBench$Look"
  | 3 => .object "ProofBench$Search"
  | 4 => .array (.object "ProofBench$Step")
  | 5 => .array (.object "ProofBench$Step")
  | 6 => .array (.object "ProofBench$Step")
  | 7 => .object "ProofBench$Step"
  | 8 => .object "ProofBench$Row"
  | 9 => .object "ProofBench$Row"
  | 10 => .int
  | 11 => .int
  | 12 => .array (.object "ProofBench$Thing")
  | 13 => .int
  | 14 => .boolean
  | 15 => .long
  | _ => .boolean
abbrev wsX50 : List Cond := u_ws RX5 TX5 17
theorem nmX5 : ∀ a, a < 17 → ∀ b, b < 17 → a ≠ b → (TX5 a).2.1 ≠ (TX5 b).2.1 := by decide +kernel
theorem tyX5_ok : ∀ k, k < 17 → parseFieldDescriptor (TX5 k).2.2.1 = some (tyX5 k) := by decide +kernel
abbrev cX5_init : ByteArray := prog_7_method_1_code
def yX5_init : MethodName := ⟨RX5, "<init>", "(LProofBench$Names;LProofBench$Forms;LProofBench$Look;)V"⟩
def RX6 : String := "ProofBench$Row"
def TX6 : u_T := fun k => match k with
  | 0 => ("ProofBench$Row", "codes", "[I", true)
  | _ => ("ProofBench$Row", "length", "I", false)
def tyX6 : Nat → FieldType := fun k => match k with
  | 0 => .array .int
  | _ => .int
abbrev wsX60 : List Cond := u_ws RX6 TX6 2
theorem nmX6 : ∀ a, a < 2 → ∀ b, b < 2 → a ≠ b → (TX6 a).2.1 ≠ (TX6 b).2.1 := by decide +kernel
theorem tyX6_ok : ∀ k, k < 2 → parseFieldDescriptor (TX6 k).2.2.1 = some (tyX6 k) := by decide +kernel
abbrev cX6_init : ByteArray := prog_8_method_1_code
def yX6_init : MethodName := ⟨RX6, "<init>", "(I)V"⟩
def RX7 : String := "ProofBench$Search"
def TX7 : u_T := fun k => match k with
  | 0 => ("ProofBench$Search", "forms", "LProofBench$Forms;", true)
  | 1 => ("ProofBench$Search", "letters", "[LProofBench$Row;", true)
  | 2 => ("ProofBench$Search", "count", "I", false)
  | 3 => ("ProofBench$Search", "signs", "I", false)
  | 4 => ("ProofBench$Search", "at", "I", false)
  | _ => ("ProofBench$Search", "lost", "Z", false)
def tyX7 : Nat → FieldType := fun k => match k with
  | 0 => .object "ProofBench$Forms"
  | 1 => .array (.object "ProofBench$Row")
  | 2 => .int
  | 3 => .int
  | 4 => .int
  | _ => .boolean
abbrev wsX70 : List Cond := u_ws RX7 TX7 6
theorem nmX7 : ∀ a, a < 6 → ∀ b, b < 6 → a ≠ b → (TX7 a).2.1 ≠ (TX7 b).2.1 := by decide +kernel
theorem tyX7_ok : ∀ k, k < 6 → parseFieldDescriptor (TX7 k).2.2.1 = some (tyX7 k) := by decide +kernel
abbrev cX7_init : ByteArray := prog_9_method_1_code
def yX7_init : MethodName := ⟨RX7, "<init>", "(LProofBench$Forms;)V"⟩
def RX8 : String := "ProofBench$Step"
def TX8 : u_T := fun k => match k with
  | 0 => ("ProofBench$Step", "shows", "LProofBench$Thing;", true)
  | 1 => ("ProofBench$Step", "from", "[LProofBench$Thing;", true)
  | 2 => ("ProofBench$Step", "leaning", "J", true)
  | _ => ("ProofBench$Step", "induced", "Z", true)
def tyX8 : Nat → FieldType := fun k => match k with
  | 0 => .object "ProofBench$Thing"
  | 1 => .array (.object "ProofBench$Thing")
  | 2 => .long
  | _ => .boolean
abbrev wsX80 : List Cond := u_ws RX8 TX8 4
theorem nmX8 : ∀ a, a < 4 → ∀ b, b < 4 → a ≠ b → (TX8 a).2.1 ≠ (TX8 b).2.1 := by decide +kernel
theorem tyX8_ok : ∀ k, k < 4 → parseFieldDescriptor (TX8 k).2.2.1 = some (tyX8 k) := by decide +kernel
abbrev cX8_init : ByteArray := prog_10_method_1_code
def yX8_init : MethodName := ⟨RX8, "<init>", "(LProofBench$Thing;[LProofBench$Thing;JZ)V"⟩
def RX9 : String := "ProofBench$Tape"
def TX9 : u_T := fun k => match k with
  | 0 => ("ProofBench$Tape", "bytes", "[B", true)
  | 1 => ("ProofBench$Tape", "kinds", "[I", true)
  | 2 => ("ProofBench$Tape", "starts", "[I", true)
  | 3 => ("ProofBench$Tape", "worths", "[J", true)
  | 4 => ("ProofBench$Tape", "formAt", "[I", true)
  | 5 => ("ProofBench$Tape", "operandAt", "[I", true)
  | 6 => ("ProofBench$Tape", "length", "I", false)
  | 7 => ("ProofBench$Tape", "count", "I", false)
  | 8 => ("ProofBench$Tape", "next", "I", false)
  | 9 => ("ProofBench$Tape", "word", "I", false)
  | _ => ("ProofBench$Tape", "wrongAt", "I", false)
def tyX9 : Nat → FieldType := fun k => match k with
  | 0 => .array .byte
  | 1 => .array .int
  | 2 => .array .int
  | 3 => .array .long
  | 4 => .array .int
  | 5 => .array .int
  | 6 => .int
  | 7 => .int
  | 8 => .int
  | 9 => .int
  | _ => .int
abbrev wsX90 : List Cond := u_ws RX9 TX9 11
theorem nmX9 : ∀ a, a < 11 → ∀ b, b < 11 → a ≠ b → (TX9 a).2.1 ≠ (TX9 b).2.1 := by decide +kernel
theorem tyX9_ok : ∀ k, k < 11 → parseFieldDescriptor (TX9 k).2.2.1 = some (tyX9 k) := by decide +kernel
def RX10 : String := "ProofBench$Thing"
def TX10 : u_T := fun k => match k with
  | 0 => ("ProofBench$Thing", "codes", "[I", true)
  | _ => ("ProofBench$Thing", "free", "I", true)
def tyX10 : Nat → FieldType := fun k => match k with
  | 0 => .array .int
  | _ => .int
abbrev wsX100 : List Cond := u_ws RX10 TX10 2
theorem nmX10 : ∀ a, a < 2 → ∀ b, b < 2 → a ≠ b → (TX10 a).2.1 ≠ (TX10 b).2.1 := by decide +kernel
theorem tyX10_ok : ∀ k, k < 2 → parseFieldDescriptor (TX10 k).2.2.1 = some (tyX10 k) := by decide +kernel
abbrev cX10_init : ByteArray := prog_12_method_1_code
def yX10_init : MethodName := ⟨RX10, "<init>", "([II)V"⟩
def RX11 : String := "ProofBench"
def TX11 : u_T := fun k => match k with
  | 0 => ("ProofBench", "tape", "LProofBench$Tape;", true)
  | 1 => ("ProofBench", "names", "LProofBench$Names;", true)
  | 2 => ("ProofBench", "forms", "LProofBench$Forms;", true)
  | 3 => ("ProofBench", "model", "LProofBench$Model;", true)
  | 4 => ("ProofBench", "look", "LProofBench$Look;", true)
  | 5 => ("ProofBench", "proof", "LProofBench$Proof;", true)
  | 6 => ("ProofBench", "said", "LProofBench$Out;", true)
  | 7 => ("ProofBench", "refused", "[I", true)
  | _ => ("ProofBench", "wrongAt", "I", false)
def tyX11 : Nat → FieldType := fun k => match k with
  | 0 => .object "ProofBench$Tape"
  | 1 => .object "ProofBench$Names"
  | 2 => .object "ProofBench$Forms"
  | 3 => .object "ProofBench$Model"
  | 4 => .object "ProofBench$Look"
  | 5 => .object "ProofBench$Proof"
  | 6 => .object "ProofBench$Out"
  | 7 => .array .int
  | _ => .int
abbrev wsX110 : List Cond := u_ws RX11 TX11 9
theorem nmX11 : ∀ a, a < 9 → ∀ b, b < 9 → a ≠ b → (TX11 a).2.1 ≠ (TX11 b).2.1 := by decide +kernel
theorem tyX11_ok : ∀ k, k < 9 → parseFieldDescriptor (TX11 k).2.2.1 = some (tyX11 k) := by decide +kernel
def RX12 : String := "ProofBenchModel"
def TX12 : u_T := fun k => match k with
  | 0 => ("ProofBenchModel", "why", "I", false)
  | 1 => ("ProofBenchModel", "names", "I", false)
  | 2 => ("ProofBenchModel", "letters", "[I", true)
  | 3 => ("ProofBenchModel", "letterMany", "[I", true)
  | 4 => ("ProofBenchModel", "asSort", "[I", true)
  | 5 => ("ProofBenchModel", "asFun", "[I", true)
  | 6 => ("ProofBenchModel", "asRel", "[I", true)
  | 7 => ("ProofBenchModel", "asVariable", "[I", true)
  | 8 => ("ProofBenchModel", "asFact", "[I", true)
  | 9 => ("ProofBenchModel", "sorts", "I", false)
  | 10 => ("ProofBenchModel", "sortName", "[I", true)
  | 11 => ("ProofBenchModel", "funs", "I", false)
  | 12 => ("ProofBenchModel", "funName", "[I", true)
  | 13 => ("ProofBenchModel", "funMany", "[I", true)
  | 14 => ("ProofBenchModel", "funParts", "[I", true)
  | 15 => ("ProofBenchModel", "funSort", "[I", true)
  | 16 => ("ProofBenchModel", "rels", "I", false)
  | 17 => ("ProofBenchModel", "relName", "[I", true)
  | 18 => ("ProofBenchModel", "relMany", "[I", true)
  | 19 => ("ProofBenchModel", "relParts", "[I", true)
  | 20 => ("ProofBenchModel", "variables", "I", false)
  | 21 => ("ProofBenchModel", "variableName", "[I", true)
  | 22 => ("ProofBenchModel", "variableSort", "[I", true)
  | 23 => ("ProofBenchModel", "nodes", "I", false)
  | 24 => ("ProofBenchModel", "kind", "[I", false)
  | 25 => ("ProofBenchModel", "id", "[I", false)
  | 26 => ("ProofBenchModel", "one", "[I", false)
  | 27 => ("ProofBenchModel", "two", "[I", false)
  | 28 => ("ProofBenchModel", "three", "[I", false)
  | 29 => ("ProofBenchModel", "oneBound", "[I", true)
  | 30 => ("ProofBenchModel", "otherBound", "[I", true)
  | 31 => ("ProofBenchModel", "tape", "[I", true)
  | 32 => ("ProofBenchModel", "taped", "I", false)
  | 33 => ("ProofBenchModel", "at", "I", false)
  | 34 => ("ProofBenchModel", "token", "I", false)
  | 35 => ("ProofBenchModel", "tokenAt", "I", false)
  | 36 => ("ProofBenchModel", "tokenLong", "I", false)
  | 37 => ("ProofBenchModel", "tokenValue", "I", false)
  | 38 => ("ProofBenchModel", "raws", "I", false)
  | 39 => ("ProofBenchModel", "rawSign", "[I", true)
  | 40 => ("ProofBenchModel", "rawAt", "[I", true)
  | 41 => ("ProofBenchModel", "rawLong", "[I", true)
  | 42 => ("ProofBenchModel", "rawValue", "[I", true)
  | 43 => ("ProofBenchModel", "rawFirst", "[I", true)
  | 44 => ("ProofBenchModel", "rawNext", "[I", true)
  | 45 => ("ProofBenchModel", "isWrong", "Z", false)
  | 46 => ("ProofBenchModel", "statement", "I", false)
  | 47 => ("ProofBenchModel", "patternAt", "I", false)
  | 48 => ("ProofBenchModel", "items", "I", false)
  | 49 => ("ProofBenchModel", "itemLetter", "[I", true)
  | 50 => ("ProofBenchModel", "itemAt", "[I", true)
  | 51 => ("ProofBenchModel", "itemLong", "[I", true)
  | 52 => ("ProofBenchModel", "itemValue", "[I", true)
  | 53 => ("ProofBenchModel", "listed", "I", false)
  | 54 => ("ProofBenchModel", "listAt", "[I", true)
  | 55 => ("ProofBenchModel", "listLong", "[I", true)
  | 56 => ("ProofBenchModel", "listValue", "[I", true)
  | 57 => ("ProofBenchModel", "rawNode", "[I", true)
  | 58 => ("ProofBenchModel", "rawSort", "[I", true)
  | 59 => ("ProofBenchModel", "rawPlaces", "[I", true)
  | 60 => ("ProofBenchModel", "rawDeep", "[I", true)
  | 61 => ("ProofBenchModel", "got", "[I", true)
  | 62 => ("ProofBenchModel", "listGot", "[I", true)
  | 63 => ("ProofBenchModel", "steps", "I", false)
  | 64 => ("ProofBenchModel", "shows", "[I", true)
  | 65 => ("ProofBenchModel", "hypothesisMany", "[I", true)
  | 66 => ("ProofBenchModel", "hypothesis", "[I", true)
  | 67 => ("ProofBenchModel", "leanOf", "[J", true)
  | 68 => ("ProofBenchModel", "isInductive", "[Z", true)
  | 69 => ("ProofBenchModel", "facts", "I", false)
  | 70 => ("ProofBenchModel", "factRow", "[I", true)
  | 71 => ("ProofBenchModel", "factLeans", "[J", true)
  | 72 => ("ProofBenchModel", "isInductiveFact", "[Z", true)
  | 73 => ("ProofBenchModel", "now", "[I", true)
  | 74 => ("ProofBenchModel", "nowMany", "I", false)
  | 75 => ("ProofBenchModel", "nowLeans", "J", false)
  | 76 => ("ProofBenchModel", "nowInductive", "Z", false)
  | 77 => ("ProofBenchModel", "made", "I", false)
  | 78 => ("ProofBenchModel", "letterOf", "[I", true)
  | 79 => ("ProofBenchModel", "letterCount", "I", false)
  | 80 => ("ProofBenchModel", "joints", "I", false)
  | 81 => ("ProofBenchModel", "written", "I", false)
  | 82 => ("ProofBenchModel", "size", "[I", true)
  | 83 => ("ProofBenchModel", "zero", "I", false)
  | 84 => ("ProofBenchModel", "valueOf", "[I", true)
  | 85 => ("ProofBenchModel", "isSo", "[Z", true)
  | 86 => ("ProofBenchModel", "thingOf", "[I", true)
  | 87 => ("ProofBenchModel", "out", "[I", true)
  | 88 => ("ProofBenchModel", "outs", "I", false)
  | 89 => ("ProofBenchModel", "text", "[I", true)
  | 90 => ("ProofBenchModel", "texts", "I", false)
  | 91 => ("ProofBenchModel", "told", "I", false)
  | 92 => ("ProofBenchModel", "wrongAt", "I", false)
  | _ => ("ProofBenchModel", "refused", "[I", true)
def tyX12 : Nat → FieldType := fun k => match k with
  | 0 => .int
  | 1 => .int
  | 2 => .array .int
  | 3 => .array .int
  | 4 => .array .int
  | 5 => .array .int
  | 6 => .array .int
  | 7 => .array .int
  | 8 => .array .int
  | 9 => .int
  | 10 => .array .int
  | 11 => .int
  | 12 => .array .int
  | 13 => .array .int
  | 14 => .array .int
  | 15 => .array .int
  | 16 => .int
  | 17 => .array .int
  | 18 => .array .int
  | 19 => .array .int
  | 20 => .int
  | 21 => .array .int
  | 22 => .array .int
  | 23 => .int
  | 24 => .array .int
  | 25 => .array .int
  | 26 => .array .int
  | 27 => .array .int
  | 28 => .array .int
  | 29 => .array .int
  | 30 => .array .int
  | 31 => .array .int
  | 32 => .int
  | 33 => .int
  | 34 => .int
  | 35 => .int
  | 36 => .int
  | 37 => .int
  | 38 => .int
  | 39 => .array .int
  | 40 => .array .int
  | 41 => .array .int
  | 42 => .array .int
  | 43 => .array .int
  | 44 => .array .int
  | 45 => .boolean
  | 46 => .int
  | 47 => .int
  | 48 => .int
  | 49 => .array .int
  | 50 => .array .int
  | 51 => .array .int
  | 52 => .array .int
  | 53 => .int
  | 54 => .array .int
  | 55 => .array .int
  | 56 => .array .int
  | 57 => .array .int
  | 58 => .array .int
  | 59 => .array .int
  | 60 => .array .int
  | 61 => .array .int
  | 62 => .array .int
  | 63 => .int
  | 64 => .array .int
  | 65 => .array .int
  | 66 => .array .int
  | 67 => .array .long
  | 68 => .array .boolean
  | 69 => .int
  | 70 => .array .int
  | 71 => .array .long
  | 72 => .array .boolean
  | 73 => .array .int
  | 74 => .int
  | 75 => .long
  | 76 => .boolean
  | 77 => .int
  | 78 => .array .int
  | 79 => .int
  | 80 => .int
  | 81 => .int
  | 82 => .array .int
  | 83 => .int
  | 84 => .array .int
  | 85 => .array .boolean
  | 86 => .array .int
  | 87 => .array .int
  | 88 => .int
  | 89 => .array .int
  | 90 => .int
  | 91 => .int
  | 92 => .int
  | _ => .array .int
abbrev wsX120 : List Cond := u_ws RX12 TX12 94
theorem nmX12 : ∀ a, a < 94 → ∀ b, b < 94 → a ≠ b → (TX12 a).2.1 ≠ (TX12 b).2.1 := by decide +kernel
theorem tyX12_ok : ∀ k, k < 94 → parseFieldDescriptor (TX12 k).2.2.1 = some (tyX12 k) := by decide +kernel
def RJ11 : String := "java/lang/Character"
def TJ11 : u_T := fun k => match k with
  | _ => ("", "", "", false)
def tyJ11 : Nat → FieldType := fun k => match k with
  | _ => .int
abbrev wsJ110 : List Cond := u_ws RJ11 TJ11 0
theorem nmJ11 : ∀ a, a < 0 → ∀ b, b < 0 → a ≠ b → (TJ11 a).2.1 ≠ (TJ11 b).2.1 := by decide +kernel
theorem tyJ11_ok : ∀ k, k < 0 → parseFieldDescriptor (TJ11 k).2.2.1 = some (tyJ11 k) := by decide +kernel
def RJ6 : String := "java/lang/Integer"
def TJ6 : u_T := fun k => match k with
  | _ => ("", "", "", false)
def tyJ6 : Nat → FieldType := fun k => match k with
  | _ => .int
abbrev wsJ60 : List Cond := u_ws RJ6 TJ6 0
theorem nmJ6 : ∀ a, a < 0 → ∀ b, b < 0 → a ≠ b → (TJ6 a).2.1 ≠ (TJ6 b).2.1 := by decide +kernel
theorem tyJ6_ok : ∀ k, k < 0 → parseFieldDescriptor (TJ6 k).2.2.1 = some (tyJ6 k) := by decide +kernel
def RJ9 : String := "java/lang/Math"
def TJ9 : u_T := fun k => match k with
  | _ => ("", "", "", false)
def tyJ9 : Nat → FieldType := fun k => match k with
  | _ => .int
abbrev wsJ90 : List Cond := u_ws RJ9 TJ9 0
theorem nmJ9 : ∀ a, a < 0 → ∀ b, b < 0 → a ≠ b → (TJ9 a).2.1 ≠ (TJ9 b).2.1 := by decide +kernel
theorem tyJ9_ok : ∀ k, k < 0 → parseFieldDescriptor (TJ9 k).2.2.1 = some (tyJ9 k) := by decide +kernel
def RJ0 : String := "java/lang/String"
def TJ0 : u_T := fun k => match k with
  | _ => ("", "", "", false)
def tyJ0 : Nat → FieldType := fun k => match k with
  | _ => .int
abbrev wsJ00 : List Cond := u_ws RJ0 TJ0 0
theorem nmJ0 : ∀ a, a < 0 → ∀ b, b < 0 → a ≠ b → (TJ0 a).2.1 ≠ (TJ0 b).2.1 := by decide +kernel
theorem tyJ0_ok : ∀ k, k < 0 → parseFieldDescriptor (TJ0 k).2.2.1 = some (tyJ0 k) := by decide +kernel
def RJ1 : String := "java/lang/StringLatin1"
def TJ1 : u_T := fun k => match k with
  | _ => ("", "", "", false)
def tyJ1 : Nat → FieldType := fun k => match k with
  | _ => .int
abbrev wsJ10 : List Cond := u_ws RJ1 TJ1 0
theorem nmJ1 : ∀ a, a < 0 → ∀ b, b < 0 → a ≠ b → (TJ1 a).2.1 ≠ (TJ1 b).2.1 := by decide +kernel
theorem tyJ1_ok : ∀ k, k < 0 → parseFieldDescriptor (TJ1 k).2.2.1 = some (tyJ1 k) := by decide +kernel
def RJ2 : String := "java/lang/StringUTF16"
def TJ2 : u_T := fun k => match k with
  | _ => ("", "", "", false)
def tyJ2 : Nat → FieldType := fun k => match k with
  | _ => .int
abbrev wsJ20 : List Cond := u_ws RJ2 TJ2 0
theorem nmJ2 : ∀ a, a < 0 → ∀ b, b < 0 → a ≠ b → (TJ2 a).2.1 ≠ (TJ2 b).2.1 := by decide +kernel
theorem tyJ2_ok : ∀ k, k < 0 → parseFieldDescriptor (TJ2 k).2.2.1 = some (tyJ2 k) := by decide +kernel
def RJ10 : String := "java/lang/System"
def TJ10 : u_T := fun k => match k with
  | _ => ("", "", "", false)
def tyJ10 : Nat → FieldType := fun k => match k with
  | _ => .int
abbrev wsJ100 : List Cond := u_ws RJ10 TJ10 0
theorem nmJ10 : ∀ a, a < 0 → ∀ b, b < 0 → a ≠ b → (TJ10 a).2.1 ≠ (TJ10 b).2.1 := by decide +kernel
theorem tyJ10_ok : ∀ k, k < 0 → parseFieldDescriptor (TJ10 k).2.2.1 = some (tyJ10 k) := by decide +kernel
def RJ7 : String := "java/util/Arrays"
def TJ7 : u_T := fun k => match k with
  | _ => ("", "", "", false)
def tyJ7 : Nat → FieldType := fun k => match k with
  | _ => .int
abbrev wsJ70 : List Cond := u_ws RJ7 TJ7 0
theorem nmJ7 : ∀ a, a < 0 → ∀ b, b < 0 → a ≠ b → (TJ7 a).2.1 ≠ (TJ7 b).2.1 := by decide +kernel
theorem tyJ7_ok : ∀ k, k < 0 → parseFieldDescriptor (TJ7 k).2.2.1 = some (tyJ7 k) := by decide +kernel
abbrev cJ7_fill_53178 : ByteArray := prog_23_method_103_code
def yJ7_fill_53178 : MethodName := ⟨RJ7, "fill", "([II)V"⟩
def RJ3 : String := "jdk/internal/util/Preconditions"
def TJ3 : u_T := fun k => match k with
  | _ => ("", "", "", false)
def tyJ3 : Nat → FieldType := fun k => match k with
  | _ => .int
abbrev wsJ30 : List Cond := u_ws RJ3 TJ3 0
theorem nmJ3 : ∀ a, a < 0 → ∀ b, b < 0 → a ≠ b → (TJ3 a).2.1 ≠ (TJ3 b).2.1 := by decide +kernel
theorem tyJ3_ok : ∀ k, k < 0 → parseFieldDescriptor (TJ3 k).2.2.1 = some (tyJ3 k) := by decide +kernel
def RL : String := "ProofBenchLaw"
def wsX0_init : List Cond := .code yX0_init cX0_init 2 none :: ([.methodLink RX0 3 objectInit, .instanceMethod objectInit, .code objectInit ⟨#[0xb1]⟩ 1 none, .arrayClass .int, .fieldLink RX0 9 "ProofBench$Forms" "codes" "[I", .fieldLink RX0 15 "ProofBench$Forms" "ends" "[I", .fieldLink RX0 18 "ProofBench$Forms" "frees" "[I", .fieldLink RX0 21 "ProofBench$Forms" "heights" "[I", .fieldLink RX0 24 "ProofBench$Forms" "lefts" "[I", .fieldLink RX0 27 "ProofBench$Forms" "rights" "[I", .fieldLink RX0 30 "ProofBench$Forms" "needs" "[I", .fieldLink RX0 33 "ProofBench$Forms" "names" "LProofBench$Names;"] ++ wsX00)
def wsX10_init : List Cond := .code yX10_init cX10_init 3 none :: ([.methodLink RX10 3 objectInit, .instanceMethod objectInit, .code objectInit ⟨#[0xb1]⟩ 1 none, .fieldLink RX10 9 "ProofBench$Thing" "codes" "[I", .fieldLink RX10 15 "ProofBench$Thing" "free" "I"] ++ wsX100)
def wsX6_init : List Cond := .code yX6_init cX6_init 2 none :: ([.methodLink RX6 1 objectInit, .instanceMethod objectInit, .code objectInit ⟨#[0xb1]⟩ 1 none, .arrayClass .int, .fieldLink RX6 7 "ProofBench$Row" "codes" "[I"] ++ wsX60)
def wsX1_init : List Cond := .code yX1_init cX1_init 4 none :: ([.methodLink RX1 3 objectInit, .instanceMethod objectInit, .code objectInit ⟨#[0xb1]⟩ 1 none, .classLink RX1 9 RX6, .instantiable RX6 2, .initialized RX6, .fieldLink RX1 14 "ProofBench$Look" "first" "LProofBench$Row;", .fieldLink RX1 20 "ProofBench$Look" "second" "LProofBench$Row;", .arrayClass .int, .fieldLink RX1 25 "ProofBench$Look" "values" "[I", .fieldLink RX1 29 "ProofBench$Look" "row" "[I", .fieldLink RX1 32 "ProofBench$Look" "tape" "LProofBench$Tape;", .fieldLink RX1 36 "ProofBench$Look" "names" "LProofBench$Names;", .fieldLink RX1 40 "ProofBench$Look" "model" "LProofBench$Model;", .fieldLink RX1 44 "ProofBench$Look" "into" "LProofBench$Row;", .methodLink RX1 11 yX6_init, .instanceMethod yX6_init, .code yX6_init cX6_init 2 none, .methodLink RX6 1 objectInit, .fieldLink RX6 7 "ProofBench$Row" "codes" "[I"] ++ wsX60 ++ wsX10)
def wsJ7_fill_53178 : List Cond := .code yJ7_fill_53178 cJ7_fill_53178 4 none :: ([])
def wsX2_init : List Cond := .code yX2_init cX2_init 3 none :: ([.methodLink RX2 3 objectInit, .instanceMethod objectInit, .code objectInit ⟨#[0xb1]⟩ 1 none, .arrayClass .int, .fieldLink RX2 9 "ProofBench$Model" "sizes" "[I", .fieldLink RX2 15 "ProofBench$Model" "tables" "[I", .fieldLink RX2 18 "ProofBench$Model" "things" "[I", .fieldLink RX2 21 "ProofBench$Model" "names" "LProofBench$Names;", .fieldLink RX2 25 "ProofBench$Model" "forms" "LProofBench$Forms;", .methodLink RX2 29 yJ7_fill_53178, .static yJ7_fill_53178, .initialized RJ7, .code yJ7_fill_53178 cJ7_fill_53178 4 none] ++ wsX20)
def wsX4_init : List Cond := .code yX4_init cX4_init 2 none :: ([.methodLink RX4 3 objectInit, .instanceMethod objectInit, .code objectInit ⟨#[0xb1]⟩ 1 none, .arrayClass .int, .fieldLink RX4 11 "ProofBench$Out" "numbers" "[I", .fieldLink RX4 15 "ProofBench$Out" "lefts" "[I", .fieldLink RX4 20 "ProofBench$Out" "turned" "[I", .fieldLink RX4 23 "ProofBench$Out" "names" "LProofBench$Names;"] ++ wsX40)
def wsX7_init : List Cond := .code yX7_init cX7_init 3 none :: ([.methodLink RX7 3 objectInit, .instanceMethod objectInit, .code objectInit ⟨#[0xb1]⟩ 1 none, .classLink RX7 11 RX6, .fieldLink RX7 13 "ProofBench$Search" "letters" "[LProofBench$Row;", .fieldLink RX7 17 "ProofBench$Search" "forms" "LProofBench$Forms;", .instantiable RX6 2, .initialized RX6, .methodLink RX7 21 yX6_init, .instanceMethod yX6_init, .code yX6_init cX6_init 2 none, .methodLink RX6 1 objectInit, .arrayClass .int, .fieldLink RX6 7 "ProofBench$Row" "codes" "[I"] ++ wsX70 ++ wsX60)
def wsX8_init : List Cond := .code yX8_init cX8_init 6 none :: ([.methodLink RX8 1 objectInit, .instanceMethod objectInit, .code objectInit ⟨#[0xb1]⟩ 1 none, .fieldLink RX8 7 "ProofBench$Step" "shows" "LProofBench$Thing;", .fieldLink RX8 13 "ProofBench$Step" "from" "[LProofBench$Thing;", .fieldLink RX8 17 "ProofBench$Step" "leaning" "J", .fieldLink RX8 21 "ProofBench$Step" "induced" "Z"] ++ wsX80)
def wsX5_init_r1 : List Cond := [Cond.methodLink RX5 3 objectInit, Cond.instanceMethod objectInit, Cond.code objectInit ⟨#[0xb1]⟩ 1 none, Cond.classLink RX5 9 RX8, Cond.fieldLink RX5 11 "ProofBench$Proof" "steps" "[LProofBench$Step;", Cond.fieldLink RX5 17 "ProofBench$Proof" "facts" "[LProofBench$Step;", Cond.fieldLink RX5 22 "ProofBench$Proof" "named" "[LProofBench$Step;", Cond.classLink RX5 25 RX6, Cond.instantiable RX6 2, Cond.initialized RX6, Cond.fieldLink RX5 30 "ProofBench$Proof" "made" "LProofBench$Row;", Cond.fieldLink RX5 34 "ProofBench$Proof" "other" "LProofBench$Row;", Cond.classLink RX5 37 RX10, Cond.fieldLink RX5 39 "ProofBench$Proof" "kept" "[LProofBench$Thing;", Cond.fieldLink RX5 43 "ProofBench$Proof" "names" "LProofBench$Names;", Cond.fieldLink RX5 47 "ProofBench$Proof" "forms" "LProofBench$Forms;", Cond.fieldLink RX5 51 "ProofBench$Proof" "look" "LProofBench$Look;", Cond.classLink RX5 55 RX7, Cond.instantiable RX7 6, Cond.initialized RX7, Cond.fieldLink RX5 60 "ProofBench$Proof" "search" "LProofBench$Search;", Cond.instantiable RX8 4, Cond.initialized RX8, Cond.instantiable RX10 2]
def wsX5_init_r2 : List Cond := [Cond.initialized RX10, Cond.arrayClass .int, Cond.fieldLink RX5 70 "ProofBench$Proof" "nothing" "LProofBench$Step;", Cond.fieldLink RX5 74 "ProofBench$Step" "shows" "LProofBench$Thing;", Cond.methodLink RX5 27 yX6_init, Cond.instanceMethod yX6_init, Cond.code yX6_init cX6_init 2 none, Cond.methodLink RX6 1 objectInit, Cond.fieldLink RX6 7 "ProofBench$Row" "codes" "[I", Cond.methodLink RX5 57 yX7_init, Cond.instanceMethod yX7_init, Cond.code yX7_init cX7_init 3 none, Cond.methodLink RX7 3 objectInit, Cond.classLink RX7 11 RX6, Cond.fieldLink RX7 13 "ProofBench$Search" "letters" "[LProofBench$Row;", Cond.fieldLink RX7 17 "ProofBench$Search" "forms" "LProofBench$Forms;", Cond.methodLink RX7 21 yX6_init, Cond.methodLink RX5 64 yX10_init, Cond.instanceMethod yX10_init, Cond.code yX10_init cX10_init 3 none, Cond.methodLink RX10 3 objectInit, Cond.fieldLink RX10 9 "ProofBench$Thing" "codes" "[I", Cond.fieldLink RX10 15 "ProofBench$Thing" "free" "I", Cond.methodLink RX5 67 yX8_init]
def wsX5_init_r3 : List Cond := [Cond.instanceMethod yX8_init, Cond.code yX8_init cX8_init 6 none, Cond.methodLink RX8 1 objectInit, Cond.fieldLink RX8 7 "ProofBench$Step" "shows" "LProofBench$Thing;", Cond.fieldLink RX8 13 "ProofBench$Step" "from" "[LProofBench$Thing;", Cond.fieldLink RX8 17 "ProofBench$Step" "leaning" "J", Cond.fieldLink RX8 21 "ProofBench$Step" "induced" "Z"]
def wsX5_init : List Cond := .code yX5_init cX5_init 5 none :: ((wsX5_init_r1 ++ (wsX5_init_r2 ++ wsX5_init_r3)) ++ wsX50 ++ wsX60 ++ wsX70 ++ wsX80 ++ wsX100)
theorem dX0_init_0 : decode cX0_init 0 = .ok (.aload_n 0, 1) := by decide +kernel
theorem dX0_init_1 : decode cX0_init 1 = .ok (.invokespecial 3, 3) := by decide +kernel
theorem dX0_init_4 : decode cX0_init 4 = .ok (.aload_n 0, 1) := by decide +kernel
theorem dX0_init_5 : decode cX0_init 5 = .ok (.sipush 400, 3) := by decide +kernel
theorem dX0_init_8 : decode cX0_init 8 = .ok (.newarray .int, 2) := by decide +kernel
theorem dX0_init_10 : decode cX0_init 10 = .ok (.putfield 9, 3) := by decide +kernel
theorem dX0_init_13 : decode cX0_init 13 = .ok (.aload_n 0, 1) := by decide +kernel
theorem dX0_init_14 : decode cX0_init 14 = .ok (.sipush 400, 3) := by decide +kernel
theorem dX0_init_17 : decode cX0_init 17 = .ok (.newarray .int, 2) := by decide +kernel
theorem dX0_init_19 : decode cX0_init 19 = .ok (.putfield 15, 3) := by decide +kernel
theorem dX0_init_22 : decode cX0_init 22 = .ok (.aload_n 0, 1) := by decide +kernel
theorem dX0_init_23 : decode cX0_init 23 = .ok (.sipush 400, 3) := by decide +kernel
theorem dX0_init_26 : decode cX0_init 26 = .ok (.newarray .int, 2) := by decide +kernel
theorem dX0_init_28 : decode cX0_init 28 = .ok (.putfield 18, 3) := by decide +kernel
theorem dX0_init_31 : decode cX0_init 31 = .ok (.aload_n 0, 1) := by decide +kernel
theorem dX0_init_32 : decode cX0_init 32 = .ok (.sipush 403, 3) := by decide +kernel
theorem dX0_init_35 : decode cX0_init 35 = .ok (.newarray .int, 2) := by decide +kernel
theorem dX0_init_37 : decode cX0_init 37 = .ok (.putfield 21, 3) := by decide +kernel
theorem dX0_init_40 : decode cX0_init 40 = .ok (.aload_n 0, 1) := by decide +kernel
theorem dX0_init_41 : decode cX0_init 41 = .ok (.bipush 40, 2) := by decide +kernel
theorem dX0_init_43 : decode cX0_init 43 = .ok (.newarray .int, 2) := by decide +kernel
theorem dX0_init_45 : decode cX0_init 45 = .ok (.putfield 24, 3) := by decide +kernel
theorem dX0_init_48 : decode cX0_init 48 = .ok (.aload_n 0, 1) := by decide +kernel
theorem dX0_init_49 : decode cX0_init 49 = .ok (.bipush 40, 2) := by decide +kernel
theorem dX0_init_51 : decode cX0_init 51 = .ok (.newarray .int, 2) := by decide +kernel
theorem dX0_init_53 : decode cX0_init 53 = .ok (.putfield 27, 3) := by decide +kernel
theorem dX0_init_56 : decode cX0_init 56 = .ok (.aload_n 0, 1) := by decide +kernel
theorem dX0_init_57 : decode cX0_init 57 = .ok (.bipush 40, 2) := by decide +kernel
theorem dX0_init_59 : decode cX0_init 59 = .ok (.newarray .int, 2) := by decide +kernel
theorem dX0_init_61 : decode cX0_init 61 = .ok (.putfield 30, 3) := by decide +kernel
theorem dX0_init_64 : decode cX0_init 64 = .ok (.aload_n 0, 1) := by decide +kernel
theorem dX0_init_65 : decode cX0_init 65 = .ok (.aload_n 1, 1) := by decide +kernel
theorem dX0_init_66 : decode cX0_init 66 = .ok (.putfield 33, 3) := by decide +kernel
theorem dX0_init_69 : decode cX0_init 69 = .ok (.return_, 1) := by decide +kernel
theorem dX1_init_0 : decode cX1_init 0 = .ok (.aload_n 0, 1) := by decide +kernel
theorem dX1_init_1 : decode cX1_init 1 = .ok (.invokespecial 3, 3) := by decide +kernel
theorem dX1_init_4 : decode cX1_init 4 = .ok (.aload_n 0, 1) := by decide +kernel
theorem dX1_init_5 : decode cX1_init 5 = .ok (.new 9, 3) := by decide +kernel
theorem dX1_init_8 : decode cX1_init 8 = .ok (.dup, 1) := by decide +kernel
theorem dX1_init_9 : decode cX1_init 9 = .ok (.sipush 400, 3) := by decide +kernel
theorem dX1_init_12 : decode cX1_init 12 = .ok (.invokespecial 11, 3) := by decide +kernel
theorem dX1_init_15 : decode cX1_init 15 = .ok (.putfield 14, 3) := by decide +kernel
theorem dX1_init_18 : decode cX1_init 18 = .ok (.aload_n 0, 1) := by decide +kernel
theorem dX1_init_19 : decode cX1_init 19 = .ok (.new 9, 3) := by decide +kernel
theorem dX1_init_22 : decode cX1_init 22 = .ok (.dup, 1) := by decide +kernel
theorem dX1_init_23 : decode cX1_init 23 = .ok (.sipush 400, 3) := by decide +kernel
theorem dX1_init_26 : decode cX1_init 26 = .ok (.invokespecial 11, 3) := by decide +kernel
theorem dX1_init_29 : decode cX1_init 29 = .ok (.putfield 20, 3) := by decide +kernel
theorem dX1_init_32 : decode cX1_init 32 = .ok (.aload_n 0, 1) := by decide +kernel
theorem dX1_init_33 : decode cX1_init 33 = .ok (.iconst 4, 1) := by decide +kernel
theorem dX1_init_34 : decode cX1_init 34 = .ok (.newarray .int, 2) := by decide +kernel
theorem dX1_init_36 : decode cX1_init 36 = .ok (.putfield 25, 3) := by decide +kernel
theorem dX1_init_39 : decode cX1_init 39 = .ok (.aload_n 0, 1) := by decide +kernel
theorem dX1_init_40 : decode cX1_init 40 = .ok (.iconst 3, 1) := by decide +kernel
theorem dX1_init_41 : decode cX1_init 41 = .ok (.newarray .int, 2) := by decide +kernel
theorem dX1_init_43 : decode cX1_init 43 = .ok (.putfield 29, 3) := by decide +kernel
theorem dX1_init_46 : decode cX1_init 46 = .ok (.aload_n 0, 1) := by decide +kernel
theorem dX1_init_47 : decode cX1_init 47 = .ok (.aload_n 1, 1) := by decide +kernel
theorem dX1_init_48 : decode cX1_init 48 = .ok (.putfield 32, 3) := by decide +kernel
theorem dX1_init_51 : decode cX1_init 51 = .ok (.aload_n 0, 1) := by decide +kernel
theorem dX1_init_52 : decode cX1_init 52 = .ok (.aload_n 2, 1) := by decide +kernel
theorem dX1_init_53 : decode cX1_init 53 = .ok (.putfield 36, 3) := by decide +kernel
theorem dX1_init_56 : decode cX1_init 56 = .ok (.aload_n 0, 1) := by decide +kernel
theorem dX1_init_57 : decode cX1_init 57 = .ok (.aload_n 3, 1) := by decide +kernel
theorem dX1_init_58 : decode cX1_init 58 = .ok (.putfield 40, 3) := by decide +kernel
theorem dX1_init_61 : decode cX1_init 61 = .ok (.aload_n 0, 1) := by decide +kernel
theorem dX1_init_62 : decode cX1_init 62 = .ok (.aload_n 0, 1) := by decide +kernel
theorem dX1_init_63 : decode cX1_init 63 = .ok (.getfield 14, 3) := by decide +kernel
theorem dX1_init_66 : decode cX1_init 66 = .ok (.putfield 44, 3) := by decide +kernel
theorem dX1_init_69 : decode cX1_init 69 = .ok (.return_, 1) := by decide +kernel
theorem dX2_init_0 : decode cX2_init 0 = .ok (.aload_n 0, 1) := by decide +kernel
theorem dX2_init_1 : decode cX2_init 1 = .ok (.invokespecial 3, 3) := by decide +kernel
theorem dX2_init_4 : decode cX2_init 4 = .ok (.aload_n 0, 1) := by decide +kernel
theorem dX2_init_5 : decode cX2_init 5 = .ok (.bipush 6, 2) := by decide +kernel
theorem dX2_init_7 : decode cX2_init 7 = .ok (.newarray .int, 2) := by decide +kernel
theorem dX2_init_9 : decode cX2_init 9 = .ok (.putfield 9, 3) := by decide +kernel
theorem dX2_init_12 : decode cX2_init 12 = .ok (.aload_n 0, 1) := by decide +kernel
theorem dX2_init_13 : decode cX2_init 13 = .ok (.sipush 2560, 3) := by decide +kernel
theorem dX2_init_16 : decode cX2_init 16 = .ok (.newarray .int, 2) := by decide +kernel
theorem dX2_init_18 : decode cX2_init 18 = .ok (.putfield 15, 3) := by decide +kernel
theorem dX2_init_21 : decode cX2_init 21 = .ok (.aload_n 0, 1) := by decide +kernel
theorem dX2_init_22 : decode cX2_init 22 = .ok (.bipush 30, 2) := by decide +kernel
theorem dX2_init_24 : decode cX2_init 24 = .ok (.newarray .int, 2) := by decide +kernel
theorem dX2_init_26 : decode cX2_init 26 = .ok (.putfield 18, 3) := by decide +kernel
theorem dX2_init_29 : decode cX2_init 29 = .ok (.aload_n 0, 1) := by decide +kernel
theorem dX2_init_30 : decode cX2_init 30 = .ok (.aload_n 1, 1) := by decide +kernel
theorem dX2_init_31 : decode cX2_init 31 = .ok (.putfield 21, 3) := by decide +kernel
theorem dX2_init_34 : decode cX2_init 34 = .ok (.aload_n 0, 1) := by decide +kernel
theorem dX2_init_35 : decode cX2_init 35 = .ok (.aload_n 2, 1) := by decide +kernel
theorem dX2_init_36 : decode cX2_init 36 = .ok (.putfield 25, 3) := by decide +kernel
theorem dX2_init_39 : decode cX2_init 39 = .ok (.aload_n 0, 1) := by decide +kernel
theorem dX2_init_40 : decode cX2_init 40 = .ok (.getfield 9, 3) := by decide +kernel
theorem dX2_init_43 : decode cX2_init 43 = .ok (.iconst 1, 1) := by decide +kernel
theorem dX2_init_44 : decode cX2_init 44 = .ok (.invokestatic 29, 3) := by decide +kernel
theorem dX2_init_47 : decode cX2_init 47 = .ok (.return_, 1) := by decide +kernel
theorem dX4_init_0 : decode cX4_init 0 = .ok (.aload_n 0, 1) := by decide +kernel
theorem dX4_init_1 : decode cX4_init 1 = .ok (.invokespecial 3, 3) := by decide +kernel
theorem dX4_init_4 : decode cX4_init 4 = .ok (.aload_n 0, 1) := by decide +kernel
theorem dX4_init_5 : decode cX4_init 5 = .ok (.sipush 20000, 3) := by decide +kernel
theorem dX4_init_8 : decode cX4_init 8 = .ok (.newarray .int, 2) := by decide +kernel
theorem dX4_init_10 : decode cX4_init 10 = .ok (.putfield 11, 3) := by decide +kernel
theorem dX4_init_13 : decode cX4_init 13 = .ok (.aload_n 0, 1) := by decide +kernel
theorem dX4_init_14 : decode cX4_init 14 = .ok (.bipush 40, 2) := by decide +kernel
theorem dX4_init_16 : decode cX4_init 16 = .ok (.newarray .int, 2) := by decide +kernel
theorem dX4_init_18 : decode cX4_init 18 = .ok (.putfield 15, 3) := by decide +kernel
theorem dX4_init_21 : decode cX4_init 21 = .ok (.aload_n 0, 1) := by decide +kernel
theorem dX4_init_22 : decode cX4_init 22 = .ok (.bipush 12, 2) := by decide +kernel
theorem dX4_init_24 : decode cX4_init 24 = .ok (.newarray .int, 2) := by decide +kernel
theorem dX4_init_26 : decode cX4_init 26 = .ok (.putfield 20, 3) := by decide +kernel
theorem dX4_init_29 : decode cX4_init 29 = .ok (.aload_n 0, 1) := by decide +kernel
theorem dX4_init_30 : decode cX4_init 30 = .ok (.aload_n 1, 1) := by decide +kernel
theorem dX4_init_31 : decode cX4_init 31 = .ok (.putfield 23, 3) := by decide +kernel
theorem dX4_init_34 : decode cX4_init 34 = .ok (.return_, 1) := by decide +kernel
theorem dX5_init_0 : decode cX5_init 0 = .ok (.aload_n 0, 1) := by decide +kernel
theorem dX5_init_1 : decode cX5_init 1 = .ok (.invokespecial 3, 3) := by decide +kernel
theorem dX5_init_4 : decode cX5_init 4 = .ok (.aload_n 0, 1) := by decide +kernel
theorem dX5_init_5 : decode cX5_init 5 = .ok (.sipush 300, 3) := by decide +kernel
theorem dX5_init_8 : decode cX5_init 8 = .ok (.anewarray 9, 3) := by decide +kernel
theorem dX5_init_11 : decode cX5_init 11 = .ok (.putfield 11, 3) := by decide +kernel
theorem dX5_init_14 : decode cX5_init 14 = .ok (.aload_n 0, 1) := by decide +kernel
theorem dX5_init_15 : decode cX5_init 15 = .ok (.bipush 40, 2) := by decide +kernel
theorem dX5_init_17 : decode cX5_init 17 = .ok (.anewarray 9, 3) := by decide +kernel
theorem dX5_init_20 : decode cX5_init 20 = .ok (.putfield 17, 3) := by decide +kernel
theorem dX5_init_23 : decode cX5_init 23 = .ok (.aload_n 0, 1) := by decide +kernel
theorem dX5_init_24 : decode cX5_init 24 = .ok (.iconst 4, 1) := by decide +kernel
theorem dX5_init_25 : decode cX5_init 25 = .ok (.anewarray 9, 3) := by decide +kernel
theorem dX5_init_28 : decode cX5_init 28 = .ok (.putfield 22, 3) := by decide +kernel
theorem dX5_init_31 : decode cX5_init 31 = .ok (.aload_n 0, 1) := by decide +kernel
theorem dX5_init_32 : decode cX5_init 32 = .ok (.new 25, 3) := by decide +kernel
theorem dX5_init_35 : decode cX5_init 35 = .ok (.dup, 1) := by decide +kernel
theorem dX5_init_36 : decode cX5_init 36 = .ok (.sipush 1210, 3) := by decide +kernel
theorem dX5_init_39 : decode cX5_init 39 = .ok (.invokespecial 27, 3) := by decide +kernel
theorem dX5_init_42 : decode cX5_init 42 = .ok (.putfield 30, 3) := by decide +kernel
theorem dX5_init_45 : decode cX5_init 45 = .ok (.aload_n 0, 1) := by decide +kernel
theorem dX5_init_46 : decode cX5_init 46 = .ok (.new 25, 3) := by decide +kernel
theorem dX5_init_49 : decode cX5_init 49 = .ok (.dup, 1) := by decide +kernel
theorem dX5_init_50 : decode cX5_init 50 = .ok (.sipush 1210, 3) := by decide +kernel
theorem dX5_init_53 : decode cX5_init 53 = .ok (.invokespecial 27, 3) := by decide +kernel
theorem dX5_init_56 : decode cX5_init 56 = .ok (.putfield 34, 3) := by decide +kernel
theorem dX5_init_59 : decode cX5_init 59 = .ok (.aload_n 0, 1) := by decide +kernel
theorem dX5_init_60 : decode cX5_init 60 = .ok (.bipush 20, 2) := by decide +kernel
theorem dX5_init_62 : decode cX5_init 62 = .ok (.anewarray 37, 3) := by decide +kernel
theorem dX5_init_65 : decode cX5_init 65 = .ok (.putfield 39, 3) := by decide +kernel
theorem dX5_init_68 : decode cX5_init 68 = .ok (.aload_n 0, 1) := by decide +kernel
theorem dX5_init_69 : decode cX5_init 69 = .ok (.aload_n 1, 1) := by decide +kernel
theorem dX5_init_70 : decode cX5_init 70 = .ok (.putfield 43, 3) := by decide +kernel
theorem dX5_init_73 : decode cX5_init 73 = .ok (.aload_n 0, 1) := by decide +kernel
theorem dX5_init_74 : decode cX5_init 74 = .ok (.aload_n 2, 1) := by decide +kernel
theorem dX5_init_75 : decode cX5_init 75 = .ok (.putfield 47, 3) := by decide +kernel
theorem dX5_init_78 : decode cX5_init 78 = .ok (.aload_n 0, 1) := by decide +kernel
theorem dX5_init_79 : decode cX5_init 79 = .ok (.aload_n 3, 1) := by decide +kernel
theorem dX5_init_80 : decode cX5_init 80 = .ok (.putfield 51, 3) := by decide +kernel
theorem dX5_init_83 : decode cX5_init 83 = .ok (.aload_n 0, 1) := by decide +kernel
theorem dX5_init_84 : decode cX5_init 84 = .ok (.new 55, 3) := by decide +kernel
theorem dX5_init_87 : decode cX5_init 87 = .ok (.dup, 1) := by decide +kernel
theorem dX5_init_88 : decode cX5_init 88 = .ok (.aload_n 2, 1) := by decide +kernel
theorem dX5_init_89 : decode cX5_init 89 = .ok (.invokespecial 57, 3) := by decide +kernel
theorem dX5_init_92 : decode cX5_init 92 = .ok (.putfield 60, 3) := by decide +kernel
theorem dX5_init_95 : decode cX5_init 95 = .ok (.aload_n 0, 1) := by decide +kernel
theorem dX5_init_96 : decode cX5_init 96 = .ok (.new 9, 3) := by decide +kernel
theorem dX5_init_99 : decode cX5_init 99 = .ok (.dup, 1) := by decide +kernel
theorem dX5_init_100 : decode cX5_init 100 = .ok (.new 37, 3) := by decide +kernel
theorem dX5_init_103 : decode cX5_init 103 = .ok (.dup, 1) := by decide +kernel
theorem dX5_init_104 : decode cX5_init 104 = .ok (.iconst 1, 1) := by decide +kernel
theorem dX5_init_105 : decode cX5_init 105 = .ok (.newarray .int, 2) := by decide +kernel
theorem dX5_init_107 : decode cX5_init 107 = .ok (.iconst 0, 1) := by decide +kernel
theorem dX5_init_108 : decode cX5_init 108 = .ok (.invokespecial 64, 3) := by decide +kernel
theorem dX5_init_111 : decode cX5_init 111 = .ok (.iconst 0, 1) := by decide +kernel
theorem dX5_init_112 : decode cX5_init 112 = .ok (.anewarray 37, 3) := by decide +kernel
theorem dX5_init_115 : decode cX5_init 115 = .ok (.lconst 0, 1) := by decide +kernel
theorem dX5_init_116 : decode cX5_init 116 = .ok (.iconst 0, 1) := by decide +kernel
theorem dX5_init_117 : decode cX5_init 117 = .ok (.invokespecial 67, 3) := by decide +kernel
theorem dX5_init_120 : decode cX5_init 120 = .ok (.putfield 70, 3) := by decide +kernel
theorem dX5_init_123 : decode cX5_init 123 = .ok (.iconst 0, 1) := by decide +kernel
theorem dX5_init_124 : decode cX5_init 124 = .ok (.istore 4, 2) := by decide +kernel
theorem dX5_init_126 : decode cX5_init 126 = .ok (.iload 4, 2) := by decide +kernel
theorem dX5_init_128 : decode cX5_init 128 = .ok (.aload_n 0, 1) := by decide +kernel
theorem dX5_init_129 : decode cX5_init 129 = .ok (.getfield 22, 3) := by decide +kernel
theorem dX5_init_132 : decode cX5_init 132 = .ok (.arraylength, 1) := by decide +kernel
theorem dX5_init_133 : decode cX5_init 133 = .ok (.if_icmp .ge 20, 3) := by decide +kernel
theorem dX5_init_136 : decode cX5_init 136 = .ok (.aload_n 0, 1) := by decide +kernel
theorem dX5_init_137 : decode cX5_init 137 = .ok (.getfield 22, 3) := by decide +kernel
theorem dX5_init_140 : decode cX5_init 140 = .ok (.iload 4, 2) := by decide +kernel
theorem dX5_init_142 : decode cX5_init 142 = .ok (.aload_n 0, 1) := by decide +kernel
theorem dX5_init_143 : decode cX5_init 143 = .ok (.getfield 70, 3) := by decide +kernel
theorem dX5_init_146 : decode cX5_init 146 = .ok (.aastore, 1) := by decide +kernel
theorem dX5_init_147 : decode cX5_init 147 = .ok (.iinc 4 1, 3) := by decide +kernel
theorem dX5_init_150 : decode cX5_init 150 = .ok (.goto (-24), 3) := by decide +kernel
theorem dX5_init_153 : decode cX5_init 153 = .ok (.iconst 0, 1) := by decide +kernel
theorem dX5_init_154 : decode cX5_init 154 = .ok (.istore 4, 2) := by decide +kernel
theorem dX5_init_156 : decode cX5_init 156 = .ok (.iload 4, 2) := by decide +kernel
theorem dX5_init_158 : decode cX5_init 158 = .ok (.aload_n 0, 1) := by decide +kernel
theorem dX5_init_159 : decode cX5_init 159 = .ok (.getfield 39, 3) := by decide +kernel
theorem dX5_init_162 : decode cX5_init 162 = .ok (.arraylength, 1) := by decide +kernel
theorem dX5_init_163 : decode cX5_init 163 = .ok (.if_icmp .ge 23, 3) := by decide +kernel
theorem dX5_init_166 : decode cX5_init 166 = .ok (.aload_n 0, 1) := by decide +kernel
theorem dX5_init_167 : decode cX5_init 167 = .ok (.getfield 39, 3) := by decide +kernel
theorem dX5_init_170 : decode cX5_init 170 = .ok (.iload 4, 2) := by decide +kernel
theorem dX5_init_172 : decode cX5_init 172 = .ok (.aload_n 0, 1) := by decide +kernel
theorem dX5_init_173 : decode cX5_init 173 = .ok (.getfield 70, 3) := by decide +kernel
theorem dX5_init_176 : decode cX5_init 176 = .ok (.getfield 74, 3) := by decide +kernel
theorem dX5_init_179 : decode cX5_init 179 = .ok (.aastore, 1) := by decide +kernel
theorem dX5_init_180 : decode cX5_init 180 = .ok (.iinc 4 1, 3) := by decide +kernel
theorem dX5_init_183 : decode cX5_init 183 = .ok (.goto (-27), 3) := by decide +kernel
theorem dX5_init_186 : decode cX5_init 186 = .ok (.return_, 1) := by decide +kernel
theorem dX6_init_0 : decode cX6_init 0 = .ok (.aload_n 0, 1) := by decide +kernel
theorem dX6_init_1 : decode cX6_init 1 = .ok (.invokespecial 1, 3) := by decide +kernel
theorem dX6_init_4 : decode cX6_init 4 = .ok (.aload_n 0, 1) := by decide +kernel
theorem dX6_init_5 : decode cX6_init 5 = .ok (.iload_n 1, 1) := by decide +kernel
theorem dX6_init_6 : decode cX6_init 6 = .ok (.newarray .int, 2) := by decide +kernel
theorem dX6_init_8 : decode cX6_init 8 = .ok (.putfield 7, 3) := by decide +kernel
theorem dX6_init_11 : decode cX6_init 11 = .ok (.return_, 1) := by decide +kernel
theorem dX7_init_0 : decode cX7_init 0 = .ok (.aload_n 0, 1) := by decide +kernel
theorem dX7_init_1 : decode cX7_init 1 = .ok (.invokespecial 3, 3) := by decide +kernel
theorem dX7_init_4 : decode cX7_init 4 = .ok (.aload_n 0, 1) := by decide +kernel
theorem dX7_init_5 : decode cX7_init 5 = .ok (.iconst 4, 1) := by decide +kernel
theorem dX7_init_6 : decode cX7_init 6 = .ok (.anewarray 11, 3) := by decide +kernel
theorem dX7_init_9 : decode cX7_init 9 = .ok (.putfield 13, 3) := by decide +kernel
theorem dX7_init_12 : decode cX7_init 12 = .ok (.aload_n 0, 1) := by decide +kernel
theorem dX7_init_13 : decode cX7_init 13 = .ok (.aload_n 1, 1) := by decide +kernel
theorem dX7_init_14 : decode cX7_init 14 = .ok (.putfield 17, 3) := by decide +kernel
theorem dX7_init_17 : decode cX7_init 17 = .ok (.iconst 0, 1) := by decide +kernel
theorem dX7_init_18 : decode cX7_init 18 = .ok (.istore_n 2, 1) := by decide +kernel
theorem dX7_init_19 : decode cX7_init 19 = .ok (.iload_n 2, 1) := by decide +kernel
theorem dX7_init_20 : decode cX7_init 20 = .ok (.iconst 4, 1) := by decide +kernel
theorem dX7_init_21 : decode cX7_init 21 = .ok (.if_icmp .ge 25, 3) := by decide +kernel
theorem dX7_init_24 : decode cX7_init 24 = .ok (.aload_n 0, 1) := by decide +kernel
theorem dX7_init_25 : decode cX7_init 25 = .ok (.getfield 13, 3) := by decide +kernel
theorem dX7_init_28 : decode cX7_init 28 = .ok (.iload_n 2, 1) := by decide +kernel
theorem dX7_init_29 : decode cX7_init 29 = .ok (.new 11, 3) := by decide +kernel
theorem dX7_init_32 : decode cX7_init 32 = .ok (.dup, 1) := by decide +kernel
theorem dX7_init_33 : decode cX7_init 33 = .ok (.sipush 400, 3) := by decide +kernel
theorem dX7_init_36 : decode cX7_init 36 = .ok (.invokespecial 21, 3) := by decide +kernel
theorem dX7_init_39 : decode cX7_init 39 = .ok (.aastore, 1) := by decide +kernel
theorem dX7_init_40 : decode cX7_init 40 = .ok (.iinc 2 1, 3) := by decide +kernel
theorem dX7_init_43 : decode cX7_init 43 = .ok (.goto (-24), 3) := by decide +kernel
theorem dX7_init_46 : decode cX7_init 46 = .ok (.return_, 1) := by decide +kernel
theorem dX8_init_0 : decode cX8_init 0 = .ok (.aload_n 0, 1) := by decide +kernel
theorem dX8_init_1 : decode cX8_init 1 = .ok (.invokespecial 1, 3) := by decide +kernel
theorem dX8_init_4 : decode cX8_init 4 = .ok (.aload_n 0, 1) := by decide +kernel
theorem dX8_init_5 : decode cX8_init 5 = .ok (.aload_n 1, 1) := by decide +kernel
theorem dX8_init_6 : decode cX8_init 6 = .ok (.putfield 7, 3) := by decide +kernel
theorem dX8_init_9 : decode cX8_init 9 = .ok (.aload_n 0, 1) := by decide +kernel
theorem dX8_init_10 : decode cX8_init 10 = .ok (.aload_n 2, 1) := by decide +kernel
theorem dX8_init_11 : decode cX8_init 11 = .ok (.putfield 13, 3) := by decide +kernel
theorem dX8_init_14 : decode cX8_init 14 = .ok (.aload_n 0, 1) := by decide +kernel
theorem dX8_init_15 : decode cX8_init 15 = .ok (.lload_n 3, 1) := by decide +kernel
theorem dX8_init_16 : decode cX8_init 16 = .ok (.putfield 17, 3) := by decide +kernel
theorem dX8_init_19 : decode cX8_init 19 = .ok (.aload_n 0, 1) := by decide +kernel
theorem dX8_init_20 : decode cX8_init 20 = .ok (.iload 5, 2) := by decide +kernel
theorem dX8_init_22 : decode cX8_init 22 = .ok (.putfield 21, 3) := by decide +kernel
theorem dX8_init_25 : decode cX8_init 25 = .ok (.return_, 1) := by decide +kernel
theorem dX10_init_0 : decode cX10_init 0 = .ok (.aload_n 0, 1) := by decide +kernel
theorem dX10_init_1 : decode cX10_init 1 = .ok (.invokespecial 3, 3) := by decide +kernel
theorem dX10_init_4 : decode cX10_init 4 = .ok (.aload_n 0, 1) := by decide +kernel
theorem dX10_init_5 : decode cX10_init 5 = .ok (.aload_n 1, 1) := by decide +kernel
theorem dX10_init_6 : decode cX10_init 6 = .ok (.putfield 9, 3) := by decide +kernel
theorem dX10_init_9 : decode cX10_init 9 = .ok (.aload_n 0, 1) := by decide +kernel
theorem dX10_init_10 : decode cX10_init 10 = .ok (.iload_n 2, 1) := by decide +kernel
theorem dX10_init_11 : decode cX10_init 11 = .ok (.putfield 15, 3) := by decide +kernel
theorem dX10_init_14 : decode cX10_init 14 = .ok (.return_, 1) := by decide +kernel
theorem dJ7_fill_53178_0 : decode cJ7_fill_53178 0 = .ok (.iconst 0, 1) := by decide +kernel
theorem dJ7_fill_53178_1 : decode cJ7_fill_53178 1 = .ok (.istore_n 2, 1) := by decide +kernel
theorem dJ7_fill_53178_2 : decode cJ7_fill_53178 2 = .ok (.aload_n 0, 1) := by decide +kernel
theorem dJ7_fill_53178_3 : decode cJ7_fill_53178 3 = .ok (.arraylength, 1) := by decide +kernel
theorem dJ7_fill_53178_4 : decode cJ7_fill_53178 4 = .ok (.istore_n 3, 1) := by decide +kernel
theorem dJ7_fill_53178_5 : decode cJ7_fill_53178 5 = .ok (.iload_n 2, 1) := by decide +kernel
theorem dJ7_fill_53178_6 : decode cJ7_fill_53178 6 = .ok (.iload_n 3, 1) := by decide +kernel
theorem dJ7_fill_53178_7 : decode cJ7_fill_53178 7 = .ok (.if_icmp .ge 13, 3) := by decide +kernel
theorem dJ7_fill_53178_10 : decode cJ7_fill_53178 10 = .ok (.aload_n 0, 1) := by decide +kernel
theorem dJ7_fill_53178_11 : decode cJ7_fill_53178 11 = .ok (.iload_n 2, 1) := by decide +kernel
theorem dJ7_fill_53178_12 : decode cJ7_fill_53178 12 = .ok (.iload_n 1, 1) := by decide +kernel
theorem dJ7_fill_53178_13 : decode cJ7_fill_53178 13 = .ok (.iastore, 1) := by decide +kernel
theorem dJ7_fill_53178_14 : decode cJ7_fill_53178 14 = .ok (.iinc 2 1, 3) := by decide +kernel
theorem dJ7_fill_53178_17 : decode cJ7_fill_53178 17 = .ok (.goto (-12), 3) := by decide +kernel
theorem dJ7_fill_53178_20 : decode cJ7_fill_53178 20 = .ok (.return_, 1) := by decide +kernel
abbrev vwCl : List vw_C := [(RX0, TX0, 9), (RX1, TX1, 12), (RX2, TX2, 6), (RX3, TX3, 5), (RX4, TX4, 5), (RX5, TX5, 17), (RX6, TX6, 2), (RX7, TX7, 6), (RX8, TX8, 4), (RX9, TX9, 11), (RX10, TX10, 2), (RX11, TX11, 9), (RX12, TX12, 94)]
set_option maxRecDepth 20000 in
theorem ggX1_init_X6_init : GoodIn wsX1_init wsX6_init := goodIn_r _ [18, 19, 2, 3, 9, 20, 21, 22] (by decide +kernel) (by decide +kernel)
set_option maxRecDepth 20000 in
theorem gX1_init_X6_init : GoodIn wsX1_init (wsX6_init) := ggX1_init_X6_init
set_option maxRecDepth 20000 in
theorem ggX2_init_J7_fill_53178 : GoodIn wsX2_init wsJ7_fill_53178 := goodIn_r _ [13] (by decide +kernel) (by decide +kernel)
set_option maxRecDepth 20000 in
theorem gX2_init_J7_fill_53178 : GoodIn wsX2_init (va_wsS RX2 29 yJ7_fill_53178 wsJ7_fill_53178) := goodIn_app (goodIn_of _ (by decide +kernel)) ggX2_init_J7_fill_53178
set_option maxRecDepth 20000 in
theorem ggX5_init_X6_init : GoodIn wsX5_init wsX6_init := goodIn_r _ [31, 32, 2, 3, 26, 33, 73, 74] (by decide +kernel) (by decide +kernel)
set_option maxRecDepth 20000 in
theorem gX5_init_X6_init : GoodIn wsX5_init (wsX6_init) := ggX5_init_X6_init
set_option maxRecDepth 20000 in
theorem ggX5_init_X7_init : GoodIn wsX5_init wsX7_init := goodIn_r _ [36, 37, 2, 3, 38, 39, 40, 9, 10, 41, 30, 31, 32, 26, 33, 75, 76, 77, 78, 79, 80, 73, 74] (by decide +kernel) (by decide +kernel)
set_option maxRecDepth 20000 in
theorem gX5_init_X7_init : GoodIn wsX5_init (wsX7_init) := ggX5_init_X7_init
set_option maxRecDepth 20000 in
theorem ggX5_init_X10_init : GoodIn wsX5_init wsX10_init := goodIn_r _ [44, 45, 2, 3, 46, 47, 85, 86] (by decide +kernel) (by decide +kernel)
set_option maxRecDepth 20000 in
theorem gX5_init_X10_init : GoodIn wsX5_init (wsX10_init) := ggX5_init_X10_init
set_option maxRecDepth 20000 in
theorem ggX5_init_X8_init : GoodIn wsX5_init wsX8_init := goodIn_r _ [50, 51, 2, 3, 52, 53, 54, 55, 81, 82, 83, 84] (by decide +kernel) (by decide +kernel)
set_option maxRecDepth 20000 in
theorem gX5_init_X8_init : GoodIn wsX5_init (wsX8_init) := ggX5_init_X8_init
set_option maxRecDepth 20000 in
theorem ggX7_init_X6_init : GoodIn wsX7_init wsX6_init := goodIn_r _ [11, 12, 2, 3, 13, 14, 21, 22] (by decide +kernel) (by decide +kernel)
set_option maxRecDepth 20000 in
theorem gX7_init_X6_init : GoodIn wsX7_init (wsX6_init) := ggX7_init_X6_init
end
section
set_option maxHeartbeats 1000000 in
set_option maxRecDepth 100000 in
/-- Row(N): a row of N zeros, empty -/
theorem c_Row_init (l : Launch) (dC : Nat → ClassId) (dI : Nat → Nat → Nat) (sz : Nat) (h0 N : Nat) (x : Int32) (hx0 : ¬ x < 0) (hx1 : x.toNatClampNeg = N) (hN : N ≤ 2000) : Met l yX6_init wsX6_init ({ frames := 1, cells := 1, slots := N, locals := 12 }) (va_Pc [.ref h0, .int x] (fun U => U.heap.size = sz ∧ va_P (dC, dI) vwCl [(h0, .inr (6, [.null, .int 0]))] U.heap ∧ va_K (dC, dI) vwCl [] U ∧ va_D (fun _ => True) [(h0, .inr (6, [.null, .int 0]))])) (va_Qv (fun _ : Unit => True) (fun _ t => ∃ (q : Nat) (cA : ClassId), va_P (dC, dI) vwCl [(h0, .inr (6, [.ref q, .int 0])), (q, .inl (cA, N, .inl (fun _ => 0)))] t.heap ∧ va_K (dC, dI) vwCl [(cA, .int)] t ∧ va_D (va_A [(h0, .inr (6, [.null, .int 0]))] sz) [(h0, .inr (6, [.ref q, .int 0])), (q, .inl (cA, N, .inl (fun _ => 0)))]) (va_A [(h0, .inr (6, [.null, .int 0]))] sz)) (1) (N) (va_A [(h0, .inr (6, [.null, .int 0]))] sz) := by
  refine Met.ofW (cc := cX6_init) (maxL := 2) (ret := none) (by decide) rfl ?_
  intro p e s m args below meth c s₁ B hml hv
  obtain ⟨rfl, hsz, hP, hK, hD0⟩ := hv
  have hx := B.exec
  have hb := B.bytes
  have hr := B.returns
  have hts := atoms_spec (ws := wsX6_init) B.pre
  have hown : s.vm.findClass RX6 = some m.cls := findClass_of_methodNamed B.named
  have hlocks := B.notSynchronized
  have hin : meth.name = "<init>" := (name_of_methodNamed B.named B.method).1
  subst hsz
  have hD := hD0.self (sz := s.heap.size)
  generalize hAe : va_A [(h0, .inr (6, [.null, .int 0]))] s.heap.size = A at hD ⊢
  have hA : ∀ q : Nat, s.heap.size ≤ q → A q := fun q h => by rw [← hAe]; exact Or.inr h
  have hS : va_S A s.heap s.heap [] := va_S.rf
  have hl := lv_entry ([.ref h0, .int x]) (n := 2) (Nat.le_of_ble_eq_true rfl)
  rw [lg_entry_eq]
  generalize (lg_sl ([.ref h0, .int x]) ++ List.replicate (2 - (lg_sl ([.ref h0, .int x])).length) Slot.unset).toArray = ls at hl ⊢
  have hl : lv_has ls 2 [(0, .ref h0), (1, .int x)] := hl
  refine lv_aload_n hx hb dX6_init_0 rfl (lv_at hl 0 rfl) ?_
  refine W.objInit hx hb hown (hts (.methodLink RX6 1 objectInit) (by decide +kernel)) (hts (.instanceMethod objectInit) (by decide +kernel)) (hts (.code objectInit ⟨#[0xb1]⟩ 1 none) (by decide +kernel)) rfl (by rw [hml]; exact hl.1) rfl dX6_init_1 (Nat.le_of_ble_eq_true rfl) (Nat.le_of_ble_eq_true rfl) ?_
  refine W.eq (g2 := F0 m 4 ls []) rfl ?_
  refine lv_aload_n hx hb dX6_init_4 rfl (lv_at hl 0 rfl) ?_
  refine lv_iload_n hx hb dX6_init_5 rfl (lv_at hl 1 rfl) ?_
  have hby : N * componentBytes (.int) ≤ 536870912 := by rw [show componentBytes .int = 4 from rfl]; omega
  refine va_newa (atype := .int) (n := x) (N' := N) (ty := .int) (a0 := (N, .inl (fun _ => 0))) hx hb (hts (.arrayClass .int) (by decide +kernel)) rfl hK hP hD hS hA (fun _ => rfl) hx0 hx1 hby (show 0 + 1 ≤ 1 by omega) (show 0 + N ≤ N by omega) dX6_init_6 (fun q_1 cA_2 H hK hP hD hS => ?_)
  have hP : va_P (dC, dI) vwCl [(h0, .inr (6, [.null, .int 0])), (q_1, .inl (cA_2, N, .inl (fun _ => 0)))] H := hP
  have hD : va_D A [(h0, .inr (6, [.null, .int 0])), (q_1, .inl (cA_2, N, .inl (fun _ => 0)))] := hD
  have hK : va_K (dC, dI) vwCl [(cA_2, .int)] s := hK
  refine W.widen (k := 1) (n := N) (by omega) (by omega) ?_
  refine va_putF (D := (dC, dI)) (ci := 6) (v := .ref q_1) (ty := .array .int) (C := RX6) (T := TX6) (N := 2) hx hb hts (by decide +kernel) tyX6 tyX6_ok nmX6 hown hK hP hD hS 0 rfl rfl 0 (by decide) (hts (.fieldLink RX6 7 "ProofBench$Row" "codes" "[I") (by decide +kernel)) (fun _ h9 => h9) rfl hin rfl (by decide +kernel) rfl rfl (Nat.le_of_ble_eq_true rfl) dX6_init_8 (fun H locs hP hD hS => ?_)
  have hP : va_P (dC, dI) vwCl [(h0, .inr (6, [.ref q_1, .int 0])), (q_1, .inl (cA_2, N, .inl (fun _ => 0)))] H := hP
  have hD : va_D A [(h0, .inr (6, [.ref q_1, .int 0])), (q_1, .inl (cA_2, N, .inl (fun _ => 0)))] := hD
  have hP9 := hP.sub (ws' := [(h0, .inr (6, [.ref q_1, .int 0])), (q_1, .inl (cA_2, N, .inl (fun _ => 0)))]) [0, 1] rfl
  have hD9 := hD.sub (ws' := [(h0, .inr (6, [.ref q_1, .int 0])), (q_1, .inl (cA_2, N, .inl (fun _ => 0)))]) [0, 1] (by decide) rfl
  have hK9 := hK.sub (tys' := [(cA_2, .int)]) [0] rfl
  refine W.widen (k := 1) (n := N) (by omega) (by omega) ?_
  exact W.vret hx hb hr (fun t ht hW => ⟨⟨(), rfl, trivial, q_1, cA_2, by rw [ht]; exact hP9, va_K.moved hW.alike hK9, hD9⟩, hS.F ht⟩) hS.2.2 dX6_init_11
set_option maxHeartbeats 1000000 in
set_option maxRecDepth 100000 in
/-- Thing(codes, free) -/
theorem c_Thing_init (l : Launch) (dC : Nat → ClassId) (dI : Nat → Nat → Nat) (sz : Nat) (h0 h1 : Nat) (f : Int32) : Met l yX10_init wsX10_init ({ frames := 1, cells := 0, slots := 0, locals := 12 }) (va_Pc [.ref h0, .ref h1, .int f] (fun U => U.heap.size = sz ∧ va_P (dC, dI) vwCl [(h0, .inr (10, [.null, .int 0]))] U.heap ∧ va_K (dC, dI) vwCl [] U ∧ va_D (fun _ => True) [(h0, .inr (10, [.null, .int 0]))])) (va_Qv (fun _ : Unit => True) (fun _ t => va_P (dC, dI) vwCl [(h0, .inr (10, [.ref h1, .int f]))] t.heap ∧ va_K (dC, dI) vwCl [] t ∧ va_D (va_A [(h0, .inr (10, [.null, .int 0]))] sz) [(h0, .inr (10, [.ref h1, .int f]))]) (va_A [(h0, .inr (10, [.null, .int 0]))] sz)) (0) (0) (va_A [(h0, .inr (10, [.null, .int 0]))] sz) := by
  refine Met.ofW (cc := cX10_init) (maxL := 3) (ret := none) (by decide) rfl ?_
  intro p e s m args below meth c s₁ B hml hv
  obtain ⟨rfl, hsz, hP, hK, hD0⟩ := hv
  have hx := B.exec
  have hb := B.bytes
  have hr := B.returns
  have hts := atoms_spec (ws := wsX10_init) B.pre
  have hown : s.vm.findClass RX10 = some m.cls := findClass_of_methodNamed B.named
  have hlocks := B.notSynchronized
  have hin : meth.name = "<init>" := (name_of_methodNamed B.named B.method).1
  subst hsz
  have hD := hD0.self (sz := s.heap.size)
  generalize hAe : va_A [(h0, .inr (10, [.null, .int 0]))] s.heap.size = A at hD ⊢
  have hA : ∀ q : Nat, s.heap.size ≤ q → A q := fun q h => by rw [← hAe]; exact Or.inr h
  have hS : va_S A s.heap s.heap [] := va_S.rf
  have hl := lv_entry ([.ref h0, .ref h1, .int f]) (n := 3) (Nat.le_of_ble_eq_true rfl)
  rw [lg_entry_eq]
  generalize (lg_sl ([.ref h0, .ref h1, .int f]) ++ List.replicate (3 - (lg_sl ([.ref h0, .ref h1, .int f])).length) Slot.unset).toArray = ls at hl ⊢
  have hl : lv_has ls 3 [(0, .ref h0), (1, .ref h1), (2, .int f)] := hl
  refine lv_aload_n hx hb dX10_init_0 rfl (lv_at hl 0 rfl) ?_
  refine W.objInit hx hb hown (hts (.methodLink RX10 3 objectInit) (by decide +kernel)) (hts (.instanceMethod objectInit) (by decide +kernel)) (hts (.code objectInit ⟨#[0xb1]⟩ 1 none) (by decide +kernel)) rfl (by rw [hml]; exact hl.1) rfl dX10_init_1 (Nat.le_of_ble_eq_true rfl) (Nat.le_of_ble_eq_true rfl) ?_
  refine W.eq (g2 := F0 m 4 ls []) rfl ?_
  refine lv_aload_n hx hb dX10_init_4 rfl (lv_at hl 0 rfl) ?_
  refine lv_aload_n hx hb dX10_init_5 rfl (lv_at hl 1 rfl) ?_
  refine va_putF (D := (dC, dI)) (ci := 10) (v := .ref h1) (ty := .array .int) (C := RX10) (T := TX10) (N := 2) hx hb hts (by decide +kernel) tyX10 tyX10_ok nmX10 hown hK hP hD hS 0 rfl rfl 0 (by decide) (hts (.fieldLink RX10 9 "ProofBench$Thing" "codes" "[I") (by decide +kernel)) (fun _ h9 => h9) rfl hin rfl (by decide +kernel) rfl rfl (Nat.le_of_ble_eq_true rfl) dX10_init_6 (fun H locs hP hD hS => ?_)
  have hP : va_P (dC, dI) vwCl [(h0, .inr (10, [.ref h1, .int 0]))] H := hP
  have hD : va_D A [(h0, .inr (10, [.ref h1, .int 0]))] := hD
  refine lv_aload_n hx hb dX10_init_9 rfl (lv_at hl 0 rfl) ?_
  refine lv_iload_n hx hb dX10_init_10 rfl (lv_at hl 2 rfl) ?_
  refine va_putF (D := (dC, dI)) (ci := 10) (v := .int f) (ty := .int) (C := RX10) (T := TX10) (N := 2) hx hb hts (by decide +kernel) tyX10 tyX10_ok nmX10 hown hK hP hD hS 0 rfl rfl 1 (by decide) (hts (.fieldLink RX10 15 "ProofBench$Thing" "free" "I") (by decide +kernel)) (fun _ h9 => h9) rfl hin rfl (by decide +kernel) rfl rfl (Nat.le_of_ble_eq_true rfl) dX10_init_11 (fun H locs hP hD hS => ?_)
  have hP : va_P (dC, dI) vwCl [(h0, .inr (10, [.ref h1, .int f]))] H := hP
  have hD : va_D A [(h0, .inr (10, [.ref h1, .int f]))] := hD
  have hP9 := hP.sub (ws' := [(h0, .inr (10, [.ref h1, .int f]))]) [0] rfl
  have hD9 := hD.sub (ws' := [(h0, .inr (10, [.ref h1, .int f]))]) [0] (by decide) rfl
  have hK9 := hK.sub (tys' := []) [] rfl
  refine W.widen (k := 0) (n := 0) (by omega) (by omega) ?_
  exact W.vret hx hb hr (fun t ht hW => ⟨⟨(), rfl, trivial, by rw [ht]; exact hP9, va_K.moved hW.alike hK9, hD9⟩, hS.F ht⟩) hS.2.2 dX10_init_14
set_option maxHeartbeats 1000000 in
set_option maxRecDepth 100000 in
/-- Step(shows, from, leaning, induced) -/
theorem c_Step_init (l : Launch) (dC : Nat → ClassId) (dI : Nat → Nat → Nat) (sz : Nat) (h0 h1 h2 : Nat) (g : Int64) : Met l yX8_init wsX8_init ({ frames := 1, cells := 0, slots := 0, locals := 12 }) (va_Pc [.ref h0, .ref h1, .ref h2, .long g, .int 0] (fun U => U.heap.size = sz ∧ va_P (dC, dI) vwCl [(h0, .inr (8, [.null, .null, .long 0, .int 0]))] U.heap ∧ va_K (dC, dI) vwCl [] U ∧ va_D (fun _ => True) [(h0, .inr (8, [.null, .null, .long 0, .int 0]))])) (va_Qv (fun _ : Unit => True) (fun _ t => va_P (dC, dI) vwCl [(h0, .inr (8, [.ref h1, .ref h2, .long g, .int 0]))] t.heap ∧ va_K (dC, dI) vwCl [] t ∧ va_D (va_A [(h0, .inr (8, [.null, .null, .long 0, .int 0]))] sz) [(h0, .inr (8, [.ref h1, .ref h2, .long g, .int 0]))]) (va_A [(h0, .inr (8, [.null, .null, .long 0, .int 0]))] sz)) (0) (0) (va_A [(h0, .inr (8, [.null, .null, .long 0, .int 0]))] sz) := by
  refine Met.ofW (cc := cX8_init) (maxL := 6) (ret := none) (by decide) rfl ?_
  intro p e s m args below meth c s₁ B hml hv
  obtain ⟨rfl, hsz, hP, hK, hD0⟩ := hv
  have hx := B.exec
  have hb := B.bytes
  have hr := B.returns
  have hts := atoms_spec (ws := wsX8_init) B.pre
  have hown : s.vm.findClass RX8 = some m.cls := findClass_of_methodNamed B.named
  have hlocks := B.notSynchronized
  have hin : meth.name = "<init>" := (name_of_methodNamed B.named B.method).1
  subst hsz
  have hD := hD0.self (sz := s.heap.size)
  generalize hAe : va_A [(h0, .inr (8, [.null, .null, .long 0, .int 0]))] s.heap.size = A at hD ⊢
  have hA : ∀ q : Nat, s.heap.size ≤ q → A q := fun q h => by rw [← hAe]; exact Or.inr h
  have hS : va_S A s.heap s.heap [] := va_S.rf
  have hl := lv_entry ([.ref h0, .ref h1, .ref h2, .long g, .int 0]) (n := 6) (Nat.le_of_ble_eq_true rfl)
  rw [lg_entry_eq]
  generalize (lg_sl ([.ref h0, .ref h1, .ref h2, .long g, .int 0]) ++ List.replicate (6 - (lg_sl ([.ref h0, .ref h1, .ref h2, .long g, .int 0])).length) Slot.unset).toArray = ls at hl ⊢
  have hl : lv_has ls 6 [(0, .ref h0), (1, .ref h1), (2, .ref h2), (3, .long g), (5, .int 0)] := hl
  refine lv_aload_n hx hb dX8_init_0 rfl (lv_at hl 0 rfl) ?_
  refine W.objInit hx hb hown (hts (.methodLink RX8 1 objectInit) (by decide +kernel)) (hts (.instanceMethod objectInit) (by decide +kernel)) (hts (.code objectInit ⟨#[0xb1]⟩ 1 none) (by decide +kernel)) rfl (by rw [hml]; exact hl.1) rfl dX8_init_1 (Nat.le_of_ble_eq_true rfl) (Nat.le_of_ble_eq_true rfl) ?_
  refine W.eq (g2 := F0 m 4 ls []) rfl ?_
  refine lv_aload_n hx hb dX8_init_4 rfl (lv_at hl 0 rfl) ?_
  refine lv_aload_n hx hb dX8_init_5 rfl (lv_at hl 1 rfl) ?_
  refine va_putF (D := (dC, dI)) (ci := 8) (v := .ref h1) (ty := .object "ProofBench$Thing") (C := RX8) (T := TX8) (N := 4) hx hb hts (by decide +kernel) tyX8 tyX8_ok nmX8 hown hK hP hD hS 0 rfl rfl 0 (by decide) (hts (.fieldLink RX8 7 "ProofBench$Step" "shows" "LProofBench$Thing;") (by decide +kernel)) (fun _ h9 => h9) rfl hin rfl (by decide +kernel) rfl rfl (Nat.le_of_ble_eq_true rfl) dX8_init_6 (fun H locs hP hD hS => ?_)
  have hP : va_P (dC, dI) vwCl [(h0, .inr (8, [.ref h1, .null, .long 0, .int 0]))] H := hP
  have hD : va_D A [(h0, .inr (8, [.ref h1, .null, .long 0, .int 0]))] := hD
  refine lv_aload_n hx hb dX8_init_9 rfl (lv_at hl 0 rfl) ?_
  refine lv_aload_n hx hb dX8_init_10 rfl (lv_at hl 2 rfl) ?_
  refine va_putF (D := (dC, dI)) (ci := 8) (v := .ref h2) (ty := .array (.object "ProofBench$Thing")) (C := RX8) (T := TX8) (N := 4) hx hb hts (by decide +kernel) tyX8 tyX8_ok nmX8 hown hK hP hD hS 0 rfl rfl 1 (by decide) (hts (.fieldLink RX8 13 "ProofBench$Step" "from" "[LProofBench$Thing;") (by decide +kernel)) (fun _ h9 => h9) rfl hin rfl (by decide +kernel) rfl rfl (Nat.le_of_ble_eq_true rfl) dX8_init_11 (fun H locs hP hD hS => ?_)
  have hP : va_P (dC, dI) vwCl [(h0, .inr (8, [.ref h1, .ref h2, .long 0, .int 0]))] H := hP
  have hD : va_D A [(h0, .inr (8, [.ref h1, .ref h2, .long 0, .int 0]))] := hD
  refine lv_aload_n hx hb dX8_init_14 rfl (lv_at hl 0 rfl) ?_
  refine lv_lload_n hx hb dX8_init_15 rfl (lv_at hl 3 rfl) ?_
  refine va_putF (D := (dC, dI)) (ci := 8) (v := .long g) (ty := .long) (C := RX8) (T := TX8) (N := 4) hx hb hts (by decide +kernel) tyX8 tyX8_ok nmX8 hown hK hP hD hS 0 rfl rfl 2 (by decide) (hts (.fieldLink RX8 17 "ProofBench$Step" "leaning" "J") (by decide +kernel)) (fun _ h9 => h9) rfl hin rfl (by decide +kernel) rfl rfl (Nat.le_of_ble_eq_true rfl) dX8_init_16 (fun H locs hP hD hS => ?_)
  have hP : va_P (dC, dI) vwCl [(h0, .inr (8, [.ref h1, .ref h2, .long g, .int 0]))] H := hP
  have hD : va_D A [(h0, .inr (8, [.ref h1, .ref h2, .long g, .int 0]))] := hD
  refine lv_aload_n hx hb dX8_init_19 rfl (lv_at hl 0 rfl) ?_
  refine lv_iload hx hb dX8_init_20 (lv_at hl 4 rfl) ?_
  refine va_putF (D := (dC, dI)) (ci := 8) (v := .int 0) (ty := .boolean) (C := RX8) (T := TX8) (N := 4) hx hb hts (by decide +kernel) tyX8 tyX8_ok nmX8 hown hK hP hD hS 0 rfl rfl 3 (by decide) (hts (.fieldLink RX8 21 "ProofBench$Step" "induced" "Z") (by decide +kernel)) (fun _ h9 => h9) rfl hin rfl (by decide +kernel) rfl rfl (Nat.le_of_ble_eq_true rfl) dX8_init_22 (fun H locs hP hD hS => ?_)
  have hP : va_P (dC, dI) vwCl [(h0, .inr (8, [.ref h1, .ref h2, .long g, .int 0]))] H := hP
  have hD : va_D A [(h0, .inr (8, [.ref h1, .ref h2, .long g, .int 0]))] := hD
  have hP9 := hP.sub (ws' := [(h0, .inr (8, [.ref h1, .ref h2, .long g, .int 0]))]) [0] rfl
  have hD9 := hD.sub (ws' := [(h0, .inr (8, [.ref h1, .ref h2, .long g, .int 0]))]) [0] (by decide) rfl
  have hK9 := hK.sub (tys' := []) [] rfl
  refine W.widen (k := 0) (n := 0) (by omega) (by omega) ?_
  exact W.vret hx hb hr (fun t ht hW => ⟨⟨(), rfl, trivial, by rw [ht]; exact hP9, va_K.moved hW.alike hK9, hD9⟩, hS.F ht⟩) hS.2.2 dX8_init_25
set_option maxHeartbeats 1000000 in
set_option maxRecDepth 100000 in
/-- Out(names): nothing is out -/
theorem c_Out_init (l : Launch) (dC : Nat → ClassId) (dI : Nat → Nat → Nat) (sz : Nat) (h0 a_n : Nat) : Met l yX4_init wsX4_init ({ frames := 1, cells := 3, slots := 20052, locals := 12 }) (va_Pc [.ref h0, .ref a_n] (fun U => U.heap.size = sz ∧ va_P (dC, dI) vwCl [(h0, .inr (4, [.null, .null, .null, .null, .int 0]))] U.heap ∧ va_K (dC, dI) vwCl [] U ∧ va_D (fun _ => True) [(h0, .inr (4, [.null, .null, .null, .null, .int 0]))])) (va_Qv (fun _ : Unit => True) (fun _ t => ∃ (q_1 : Nat) (q_3 : Nat) (q_5 : Nat), va_P (dC, dI) vwCl [(h0, .inr (4, [.ref a_n, .ref q_1, .ref q_3, .ref q_5, .int 0]))] t.heap ∧ va_K (dC, dI) vwCl [] t ∧ va_D (va_A [(h0, .inr (4, [.null, .null, .null, .null, .int 0]))] sz) [(h0, .inr (4, [.ref a_n, .ref q_1, .ref q_3, .ref q_5, .int 0]))]) (va_A [(h0, .inr (4, [.null, .null, .null, .null, .int 0]))] sz)) (3) (20052) (va_A [(h0, .inr (4, [.null, .null, .null, .null, .int 0]))] sz) := by
  refine Met.ofW (cc := cX4_init) (maxL := 2) (ret := none) (by decide) rfl ?_
  intro p e s m args below meth c s₁ B hml hv
  obtain ⟨rfl, hsz, hP, hK, hD0⟩ := hv
  have hx := B.exec
  have hb := B.bytes
  have hr := B.returns
  have hts := atoms_spec (ws := wsX4_init) B.pre
  have hown : s.vm.findClass RX4 = some m.cls := findClass_of_methodNamed B.named
  have hlocks := B.notSynchronized
  have hin : meth.name = "<init>" := (name_of_methodNamed B.named B.method).1
  subst hsz
  have hD := hD0.self (sz := s.heap.size)
  generalize hAe : va_A [(h0, .inr (4, [.null, .null, .null, .null, .int 0]))] s.heap.size = A at hD ⊢
  have hA : ∀ q : Nat, s.heap.size ≤ q → A q := fun q h => by rw [← hAe]; exact Or.inr h
  have hS : va_S A s.heap s.heap [] := va_S.rf
  have hl := lv_entry ([.ref h0, .ref a_n]) (n := 2) (Nat.le_of_ble_eq_true rfl)
  rw [lg_entry_eq]
  generalize (lg_sl ([.ref h0, .ref a_n]) ++ List.replicate (2 - (lg_sl ([.ref h0, .ref a_n])).length) Slot.unset).toArray = ls at hl ⊢
  have hl : lv_has ls 2 [(0, .ref h0), (1, .ref a_n)] := hl
  refine lv_aload_n hx hb dX4_init_0 rfl (lv_at hl 0 rfl) ?_
  refine W.objInit hx hb hown (hts (.methodLink RX4 3 objectInit) (by decide +kernel)) (hts (.instanceMethod objectInit) (by decide +kernel)) (hts (.code objectInit ⟨#[0xb1]⟩ 1 none) (by decide +kernel)) rfl (by rw [hml]; exact hl.1) rfl dX4_init_1 (Nat.le_of_ble_eq_true rfl) (Nat.le_of_ble_eq_true rfl) ?_
  refine W.eq (g2 := F0 m 4 ls []) rfl ?_
  refine lv_aload_n hx hb dX4_init_4 rfl (lv_at hl 0 rfl) ?_
  refine lv_sipush (v := 20000) hx hb dX4_init_5 (by decide) ?_
  refine va_newa (atype := .int) (n := 20000) (N' := 20000) (ty := .int) (a0 := (20000, .inl (fun _ => 0))) hx hb (hts (.arrayClass .int) (by decide +kernel)) rfl hK hP hD hS hA (fun _ => rfl) (by decide) (by decide) (by decide) (show 0 + 1 ≤ 3 by omega) (show 0 + 20000 ≤ 20052 by omega) dX4_init_8 (fun q_1 cA_2 H hK hP hD hS => ?_)
  have hP : va_P (dC, dI) vwCl [(h0, .inr (4, [.null, .null, .null, .null, .int 0])), (q_1, .inl (cA_2, 20000, .inl (fun _ => 0)))] H := hP
  have hD : va_D A [(h0, .inr (4, [.null, .null, .null, .null, .int 0])), (q_1, .inl (cA_2, 20000, .inl (fun _ => 0)))] := hD
  have hK : va_K (dC, dI) vwCl [(cA_2, .int)] s := hK
  refine W.widen (k := 1) (n := 20000) (by omega) (by omega) ?_
  refine va_putF (D := (dC, dI)) (ci := 4) (v := .ref q_1) (ty := .array .int) (C := RX4) (T := TX4) (N := 5) hx hb hts (by decide +kernel) tyX4 tyX4_ok nmX4 hown hK hP hD hS 0 rfl rfl 1 (by decide) (hts (.fieldLink RX4 11 "ProofBench$Out" "numbers" "[I") (by decide +kernel)) (fun _ h9 => h9) rfl hin rfl (by decide +kernel) rfl rfl (Nat.le_of_ble_eq_true rfl) dX4_init_10 (fun H locs hP hD hS => ?_)
  have hP : va_P (dC, dI) vwCl [(h0, .inr (4, [.null, .ref q_1, .null, .null, .int 0])), (q_1, .inl (cA_2, 20000, .inl (fun _ => 0)))] H := hP
  have hD : va_D A [(h0, .inr (4, [.null, .ref q_1, .null, .null, .int 0])), (q_1, .inl (cA_2, 20000, .inl (fun _ => 0)))] := hD
  refine lv_aload_n hx hb dX4_init_13 rfl (lv_at hl 0 rfl) ?_
  refine lv_bipush (v := 40) hx hb dX4_init_14 (by decide) ?_
  refine va_newa (atype := .int) (n := 40) (N' := 40) (ty := .int) (a0 := (40, .inl (fun _ => 0))) hx hb (hts (.arrayClass .int) (by decide +kernel)) rfl hK hP hD hS hA (fun _ => rfl) (by decide) (by decide) (by decide) (show 1 + 1 ≤ 3 by omega) (show 20000 + 40 ≤ 20052 by omega) dX4_init_16 (fun q_3 cA_4 H hK hP hD hS => ?_)
  have hP : va_P (dC, dI) vwCl [(h0, .inr (4, [.null, .ref q_1, .null, .null, .int 0])), (q_1, .inl (cA_2, 20000, .inl (fun _ => 0))), (q_3, .inl (cA_4, 40, .inl (fun _ => 0)))] H := hP
  have hD : va_D A [(h0, .inr (4, [.null, .ref q_1, .null, .null, .int 0])), (q_1, .inl (cA_2, 20000, .inl (fun _ => 0))), (q_3, .inl (cA_4, 40, .inl (fun _ => 0)))] := hD
  have hK : va_K (dC, dI) vwCl [(cA_2, .int), (cA_4, .int)] s := hK
  refine W.widen (k := 2) (n := 20040) (by omega) (by omega) ?_
  refine va_putF (D := (dC, dI)) (ci := 4) (v := .ref q_3) (ty := .array .int) (C := RX4) (T := TX4) (N := 5) hx hb hts (by decide +kernel) tyX4 tyX4_ok nmX4 hown hK hP hD hS 0 rfl rfl 2 (by decide) (hts (.fieldLink RX4 15 "ProofBench$Out" "lefts" "[I") (by decide +kernel)) (fun _ h9 => h9) rfl hin rfl (by decide +kernel) rfl rfl (Nat.le_of_ble_eq_true rfl) dX4_init_18 (fun H locs hP hD hS => ?_)
  have hP : va_P (dC, dI) vwCl [(h0, .inr (4, [.null, .ref q_1, .ref q_3, .null, .int 0])), (q_1, .inl (cA_2, 20000, .inl (fun _ => 0))), (q_3, .inl (cA_4, 40, .inl (fun _ => 0)))] H := hP
  have hD : va_D A [(h0, .inr (4, [.null, .ref q_1, .ref q_3, .null, .int 0])), (q_1, .inl (cA_2, 20000, .inl (fun _ => 0))), (q_3, .inl (cA_4, 40, .inl (fun _ => 0)))] := hD
  refine lv_aload_n hx hb dX4_init_21 rfl (lv_at hl 0 rfl) ?_
  refine lv_bipush (v := 12) hx hb dX4_init_22 (by decide) ?_
  refine va_newa (atype := .int) (n := 12) (N' := 12) (ty := .int) (a0 := (12, .inl (fun _ => 0))) hx hb (hts (.arrayClass .int) (by decide +kernel)) rfl hK hP hD hS hA (fun _ => rfl) (by decide) (by decide) (by decide) (show 2 + 1 ≤ 3 by omega) (show 20040 + 12 ≤ 20052 by omega) dX4_init_24 (fun q_5 cA_6 H hK hP hD hS => ?_)
  have hP : va_P (dC, dI) vwCl [(h0, .inr (4, [.null, .ref q_1, .ref q_3, .null, .int 0])), (q_1, .inl (cA_2, 20000, .inl (fun _ => 0))), (q_3, .inl (cA_4, 40, .inl (fun _ => 0))), (q_5, .inl (cA_6, 12, .inl (fun _ => 0)))] H := hP
  have hD : va_D A [(h0, .inr (4, [.null, .ref q_1, .ref q_3, .null, .int 0])), (q_1, .inl (cA_2, 20000, .inl (fun _ => 0))), (q_3, .inl (cA_4, 40, .inl (fun _ => 0))), (q_5, .inl (cA_6, 12, .inl (fun _ => 0)))] := hD
  have hK : va_K (dC, dI) vwCl [(cA_2, .int), (cA_4, .int), (cA_6, .int)] s := hK
  refine W.widen (k := 3) (n := 20052) (by omega) (by omega) ?_
  refine va_putF (D := (dC, dI)) (ci := 4) (v := .ref q_5) (ty := .array .int) (C := RX4) (T := TX4) (N := 5) hx hb hts (by decide +kernel) tyX4 tyX4_ok nmX4 hown hK hP hD hS 0 rfl rfl 3 (by decide) (hts (.fieldLink RX4 20 "ProofBench$Out" "turned" "[I") (by decide +kernel)) (fun _ h9 => h9) rfl hin rfl (by decide +kernel) rfl rfl (Nat.le_of_ble_eq_true rfl) dX4_init_26 (fun H locs hP hD hS => ?_)
  have hP : va_P (dC, dI) vwCl [(h0, .inr (4, [.null, .ref q_1, .ref q_3, .ref q_5, .int 0])), (q_1, .inl (cA_2, 20000, .inl (fun _ => 0))), (q_3, .inl (cA_4, 40, .inl (fun _ => 0))), (q_5, .inl (cA_6, 12, .inl (fun _ => 0)))] H := hP
  have hD : va_D A [(h0, .inr (4, [.null, .ref q_1, .ref q_3, .ref q_5, .int 0])), (q_1, .inl (cA_2, 20000, .inl (fun _ => 0))), (q_3, .inl (cA_4, 40, .inl (fun _ => 0))), (q_5, .inl (cA_6, 12, .inl (fun _ => 0)))] := hD
  refine lv_aload_n hx hb dX4_init_29 rfl (lv_at hl 0 rfl) ?_
  refine lv_aload_n hx hb dX4_init_30 rfl (lv_at hl 1 rfl) ?_
  refine va_putF (D := (dC, dI)) (ci := 4) (v := .ref a_n) (ty := .object "ProofBench$Names") (C := RX4) (T := TX4) (N := 5) hx hb hts (by decide +kernel) tyX4 tyX4_ok nmX4 hown hK hP hD hS 0 rfl rfl 0 (by decide) (hts (.fieldLink RX4 23 "ProofBench$Out" "names" "LProofBench$Names;") (by decide +kernel)) (fun _ h9 => h9) rfl hin rfl (by decide +kernel) rfl rfl (Nat.le_of_ble_eq_true rfl) dX4_init_31 (fun H locs hP hD hS => ?_)
  have hP : va_P (dC, dI) vwCl [(h0, .inr (4, [.ref a_n, .ref q_1, .ref q_3, .ref q_5, .int 0])), (q_1, .inl (cA_2, 20000, .inl (fun _ => 0))), (q_3, .inl (cA_4, 40, .inl (fun _ => 0))), (q_5, .inl (cA_6, 12, .inl (fun _ => 0)))] H := hP
  have hD : va_D A [(h0, .inr (4, [.ref a_n, .ref q_1, .ref q_3, .ref q_5, .int 0])), (q_1, .inl (cA_2, 20000, .inl (fun _ => 0))), (q_3, .inl (cA_4, 40, .inl (fun _ => 0))), (q_5, .inl (cA_6, 12, .inl (fun _ => 0)))] := hD
  have hP9 := hP.sub (ws' := [(h0, .inr (4, [.ref a_n, .ref q_1, .ref q_3, .ref q_5, .int 0]))]) [0] rfl
  have hD9 := hD.sub (ws' := [(h0, .inr (4, [.ref a_n, .ref q_1, .ref q_3, .ref q_5, .int 0]))]) [0] (by decide) rfl
  have hK9 := hK.sub (tys' := []) [] rfl
  refine W.widen (k := 3) (n := 20052) (by omega) (by omega) ?_
  exact W.vret hx hb hr (fun t ht hW => ⟨⟨(), rfl, trivial, q_1, q_3, q_5, by rw [ht]; exact hP9, va_K.moved hW.alike hK9, hD9⟩, hS.F ht⟩) hS.2.2 dX4_init_34
set_option maxHeartbeats 1000000 in
set_option maxRecDepth 100000 in
/-- Forms(names) -/
theorem c_Forms_init (l : Launch) (dC : Nat → ClassId) (dI : Nat → Nat → Nat) (sz : Nat) (h0 a_n : Nat) : Met l yX0_init wsX0_init ({ frames := 1, cells := 7, slots := 1723, locals := 12 }) (va_Pc [.ref h0, .ref a_n] (fun U => U.heap.size = sz ∧ va_P (dC, dI) vwCl [(h0, .inr (0, [.null, .null, .null, .null, .int 0, .null, .null, .null, .null]))] U.heap ∧ va_K (dC, dI) vwCl [] U ∧ va_D (fun _ => True) [(h0, .inr (0, [.null, .null, .null, .null, .int 0, .null, .null, .null, .null]))])) (va_Qv (fun _ : Unit => True) (fun _ t => va_P (dC, dI) vwCl [] t.heap ∧ va_K (dC, dI) vwCl [] t ∧ va_D (va_A [(h0, .inr (0, [.null, .null, .null, .null, .int 0, .null, .null, .null, .null]))] sz) []) (va_A [(h0, .inr (0, [.null, .null, .null, .null, .int 0, .null, .null, .null, .null]))] sz)) (7) (1723) (va_A [(h0, .inr (0, [.null, .null, .null, .null, .int 0, .null, .null, .null, .null]))] sz) := by
  refine Met.ofW (cc := cX0_init) (maxL := 2) (ret := none) (by decide) rfl ?_
  intro p e s m args below meth c s₁ B hml hv
  obtain ⟨rfl, hsz, hP, hK, hD0⟩ := hv
  have hx := B.exec
  have hb := B.bytes
  have hr := B.returns
  have hts := atoms_spec (ws := wsX0_init) B.pre
  have hown : s.vm.findClass RX0 = some m.cls := findClass_of_methodNamed B.named
  have hlocks := B.notSynchronized
  have hin : meth.name = "<init>" := (name_of_methodNamed B.named B.method).1
  subst hsz
  have hD := hD0.self (sz := s.heap.size)
  generalize hAe : va_A [(h0, .inr (0, [.null, .null, .null, .null, .int 0, .null, .null, .null, .null]))] s.heap.size = A at hD ⊢
  have hA : ∀ q : Nat, s.heap.size ≤ q → A q := fun q h => by rw [← hAe]; exact Or.inr h
  have hS : va_S A s.heap s.heap [] := va_S.rf
  have hl := lv_entry ([.ref h0, .ref a_n]) (n := 2) (Nat.le_of_ble_eq_true rfl)
  rw [lg_entry_eq]
  generalize (lg_sl ([.ref h0, .ref a_n]) ++ List.replicate (2 - (lg_sl ([.ref h0, .ref a_n])).length) Slot.unset).toArray = ls at hl ⊢
  have hl : lv_has ls 2 [(0, .ref h0), (1, .ref a_n)] := hl
  refine lv_aload_n hx hb dX0_init_0 rfl (lv_at hl 0 rfl) ?_
  refine W.objInit hx hb hown (hts (.methodLink RX0 3 objectInit) (by decide +kernel)) (hts (.instanceMethod objectInit) (by decide +kernel)) (hts (.code objectInit ⟨#[0xb1]⟩ 1 none) (by decide +kernel)) rfl (by rw [hml]; exact hl.1) rfl dX0_init_1 (Nat.le_of_ble_eq_true rfl) (Nat.le_of_ble_eq_true rfl) ?_
  refine W.eq (g2 := F0 m 4 ls []) rfl ?_
  refine lv_aload_n hx hb dX0_init_4 rfl (lv_at hl 0 rfl) ?_
  refine lv_sipush (v := 400) hx hb dX0_init_5 (by decide) ?_
  refine va_newa (atype := .int) (n := 400) (N' := 400) (ty := .int) (a0 := (400, .inl (fun _ => 0))) hx hb (hts (.arrayClass .int) (by decide +kernel)) rfl hK hP hD hS hA (fun _ => rfl) (by decide) (by decide) (by decide) (show 0 + 1 ≤ 7 by omega) (show 0 + 400 ≤ 1723 by omega) dX0_init_8 (fun q_1 cA_2 H hK hP hD hS => ?_)
  have hP : va_P (dC, dI) vwCl [(h0, .inr (0, [.null, .null, .null, .null, .int 0, .null, .null, .null, .null])), (q_1, .inl (cA_2, 400, .inl (fun _ => 0)))] H := hP
  have hD : va_D A [(h0, .inr (0, [.null, .null, .null, .null, .int 0, .null, .null, .null, .null])), (q_1, .inl (cA_2, 400, .inl (fun _ => 0)))] := hD
  have hK : va_K (dC, dI) vwCl [(cA_2, .int)] s := hK
  refine W.widen (k := 1) (n := 400) (by omega) (by omega) ?_
  refine va_putF (D := (dC, dI)) (ci := 0) (v := .ref q_1) (ty := .array .int) (C := RX0) (T := TX0) (N := 9) hx hb hts (by decide +kernel) tyX0 tyX0_ok nmX0 hown hK hP hD hS 0 rfl rfl 1 (by decide) (hts (.fieldLink RX0 9 "ProofBench$Forms" "codes" "[I") (by decide +kernel)) (fun _ h9 => h9) rfl hin rfl (by decide +kernel) rfl rfl (Nat.le_of_ble_eq_true rfl) dX0_init_10 (fun H locs hP hD hS => ?_)
  have hP : va_P (dC, dI) vwCl [(h0, .inr (0, [.null, .ref q_1, .null, .null, .int 0, .null, .null, .null, .null])), (q_1, .inl (cA_2, 400, .inl (fun _ => 0)))] H := hP
  have hD : va_D A [(h0, .inr (0, [.null, .ref q_1, .null, .null, .int 0, .null, .null, .null, .null])), (q_1, .inl (cA_2, 400, .inl (fun _ => 0)))] := hD
  refine lv_aload_n hx hb dX0_init_13 rfl (lv_at hl 0 rfl) ?_
  refine lv_sipush (v := 400) hx hb dX0_init_14 (by decide) ?_
  refine va_newa (atype := .int) (n := 400) (N' := 400) (ty := .int) (a0 := (400, .inl (fun _ => 0))) hx hb (hts (.arrayClass .int) (by decide +kernel)) rfl hK hP hD hS hA (fun _ => rfl) (by decide) (by decide) (by decide) (show 1 + 1 ≤ 7 by omega) (show 400 + 400 ≤ 1723 by omega) dX0_init_17 (fun q_3 cA_4 H hK hP hD hS => ?_)
  have hP : va_P (dC, dI) vwCl [(h0, .inr (0, [.null, .ref q_1, .null, .null, .int 0, .null, .null, .null, .null])), (q_1, .inl (cA_2, 400, .inl (fun _ => 0))), (q_3, .inl (cA_4, 400, .inl (fun _ => 0)))] H := hP
  have hD : va_D A [(h0, .inr (0, [.null, .ref q_1, .null, .null, .int 0, .null, .null, .null, .null])), (q_1, .inl (cA_2, 400, .inl (fun _ => 0))), (q_3, .inl (cA_4, 400, .inl (fun _ => 0)))] := hD
  have hK : va_K (dC, dI) vwCl [(cA_2, .int), (cA_4, .int)] s := hK
  refine W.widen (k := 2) (n := 800) (by omega) (by omega) ?_
  refine va_putF (D := (dC, dI)) (ci := 0) (v := .ref q_3) (ty := .array .int) (C := RX0) (T := TX0) (N := 9) hx hb hts (by decide +kernel) tyX0 tyX0_ok nmX0 hown hK hP hD hS 0 rfl rfl 2 (by decide) (hts (.fieldLink RX0 15 "ProofBench$Forms" "ends" "[I") (by decide +kernel)) (fun _ h9 => h9) rfl hin rfl (by decide +kernel) rfl rfl (Nat.le_of_ble_eq_true rfl) dX0_init_19 (fun H locs hP hD hS => ?_)
  have hP : va_P (dC, dI) vwCl [(h0, .inr (0, [.null, .ref q_1, .ref q_3, .null, .int 0, .null, .null, .null, .null])), (q_1, .inl (cA_2, 400, .inl (fun _ => 0))), (q_3, .inl (cA_4, 400, .inl (fun _ => 0)))] H := hP
  have hD : va_D A [(h0, .inr (0, [.null, .ref q_1, .ref q_3, .null, .int 0, .null, .null, .null, .null])), (q_1, .inl (cA_2, 400, .inl (fun _ => 0))), (q_3, .inl (cA_4, 400, .inl (fun _ => 0)))] := hD
  refine lv_aload_n hx hb dX0_init_22 rfl (lv_at hl 0 rfl) ?_
  refine lv_sipush (v := 400) hx hb dX0_init_23 (by decide) ?_
  refine va_newa (atype := .int) (n := 400) (N' := 400) (ty := .int) (a0 := (400, .inl (fun _ => 0))) hx hb (hts (.arrayClass .int) (by decide +kernel)) rfl hK hP hD hS hA (fun _ => rfl) (by decide) (by decide) (by decide) (show 2 + 1 ≤ 7 by omega) (show 800 + 400 ≤ 1723 by omega) dX0_init_26 (fun q_5 cA_6 H hK hP hD hS => ?_)
  have hP : va_P (dC, dI) vwCl [(h0, .inr (0, [.null, .ref q_1, .ref q_3, .null, .int 0, .null, .null, .null, .null])), (q_1, .inl (cA_2, 400, .inl (fun _ => 0))), (q_3, .inl (cA_4, 400, .inl (fun _ => 0))), (q_5, .inl (cA_6, 400, .inl (fun _ => 0)))] H := hP
  have hD : va_D A [(h0, .inr (0, [.null, .ref q_1, .ref q_3, .null, .int 0, .null, .null, .null, .null])), (q_1, .inl (cA_2, 400, .inl (fun _ => 0))), (q_3, .inl (cA_4, 400, .inl (fun _ => 0))), (q_5, .inl (cA_6, 400, .inl (fun _ => 0)))] := hD
  have hK : va_K (dC, dI) vwCl [(cA_2, .int), (cA_4, .int), (cA_6, .int)] s := hK
  refine W.widen (k := 3) (n := 1200) (by omega) (by omega) ?_
  refine va_putF (D := (dC, dI)) (ci := 0) (v := .ref q_5) (ty := .array .int) (C := RX0) (T := TX0) (N := 9) hx hb hts (by decide +kernel) tyX0 tyX0_ok nmX0 hown hK hP hD hS 0 rfl rfl 3 (by decide) (hts (.fieldLink RX0 18 "ProofBench$Forms" "frees" "[I") (by decide +kernel)) (fun _ h9 => h9) rfl hin rfl (by decide +kernel) rfl rfl (Nat.le_of_ble_eq_true rfl) dX0_init_28 (fun H locs hP hD hS => ?_)
  have hP : va_P (dC, dI) vwCl [(h0, .inr (0, [.null, .ref q_1, .ref q_3, .ref q_5, .int 0, .null, .null, .null, .null])), (q_1, .inl (cA_2, 400, .inl (fun _ => 0))), (q_3, .inl (cA_4, 400, .inl (fun _ => 0))), (q_5, .inl (cA_6, 400, .inl (fun _ => 0)))] H := hP
  have hD : va_D A [(h0, .inr (0, [.null, .ref q_1, .ref q_3, .ref q_5, .int 0, .null, .null, .null, .null])), (q_1, .inl (cA_2, 400, .inl (fun _ => 0))), (q_3, .inl (cA_4, 400, .inl (fun _ => 0))), (q_5, .inl (cA_6, 400, .inl (fun _ => 0)))] := hD
  refine lv_aload_n hx hb dX0_init_31 rfl (lv_at hl 0 rfl) ?_
  refine lv_sipush (v := 403) hx hb dX0_init_32 (by decide) ?_
  refine va_newa (atype := .int) (n := 403) (N' := 403) (ty := .int) (a0 := (403, .inl (fun _ => 0))) hx hb (hts (.arrayClass .int) (by decide +kernel)) rfl hK hP hD hS hA (fun _ => rfl) (by decide) (by decide) (by decide) (show 3 + 1 ≤ 7 by omega) (show 1200 + 403 ≤ 1723 by omega) dX0_init_35 (fun q_7 cA_8 H hK hP hD hS => ?_)
  have hP : va_P (dC, dI) vwCl [(h0, .inr (0, [.null, .ref q_1, .ref q_3, .ref q_5, .int 0, .null, .null, .null, .null])), (q_1, .inl (cA_2, 400, .inl (fun _ => 0))), (q_3, .inl (cA_4, 400, .inl (fun _ => 0))), (q_5, .inl (cA_6, 400, .inl (fun _ => 0))), (q_7, .inl (cA_8, 403, .inl (fun _ => 0)))] H := hP
  have hD : va_D A [(h0, .inr (0, [.null, .ref q_1, .ref q_3, .ref q_5, .int 0, .null, .null, .null, .null])), (q_1, .inl (cA_2, 400, .inl (fun _ => 0))), (q_3, .inl (cA_4, 400, .inl (fun _ => 0))), (q_5, .inl (cA_6, 400, .inl (fun _ => 0))), (q_7, .inl (cA_8, 403, .inl (fun _ => 0)))] := hD
  have hK : va_K (dC, dI) vwCl [(cA_2, .int), (cA_4, .int), (cA_6, .int), (cA_8, .int)] s := hK
  refine W.widen (k := 4) (n := 1603) (by omega) (by omega) ?_
  refine va_putF (D := (dC, dI)) (ci := 0) (v := .ref q_7) (ty := .array .int) (C := RX0) (T := TX0) (N := 9) hx hb hts (by decide +kernel) tyX0 tyX0_ok nmX0 hown hK hP hD hS 0 rfl rfl 5 (by decide) (hts (.fieldLink RX0 21 "ProofBench$Forms" "heights" "[I") (by decide +kernel)) (fun _ h9 => h9) rfl hin rfl (by decide +kernel) rfl rfl (Nat.le_of_ble_eq_true rfl) dX0_init_37 (fun H locs hP hD hS => ?_)
  have hP : va_P (dC, dI) vwCl [(h0, .inr (0, [.null, .ref q_1, .ref q_3, .ref q_5, .int 0, .ref q_7, .null, .null, .null])), (q_1, .inl (cA_2, 400, .inl (fun _ => 0))), (q_3, .inl (cA_4, 400, .inl (fun _ => 0))), (q_5, .inl (cA_6, 400, .inl (fun _ => 0))), (q_7, .inl (cA_8, 403, .inl (fun _ => 0)))] H := hP
  have hD : va_D A [(h0, .inr (0, [.null, .ref q_1, .ref q_3, .ref q_5, .int 0, .ref q_7, .null, .null, .null])), (q_1, .inl (cA_2, 400, .inl (fun _ => 0))), (q_3, .inl (cA_4, 400, .inl (fun _ => 0))), (q_5, .inl (cA_6, 400, .inl (fun _ => 0))), (q_7, .inl (cA_8, 403, .inl (fun _ => 0)))] := hD
  refine lv_aload_n hx hb dX0_init_40 rfl (lv_at hl 0 rfl) ?_
  refine lv_bipush (v := 40) hx hb dX0_init_41 (by decide) ?_
  refine va_newa (atype := .int) (n := 40) (N' := 40) (ty := .int) (a0 := (40, .inl (fun _ => 0))) hx hb (hts (.arrayClass .int) (by decide +kernel)) rfl hK hP hD hS hA (fun _ => rfl) (by decide) (by decide) (by decide) (show 4 + 1 ≤ 7 by omega) (show 1603 + 40 ≤ 1723 by omega) dX0_init_43 (fun q_9 cA_10 H hK hP hD hS => ?_)
  have hP : va_P (dC, dI) vwCl [(h0, .inr (0, [.null, .ref q_1, .ref q_3, .ref q_5, .int 0, .ref q_7, .null, .null, .null])), (q_1, .inl (cA_2, 400, .inl (fun _ => 0))), (q_3, .inl (cA_4, 400, .inl (fun _ => 0))), (q_5, .inl (cA_6, 400, .inl (fun _ => 0))), (q_7, .inl (cA_8, 403, .inl (fun _ => 0))), (q_9, .inl (cA_10, 40, .inl (fun _ => 0)))] H := hP
  have hD : va_D A [(h0, .inr (0, [.null, .ref q_1, .ref q_3, .ref q_5, .int 0, .ref q_7, .null, .null, .null])), (q_1, .inl (cA_2, 400, .inl (fun _ => 0))), (q_3, .inl (cA_4, 400, .inl (fun _ => 0))), (q_5, .inl (cA_6, 400, .inl (fun _ => 0))), (q_7, .inl (cA_8, 403, .inl (fun _ => 0))), (q_9, .inl (cA_10, 40, .inl (fun _ => 0)))] := hD
  have hK : va_K (dC, dI) vwCl [(cA_2, .int), (cA_4, .int), (cA_6, .int), (cA_8, .int), (cA_10, .int)] s := hK
  refine W.widen (k := 5) (n := 1643) (by omega) (by omega) ?_
  refine va_putF (D := (dC, dI)) (ci := 0) (v := .ref q_9) (ty := .array .int) (C := RX0) (T := TX0) (N := 9) hx hb hts (by decide +kernel) tyX0 tyX0_ok nmX0 hown hK hP hD hS 0 rfl rfl 6 (by decide) (hts (.fieldLink RX0 24 "ProofBench$Forms" "lefts" "[I") (by decide +kernel)) (fun _ h9 => h9) rfl hin rfl (by decide +kernel) rfl rfl (Nat.le_of_ble_eq_true rfl) dX0_init_45 (fun H locs hP hD hS => ?_)
  have hP : va_P (dC, dI) vwCl [(h0, .inr (0, [.null, .ref q_1, .ref q_3, .ref q_5, .int 0, .ref q_7, .ref q_9, .null, .null])), (q_1, .inl (cA_2, 400, .inl (fun _ => 0))), (q_3, .inl (cA_4, 400, .inl (fun _ => 0))), (q_5, .inl (cA_6, 400, .inl (fun _ => 0))), (q_7, .inl (cA_8, 403, .inl (fun _ => 0))), (q_9, .inl (cA_10, 40, .inl (fun _ => 0)))] H := hP
  have hD : va_D A [(h0, .inr (0, [.null, .ref q_1, .ref q_3, .ref q_5, .int 0, .ref q_7, .ref q_9, .null, .null])), (q_1, .inl (cA_2, 400, .inl (fun _ => 0))), (q_3, .inl (cA_4, 400, .inl (fun _ => 0))), (q_5, .inl (cA_6, 400, .inl (fun _ => 0))), (q_7, .inl (cA_8, 403, .inl (fun _ => 0))), (q_9, .inl (cA_10, 40, .inl (fun _ => 0)))] := hD
  refine lv_aload_n hx hb dX0_init_48 rfl (lv_at hl 0 rfl) ?_
  refine lv_bipush (v := 40) hx hb dX0_init_49 (by decide) ?_
  refine va_newa (atype := .int) (n := 40) (N' := 40) (ty := .int) (a0 := (40, .inl (fun _ => 0))) hx hb (hts (.arrayClass .int) (by decide +kernel)) rfl hK hP hD hS hA (fun _ => rfl) (by decide) (by decide) (by decide) (show 5 + 1 ≤ 7 by omega) (show 1643 + 40 ≤ 1723 by omega) dX0_init_51 (fun q_11 cA_12 H hK hP hD hS => ?_)
  have hP : va_P (dC, dI) vwCl [(h0, .inr (0, [.null, .ref q_1, .ref q_3, .ref q_5, .int 0, .ref q_7, .ref q_9, .null, .null])), (q_1, .inl (cA_2, 400, .inl (fun _ => 0))), (q_3, .inl (cA_4, 400, .inl (fun _ => 0))), (q_5, .inl (cA_6, 400, .inl (fun _ => 0))), (q_7, .inl (cA_8, 403, .inl (fun _ => 0))), (q_9, .inl (cA_10, 40, .inl (fun _ => 0))), (q_11, .inl (cA_12, 40, .inl (fun _ => 0)))] H := hP
  have hD : va_D A [(h0, .inr (0, [.null, .ref q_1, .ref q_3, .ref q_5, .int 0, .ref q_7, .ref q_9, .null, .null])), (q_1, .inl (cA_2, 400, .inl (fun _ => 0))), (q_3, .inl (cA_4, 400, .inl (fun _ => 0))), (q_5, .inl (cA_6, 400, .inl (fun _ => 0))), (q_7, .inl (cA_8, 403, .inl (fun _ => 0))), (q_9, .inl (cA_10, 40, .inl (fun _ => 0))), (q_11, .inl (cA_12, 40, .inl (fun _ => 0)))] := hD
  have hK : va_K (dC, dI) vwCl [(cA_2, .int), (cA_4, .int), (cA_6, .int), (cA_8, .int), (cA_10, .int), (cA_12, .int)] s := hK
  refine W.widen (k := 6) (n := 1683) (by omega) (by omega) ?_
  refine va_putF (D := (dC, dI)) (ci := 0) (v := .ref q_11) (ty := .array .int) (C := RX0) (T := TX0) (N := 9) hx hb hts (by decide +kernel) tyX0 tyX0_ok nmX0 hown hK hP hD hS 0 rfl rfl 7 (by decide) (hts (.fieldLink RX0 27 "ProofBench$Forms" "rights" "[I") (by decide +kernel)) (fun _ h9 => h9) rfl hin rfl (by decide +kernel) rfl rfl (Nat.le_of_ble_eq_true rfl) dX0_init_53 (fun H locs hP hD hS => ?_)
  have hP : va_P (dC, dI) vwCl [(h0, .inr (0, [.null, .ref q_1, .ref q_3, .ref q_5, .int 0, .ref q_7, .ref q_9, .ref q_11, .null])), (q_1, .inl (cA_2, 400, .inl (fun _ => 0))), (q_3, .inl (cA_4, 400, .inl (fun _ => 0))), (q_5, .inl (cA_6, 400, .inl (fun _ => 0))), (q_7, .inl (cA_8, 403, .inl (fun _ => 0))), (q_9, .inl (cA_10, 40, .inl (fun _ => 0))), (q_11, .inl (cA_12, 40, .inl (fun _ => 0)))] H := hP
  have hD : va_D A [(h0, .inr (0, [.null, .ref q_1, .ref q_3, .ref q_5, .int 0, .ref q_7, .ref q_9, .ref q_11, .null])), (q_1, .inl (cA_2, 400, .inl (fun _ => 0))), (q_3, .inl (cA_4, 400, .inl (fun _ => 0))), (q_5, .inl (cA_6, 400, .inl (fun _ => 0))), (q_7, .inl (cA_8, 403, .inl (fun _ => 0))), (q_9, .inl (cA_10, 40, .inl (fun _ => 0))), (q_11, .inl (cA_12, 40, .inl (fun _ => 0)))] := hD
  refine lv_aload_n hx hb dX0_init_56 rfl (lv_at hl 0 rfl) ?_
  refine lv_bipush (v := 40) hx hb dX0_init_57 (by decide) ?_
  refine va_newa (atype := .int) (n := 40) (N' := 40) (ty := .int) (a0 := (40, .inl (fun _ => 0))) hx hb (hts (.arrayClass .int) (by decide +kernel)) rfl hK hP hD hS hA (fun _ => rfl) (by decide) (by decide) (by decide) (show 6 + 1 ≤ 7 by omega) (show 1683 + 40 ≤ 1723 by omega) dX0_init_59 (fun q_13 cA_14 H hK hP hD hS => ?_)
  have hP : va_P (dC, dI) vwCl [(h0, .inr (0, [.null, .ref q_1, .ref q_3, .ref q_5, .int 0, .ref q_7, .ref q_9, .ref q_11, .null])), (q_1, .inl (cA_2, 400, .inl (fun _ => 0))), (q_3, .inl (cA_4, 400, .inl (fun _ => 0))), (q_5, .inl (cA_6, 400, .inl (fun _ => 0))), (q_7, .inl (cA_8, 403, .inl (fun _ => 0))), (q_9, .inl (cA_10, 40, .inl (fun _ => 0))), (q_11, .inl (cA_12, 40, .inl (fun _ => 0))), (q_13, .inl (cA_14, 40, .inl (fun _ => 0)))] H := hP
  have hD : va_D A [(h0, .inr (0, [.null, .ref q_1, .ref q_3, .ref q_5, .int 0, .ref q_7, .ref q_9, .ref q_11, .null])), (q_1, .inl (cA_2, 400, .inl (fun _ => 0))), (q_3, .inl (cA_4, 400, .inl (fun _ => 0))), (q_5, .inl (cA_6, 400, .inl (fun _ => 0))), (q_7, .inl (cA_8, 403, .inl (fun _ => 0))), (q_9, .inl (cA_10, 40, .inl (fun _ => 0))), (q_11, .inl (cA_12, 40, .inl (fun _ => 0))), (q_13, .inl (cA_14, 40, .inl (fun _ => 0)))] := hD
  have hK : va_K (dC, dI) vwCl [(cA_2, .int), (cA_4, .int), (cA_6, .int), (cA_8, .int), (cA_10, .int), (cA_12, .int), (cA_14, .int)] s := hK
  refine W.widen (k := 7) (n := 1723) (by omega) (by omega) ?_
  refine va_putF (D := (dC, dI)) (ci := 0) (v := .ref q_13) (ty := .array .int) (C := RX0) (T := TX0) (N := 9) hx hb hts (by decide +kernel) tyX0 tyX0_ok nmX0 hown hK hP hD hS 0 rfl rfl 8 (by decide) (hts (.fieldLink RX0 30 "ProofBench$Forms" "needs" "[I") (by decide +kernel)) (fun _ h9 => h9) rfl hin rfl (by decide +kernel) rfl rfl (Nat.le_of_ble_eq_true rfl) dX0_init_61 (fun H locs hP hD hS => ?_)
  have hP : va_P (dC, dI) vwCl [(h0, .inr (0, [.null, .ref q_1, .ref q_3, .ref q_5, .int 0, .ref q_7, .ref q_9, .ref q_11, .ref q_13])), (q_1, .inl (cA_2, 400, .inl (fun _ => 0))), (q_3, .inl (cA_4, 400, .inl (fun _ => 0))), (q_5, .inl (cA_6, 400, .inl (fun _ => 0))), (q_7, .inl (cA_8, 403, .inl (fun _ => 0))), (q_9, .inl (cA_10, 40, .inl (fun _ => 0))), (q_11, .inl (cA_12, 40, .inl (fun _ => 0))), (q_13, .inl (cA_14, 40, .inl (fun _ => 0)))] H := hP
  have hD : va_D A [(h0, .inr (0, [.null, .ref q_1, .ref q_3, .ref q_5, .int 0, .ref q_7, .ref q_9, .ref q_11, .ref q_13])), (q_1, .inl (cA_2, 400, .inl (fun _ => 0))), (q_3, .inl (cA_4, 400, .inl (fun _ => 0))), (q_5, .inl (cA_6, 400, .inl (fun _ => 0))), (q_7, .inl (cA_8, 403, .inl (fun _ => 0))), (q_9, .inl (cA_10, 40, .inl (fun _ => 0))), (q_11, .inl (cA_12, 40, .inl (fun _ => 0))), (q_13, .inl (cA_14, 40, .inl (fun _ => 0)))] := hD
  refine lv_aload_n hx hb dX0_init_64 rfl (lv_at hl 0 rfl) ?_
  refine lv_aload_n hx hb dX0_init_65 rfl (lv_at hl 1 rfl) ?_
  refine va_putF (D := (dC, dI)) (ci := 0) (v := .ref a_n) (ty := .object "ProofBench$Names") (C := RX0) (T := TX0) (N := 9) hx hb hts (by decide +kernel) tyX0 tyX0_ok nmX0 hown hK hP hD hS 0 rfl rfl 0 (by decide) (hts (.fieldLink RX0 33 "ProofBench$Forms" "names" "LProofBench$Names;") (by decide +kernel)) (fun _ h9 => h9) rfl hin rfl (by decide +kernel) rfl rfl (Nat.le_of_ble_eq_true rfl) dX0_init_66 (fun H locs hP hD hS => ?_)
  have hP : va_P (dC, dI) vwCl [(h0, .inr (0, [.ref a_n, .ref q_1, .ref q_3, .ref q_5, .int 0, .ref q_7, .ref q_9, .ref q_11, .ref q_13])), (q_1, .inl (cA_2, 400, .inl (fun _ => 0))), (q_3, .inl (cA_4, 400, .inl (fun _ => 0))), (q_5, .inl (cA_6, 400, .inl (fun _ => 0))), (q_7, .inl (cA_8, 403, .inl (fun _ => 0))), (q_9, .inl (cA_10, 40, .inl (fun _ => 0))), (q_11, .inl (cA_12, 40, .inl (fun _ => 0))), (q_13, .inl (cA_14, 40, .inl (fun _ => 0)))] H := hP
  have hD : va_D A [(h0, .inr (0, [.ref a_n, .ref q_1, .ref q_3, .ref q_5, .int 0, .ref q_7, .ref q_9, .ref q_11, .ref q_13])), (q_1, .inl (cA_2, 400, .inl (fun _ => 0))), (q_3, .inl (cA_4, 400, .inl (fun _ => 0))), (q_5, .inl (cA_6, 400, .inl (fun _ => 0))), (q_7, .inl (cA_8, 403, .inl (fun _ => 0))), (q_9, .inl (cA_10, 40, .inl (fun _ => 0))), (q_11, .inl (cA_12, 40, .inl (fun _ => 0))), (q_13, .inl (cA_14, 40, .inl (fun _ => 0)))] := hD
  have hP9 := hP.sub (ws' := []) [] rfl
  have hD9 := hD.sub (ws' := []) [] (by decide) rfl
  have hK9 := hK.sub (tys' := []) [] rfl
  refine W.widen (k := 7) (n := 1723) (by omega) (by omega) ?_
  exact W.vret hx hb hr (fun t ht hW => ⟨⟨(), rfl, trivial, by rw [ht]; exact hP9, va_K.moved hW.alike hK9, hD9⟩, hS.F ht⟩) hS.2.2 dX0_init_69
set_option maxHeartbeats 1000000 in
set_option maxRecDepth 100000 in
/-- Look(tape, names, model) -/
theorem c_Look_init (l : Launch) (dC : Nat → ClassId) (dI : Nat → Nat → Nat) (sz : Nat) (h0 a_t a_n a_m : Nat) : Met l yX1_init wsX1_init ({ frames := 2, cells := 6, slots := 811, locals := 33 }) (va_Pc [.ref h0, .ref a_t, .ref a_n, .ref a_m] (fun U => U.heap.size = sz ∧ va_P (dC, dI) vwCl [(h0, .inr (1, [.null, .null, .null, .null, .null, .null, .null, .int 0, .long 0, .null, .int 0, .int 0]))] U.heap ∧ va_K (dC, dI) vwCl [] U ∧ va_D (fun _ => True) [(h0, .inr (1, [.null, .null, .null, .null, .null, .null, .null, .int 0, .long 0, .null, .int 0, .int 0]))])) (va_Qv (fun _ : Unit => True) (fun _ t => va_P (dC, dI) vwCl [] t.heap ∧ va_K (dC, dI) vwCl [] t ∧ va_D (va_A [(h0, .inr (1, [.null, .null, .null, .null, .null, .null, .null, .int 0, .long 0, .null, .int 0, .int 0]))] sz) []) (va_A [(h0, .inr (1, [.null, .null, .null, .null, .null, .null, .null, .int 0, .long 0, .null, .int 0, .int 0]))] sz)) (6) (811) (va_A [(h0, .inr (1, [.null, .null, .null, .null, .null, .null, .null, .int 0, .long 0, .null, .int 0, .int 0]))] sz) := by
  refine Met.ofW (cc := cX1_init) (maxL := 4) (ret := none) (by decide) rfl ?_
  intro p e s m args below meth c s₁ B hml hv
  obtain ⟨rfl, hsz, hP, hK, hD0⟩ := hv
  have hx := B.exec
  have hb := B.bytes
  have hr := B.returns
  have hts := atoms_spec (ws := wsX1_init) B.pre
  have hown : s.vm.findClass RX1 = some m.cls := findClass_of_methodNamed B.named
  have hlocks := B.notSynchronized
  have hin : meth.name = "<init>" := (name_of_methodNamed B.named B.method).1
  subst hsz
  have hD := hD0.self (sz := s.heap.size)
  generalize hAe : va_A [(h0, .inr (1, [.null, .null, .null, .null, .null, .null, .null, .int 0, .long 0, .null, .int 0, .int 0]))] s.heap.size = A at hD ⊢
  have hA : ∀ q : Nat, s.heap.size ≤ q → A q := fun q h => by rw [← hAe]; exact Or.inr h
  have hS : va_S A s.heap s.heap [] := va_S.rf
  have hl := lv_entry ([.ref h0, .ref a_t, .ref a_n, .ref a_m]) (n := 4) (Nat.le_of_ble_eq_true rfl)
  rw [lg_entry_eq]
  generalize (lg_sl ([.ref h0, .ref a_t, .ref a_n, .ref a_m]) ++ List.replicate (4 - (lg_sl ([.ref h0, .ref a_t, .ref a_n, .ref a_m])).length) Slot.unset).toArray = ls at hl ⊢
  have hl : lv_has ls 4 [(0, .ref h0), (1, .ref a_t), (2, .ref a_n), (3, .ref a_m)] := hl
  refine lv_aload_n hx hb dX1_init_0 rfl (lv_at hl 0 rfl) ?_
  refine W.objInit hx hb hown (hts (.methodLink RX1 3 objectInit) (by decide +kernel)) (hts (.instanceMethod objectInit) (by decide +kernel)) (hts (.code objectInit ⟨#[0xb1]⟩ 1 none) (by decide +kernel)) rfl (by rw [hml]; exact hl.1) rfl dX1_init_1 (Nat.le_of_ble_eq_true rfl) (Nat.le_of_ble_eq_true rfl) ?_
  refine W.eq (g2 := F0 m 4 ls []) rfl ?_
  refine lv_aload_n hx hb dX1_init_4 rfl (lv_at hl 0 rfl) ?_
  refine va_new (ci := 6) (fs := [.null, .int 0]) (C := RX6) (T := TX6) (N := 2) hx hb hts (by decide +kernel) tyX6 tyX6_ok hown (hts (.classLink RX1 9 RX6) (by decide +kernel)) (hts (.instantiable RX6 2) (by decide +kernel)) (hts (.initialized RX6) (by decide +kernel)) hK hP hD hS hA rfl (fun j hj => by rcases (show j = 0 ∨ j = 1 by omega) with rfl | rfl <;> rfl) (show 0 + 1 ≤ 6 by omega) (show 0 + 2 ≤ 811 by omega) dX1_init_5 (fun q_1 H hP hD hS => ?_)
  have hP : va_P (dC, dI) vwCl [(h0, .inr (1, [.null, .null, .null, .null, .null, .null, .null, .int 0, .long 0, .null, .int 0, .int 0])), (q_1, .inr (6, [.null, .int 0]))] H := hP
  have hD : va_D A [(h0, .inr (1, [.null, .null, .null, .null, .null, .null, .null, .int 0, .long 0, .null, .int 0, .int 0])), (q_1, .inr (6, [.null, .int 0]))] := hD
  refine W.widen (k := 1) (n := 2) (by omega) (by omega) ?_
  refine lv_dup hx hb dX1_init_8 rfl ?_
  refine lv_sipush (v := 400) hx hb dX1_init_9 (by decide) ?_
  have hPc := hP.sub (ws' := [(q_1, .inr (6, [.null, .int 0]))]) [1] rfl
  have hDc := hD.sub (ws' := [(q_1, .inr (6, [.null, .int 0]))]) [1] (by decide) rfl
  have hKc := hK.sub (tys' := []) [] rfl
  have hFc := va_free (wc := [(q_1, .inr (6, [.null, .int 0]))]) hD hS hA [1] rfl
  refine va_callv (va_runI (As := [.int 400]) (rest := [.ref q_1, .ref h0]) ⟨hx, hb, hml, hown, hts⟩ (c_Row_init l dC dI H.size q_1 400 400 (by decide) (by decide) (by decide)) (cwI 1 hts gX1_init_X6_init rfl rfl rfl (hts (.initialized RX6) (by decide +kernel)) (hts (.methodLink RX1 11 yX6_init) (by decide +kernel)) (hts (.instanceMethod yX6_init) (by decide +kernel)) rfl (by decide +kernel) ⟨Nat.le_of_ble_eq_true rfl, Nat.le_of_ble_eq_true rfl⟩) ⟨fun a U g mk q => by obtain ⟨q0, q1, qP, qK, qD⟩ := q; exact ⟨q0, q1, qP, va_K.moved (u := U) (U := U.calling g mk a) (Vm.Alike.refl U.vm) qK, qD⟩, fun U hU hW => ⟨rfl, by rw [hU], by rw [hU]; exact hPc, va_K.moved hW.alike hKc, hDc.weaken (fun _ _ _ _ => trivial)⟩⟩ rfl rfl hl.1 rfl (lv_room (Nat.le_of_ble_eq_true rfl)) dX1_init_12 ⟨(show 1 + 1 ≤ 6 by omega), (show 2 + 400 ≤ 811 by omega)⟩) hS (fun q _ h => hFc q h) hFc (fun u t H1 locs ht hvm hw hB hz1 hk1 hS => ?_)
  obtain ⟨q_2, cA_3, hP1, hK1, hD1⟩ := hB
  rw [ht] at hP1
  have hK1 := va_K.moved hvm.symm hK1
  obtain ⟨hP, hD⟩ := va_join (wr := [(h0, .inr (1, [.null, .null, .null, .null, .null, .null, .null, .int 0, .long 0, .null, .int 0, .int 0]))]) (w1 := [(q_1, .inr (6, [.ref q_2, .int 0])), (q_2, .inl (cA_3, 400, .inl (fun _ => 0)))]) hP hD [1] [0] rfl rfl (by decide) (by decide) hk1 hFc hP1 hD1
  have hK := (hK.sub (tys' := []) [] rfl).app hK1
  generalize H1 = H at hP hS ⊢
  have hP : va_P (dC, dI) vwCl [(h0, .inr (1, [.null, .null, .null, .null, .null, .null, .null, .int 0, .long 0, .null, .int 0, .int 0])), (q_1, .inr (6, [.ref q_2, .int 0])), (q_2, .inl (cA_3, 400, .inl (fun _ => 0)))] H := hP
  have hD : va_D A [(h0, .inr (1, [.null, .null, .null, .null, .null, .null, .null, .int 0, .long 0, .null, .int 0, .int 0])), (q_1, .inr (6, [.ref q_2, .int 0])), (q_2, .inl (cA_3, 400, .inl (fun _ => 0)))] := hD
  have hK : va_K (dC, dI) vwCl [(cA_3, .int)] s := hK
  refine W.widen (k := 2) (n := 402) (by omega) (by omega) ?_
  refine va_putF (D := (dC, dI)) (ci := 1) (v := .ref q_1) (ty := .object "ProofBench$Row") (C := RX1) (T := TX1) (N := 12) hx hb hts (by decide +kernel) tyX1 tyX1_ok nmX1 hown hK hP hD hS 0 rfl rfl 3 (by decide) (hts (.fieldLink RX1 14 "ProofBench$Look" "first" "LProofBench$Row;") (by decide +kernel)) (fun _ h9 => h9) rfl hin rfl (by decide +kernel) rfl rfl (Nat.le_of_ble_eq_true rfl) dX1_init_15 (fun H locs hP hD hS => ?_)
  have hP : va_P (dC, dI) vwCl [(h0, .inr (1, [.null, .null, .null, .ref q_1, .null, .null, .null, .int 0, .long 0, .null, .int 0, .int 0])), (q_1, .inr (6, [.ref q_2, .int 0])), (q_2, .inl (cA_3, 400, .inl (fun _ => 0)))] H := hP
  have hD : va_D A [(h0, .inr (1, [.null, .null, .null, .ref q_1, .null, .null, .null, .int 0, .long 0, .null, .int 0, .int 0])), (q_1, .inr (6, [.ref q_2, .int 0])), (q_2, .inl (cA_3, 400, .inl (fun _ => 0)))] := hD
  refine lv_aload_n hx hb dX1_init_18 rfl (lv_at hl 0 rfl) ?_
  refine va_new (ci := 6) (fs := [.null, .int 0]) (C := RX6) (T := TX6) (N := 2) hx hb hts (by decide +kernel) tyX6 tyX6_ok hown (hts (.classLink RX1 9 RX6) (by decide +kernel)) (hts (.instantiable RX6 2) (by decide +kernel)) (hts (.initialized RX6) (by decide +kernel)) hK hP hD hS hA rfl (fun j hj => by rcases (show j = 0 ∨ j = 1 by omega) with rfl | rfl <;> rfl) (show 2 + 1 ≤ 6 by omega) (show 402 + 2 ≤ 811 by omega) dX1_init_19 (fun q_4 H hP hD hS => ?_)
  have hP : va_P (dC, dI) vwCl [(h0, .inr (1, [.null, .null, .null, .ref q_1, .null, .null, .null, .int 0, .long 0, .null, .int 0, .int 0])), (q_1, .inr (6, [.ref q_2, .int 0])), (q_2, .inl (cA_3, 400, .inl (fun _ => 0))), (q_4, .inr (6, [.null, .int 0]))] H := hP
  have hD : va_D A [(h0, .inr (1, [.null, .null, .null, .ref q_1, .null, .null, .null, .int 0, .long 0, .null, .int 0, .int 0])), (q_1, .inr (6, [.ref q_2, .int 0])), (q_2, .inl (cA_3, 400, .inl (fun _ => 0))), (q_4, .inr (6, [.null, .int 0]))] := hD
  refine W.widen (k := 3) (n := 404) (by omega) (by omega) ?_
  refine lv_dup hx hb dX1_init_22 rfl ?_
  refine lv_sipush (v := 400) hx hb dX1_init_23 (by decide) ?_
  have hPc := hP.sub (ws' := [(q_4, .inr (6, [.null, .int 0]))]) [3] rfl
  have hDc := hD.sub (ws' := [(q_4, .inr (6, [.null, .int 0]))]) [3] (by decide) rfl
  have hKc := hK.sub (tys' := []) [] rfl
  have hFc := va_free (wc := [(q_4, .inr (6, [.null, .int 0]))]) hD hS hA [3] rfl
  refine va_callv (va_runI (As := [.int 400]) (rest := [.ref q_4, .ref h0]) ⟨hx, hb, hml, hown, hts⟩ (c_Row_init l dC dI H.size q_4 400 400 (by decide) (by decide) (by decide)) (cwI 1 hts gX1_init_X6_init rfl rfl rfl (hts (.initialized RX6) (by decide +kernel)) (hts (.methodLink RX1 11 yX6_init) (by decide +kernel)) (hts (.instanceMethod yX6_init) (by decide +kernel)) rfl (by decide +kernel) ⟨Nat.le_of_ble_eq_true rfl, Nat.le_of_ble_eq_true rfl⟩) ⟨fun a U g mk q => by obtain ⟨q0, q1, qP, qK, qD⟩ := q; exact ⟨q0, q1, qP, va_K.moved (u := U) (U := U.calling g mk a) (Vm.Alike.refl U.vm) qK, qD⟩, fun U hU hW => ⟨rfl, by rw [hU], by rw [hU]; exact hPc, va_K.moved hW.alike hKc, hDc.weaken (fun _ _ _ _ => trivial)⟩⟩ rfl rfl hl.1 rfl (lv_room (Nat.le_of_ble_eq_true rfl)) dX1_init_26 ⟨(show 3 + 1 ≤ 6 by omega), (show 404 + 400 ≤ 811 by omega)⟩) hS (fun q _ h => hFc q h) hFc (fun u t H1 locs ht hvm hw hB hz1 hk1 hS => ?_)
  obtain ⟨q_5, cA_6, hP1, hK1, hD1⟩ := hB
  rw [ht] at hP1
  have hK1 := va_K.moved hvm.symm hK1
  obtain ⟨hP, hD⟩ := va_join (wr := [(h0, .inr (1, [.null, .null, .null, .ref q_1, .null, .null, .null, .int 0, .long 0, .null, .int 0, .int 0])), (q_1, .inr (6, [.ref q_2, .int 0])), (q_2, .inl (cA_3, 400, .inl (fun _ => 0)))]) (w1 := [(q_4, .inr (6, [.ref q_5, .int 0])), (q_5, .inl (cA_6, 400, .inl (fun _ => 0)))]) hP hD [3] [0, 1, 2] rfl rfl (by decide) (by decide) hk1 hFc hP1 hD1
  have hK := (hK.sub (tys' := [(cA_3, .int)]) [0] rfl).app hK1
  generalize H1 = H at hP hS ⊢
  have hP : va_P (dC, dI) vwCl [(h0, .inr (1, [.null, .null, .null, .ref q_1, .null, .null, .null, .int 0, .long 0, .null, .int 0, .int 0])), (q_1, .inr (6, [.ref q_2, .int 0])), (q_2, .inl (cA_3, 400, .inl (fun _ => 0))), (q_4, .inr (6, [.ref q_5, .int 0])), (q_5, .inl (cA_6, 400, .inl (fun _ => 0)))] H := hP
  have hD : va_D A [(h0, .inr (1, [.null, .null, .null, .ref q_1, .null, .null, .null, .int 0, .long 0, .null, .int 0, .int 0])), (q_1, .inr (6, [.ref q_2, .int 0])), (q_2, .inl (cA_3, 400, .inl (fun _ => 0))), (q_4, .inr (6, [.ref q_5, .int 0])), (q_5, .inl (cA_6, 400, .inl (fun _ => 0)))] := hD
  have hK : va_K (dC, dI) vwCl [(cA_3, .int), (cA_6, .int)] s := hK
  refine W.widen (k := 4) (n := 804) (by omega) (by omega) ?_
  refine va_putF (D := (dC, dI)) (ci := 1) (v := .ref q_4) (ty := .object "ProofBench$Row") (C := RX1) (T := TX1) (N := 12) hx hb hts (by decide +kernel) tyX1 tyX1_ok nmX1 hown hK hP hD hS 0 rfl rfl 4 (by decide) (hts (.fieldLink RX1 20 "ProofBench$Look" "second" "LProofBench$Row;") (by decide +kernel)) (fun _ h9 => h9) rfl hin rfl (by decide +kernel) rfl rfl (Nat.le_of_ble_eq_true rfl) dX1_init_29 (fun H locs hP hD hS => ?_)
  have hP : va_P (dC, dI) vwCl [(h0, .inr (1, [.null, .null, .null, .ref q_1, .ref q_4, .null, .null, .int 0, .long 0, .null, .int 0, .int 0])), (q_1, .inr (6, [.ref q_2, .int 0])), (q_2, .inl (cA_3, 400, .inl (fun _ => 0))), (q_4, .inr (6, [.ref q_5, .int 0])), (q_5, .inl (cA_6, 400, .inl (fun _ => 0)))] H := hP
  have hD : va_D A [(h0, .inr (1, [.null, .null, .null, .ref q_1, .ref q_4, .null, .null, .int 0, .long 0, .null, .int 0, .int 0])), (q_1, .inr (6, [.ref q_2, .int 0])), (q_2, .inl (cA_3, 400, .inl (fun _ => 0))), (q_4, .inr (6, [.ref q_5, .int 0])), (q_5, .inl (cA_6, 400, .inl (fun _ => 0)))] := hD
  refine lv_aload_n hx hb dX1_init_32 rfl (lv_at hl 0 rfl) ?_
  refine lv_iconst (v := 4) hx hb dX1_init_33 (by decide) ?_
  refine va_newa (atype := .int) (n := 4) (N' := 4) (ty := .int) (a0 := (4, .inl (fun _ => 0))) hx hb (hts (.arrayClass .int) (by decide +kernel)) rfl hK hP hD hS hA (fun _ => rfl) (by decide) (by decide) (by decide) (show 4 + 1 ≤ 6 by omega) (show 804 + 4 ≤ 811 by omega) dX1_init_34 (fun q_7 cA_8 H hK hP hD hS => ?_)
  have hP : va_P (dC, dI) vwCl [(h0, .inr (1, [.null, .null, .null, .ref q_1, .ref q_4, .null, .null, .int 0, .long 0, .null, .int 0, .int 0])), (q_1, .inr (6, [.ref q_2, .int 0])), (q_2, .inl (cA_3, 400, .inl (fun _ => 0))), (q_4, .inr (6, [.ref q_5, .int 0])), (q_5, .inl (cA_6, 400, .inl (fun _ => 0))), (q_7, .inl (cA_8, 4, .inl (fun _ => 0)))] H := hP
  have hD : va_D A [(h0, .inr (1, [.null, .null, .null, .ref q_1, .ref q_4, .null, .null, .int 0, .long 0, .null, .int 0, .int 0])), (q_1, .inr (6, [.ref q_2, .int 0])), (q_2, .inl (cA_3, 400, .inl (fun _ => 0))), (q_4, .inr (6, [.ref q_5, .int 0])), (q_5, .inl (cA_6, 400, .inl (fun _ => 0))), (q_7, .inl (cA_8, 4, .inl (fun _ => 0)))] := hD
  have hK : va_K (dC, dI) vwCl [(cA_3, .int), (cA_6, .int), (cA_8, .int)] s := hK
  refine W.widen (k := 5) (n := 808) (by omega) (by omega) ?_
  refine va_putF (D := (dC, dI)) (ci := 1) (v := .ref q_7) (ty := .array .int) (C := RX1) (T := TX1) (N := 12) hx hb hts (by decide +kernel) tyX1 tyX1_ok nmX1 hown hK hP hD hS 0 rfl rfl 5 (by decide) (hts (.fieldLink RX1 25 "ProofBench$Look" "values" "[I") (by decide +kernel)) (fun _ h9 => h9) rfl hin rfl (by decide +kernel) rfl rfl (Nat.le_of_ble_eq_true rfl) dX1_init_36 (fun H locs hP hD hS => ?_)
  have hP : va_P (dC, dI) vwCl [(h0, .inr (1, [.null, .null, .null, .ref q_1, .ref q_4, .ref q_7, .null, .int 0, .long 0, .null, .int 0, .int 0])), (q_1, .inr (6, [.ref q_2, .int 0])), (q_2, .inl (cA_3, 400, .inl (fun _ => 0))), (q_4, .inr (6, [.ref q_5, .int 0])), (q_5, .inl (cA_6, 400, .inl (fun _ => 0))), (q_7, .inl (cA_8, 4, .inl (fun _ => 0)))] H := hP
  have hD : va_D A [(h0, .inr (1, [.null, .null, .null, .ref q_1, .ref q_4, .ref q_7, .null, .int 0, .long 0, .null, .int 0, .int 0])), (q_1, .inr (6, [.ref q_2, .int 0])), (q_2, .inl (cA_3, 400, .inl (fun _ => 0))), (q_4, .inr (6, [.ref q_5, .int 0])), (q_5, .inl (cA_6, 400, .inl (fun _ => 0))), (q_7, .inl (cA_8, 4, .inl (fun _ => 0)))] := hD
  refine lv_aload_n hx hb dX1_init_39 rfl (lv_at hl 0 rfl) ?_
  refine lv_iconst (v := 3) hx hb dX1_init_40 (by decide) ?_
  refine va_newa (atype := .int) (n := 3) (N' := 3) (ty := .int) (a0 := (3, .inl (fun _ => 0))) hx hb (hts (.arrayClass .int) (by decide +kernel)) rfl hK hP hD hS hA (fun _ => rfl) (by decide) (by decide) (by decide) (show 5 + 1 ≤ 6 by omega) (show 808 + 3 ≤ 811 by omega) dX1_init_41 (fun q_9 cA_10 H hK hP hD hS => ?_)
  have hP : va_P (dC, dI) vwCl [(h0, .inr (1, [.null, .null, .null, .ref q_1, .ref q_4, .ref q_7, .null, .int 0, .long 0, .null, .int 0, .int 0])), (q_1, .inr (6, [.ref q_2, .int 0])), (q_2, .inl (cA_3, 400, .inl (fun _ => 0))), (q_4, .inr (6, [.ref q_5, .int 0])), (q_5, .inl (cA_6, 400, .inl (fun _ => 0))), (q_7, .inl (cA_8, 4, .inl (fun _ => 0))), (q_9, .inl (cA_10, 3, .inl (fun _ => 0)))] H := hP
  have hD : va_D A [(h0, .inr (1, [.null, .null, .null, .ref q_1, .ref q_4, .ref q_7, .null, .int 0, .long 0, .null, .int 0, .int 0])), (q_1, .inr (6, [.ref q_2, .int 0])), (q_2, .inl (cA_3, 400, .inl (fun _ => 0))), (q_4, .inr (6, [.ref q_5, .int 0])), (q_5, .inl (cA_6, 400, .inl (fun _ => 0))), (q_7, .inl (cA_8, 4, .inl (fun _ => 0))), (q_9, .inl (cA_10, 3, .inl (fun _ => 0)))] := hD
  have hK : va_K (dC, dI) vwCl [(cA_3, .int), (cA_6, .int), (cA_8, .int), (cA_10, .int)] s := hK
  refine W.widen (k := 6) (n := 811) (by omega) (by omega) ?_
  refine va_putF (D := (dC, dI)) (ci := 1) (v := .ref q_9) (ty := .array .int) (C := RX1) (T := TX1) (N := 12) hx hb hts (by decide +kernel) tyX1 tyX1_ok nmX1 hown hK hP hD hS 0 rfl rfl 6 (by decide) (hts (.fieldLink RX1 29 "ProofBench$Look" "row" "[I") (by decide +kernel)) (fun _ h9 => h9) rfl hin rfl (by decide +kernel) rfl rfl (Nat.le_of_ble_eq_true rfl) dX1_init_43 (fun H locs hP hD hS => ?_)
  have hP : va_P (dC, dI) vwCl [(h0, .inr (1, [.null, .null, .null, .ref q_1, .ref q_4, .ref q_7, .ref q_9, .int 0, .long 0, .null, .int 0, .int 0])), (q_1, .inr (6, [.ref q_2, .int 0])), (q_2, .inl (cA_3, 400, .inl (fun _ => 0))), (q_4, .inr (6, [.ref q_5, .int 0])), (q_5, .inl (cA_6, 400, .inl (fun _ => 0))), (q_7, .inl (cA_8, 4, .inl (fun _ => 0))), (q_9, .inl (cA_10, 3, .inl (fun _ => 0)))] H := hP
  have hD : va_D A [(h0, .inr (1, [.null, .null, .null, .ref q_1, .ref q_4, .ref q_7, .ref q_9, .int 0, .long 0, .null, .int 0, .int 0])), (q_1, .inr (6, [.ref q_2, .int 0])), (q_2, .inl (cA_3, 400, .inl (fun _ => 0))), (q_4, .inr (6, [.ref q_5, .int 0])), (q_5, .inl (cA_6, 400, .inl (fun _ => 0))), (q_7, .inl (cA_8, 4, .inl (fun _ => 0))), (q_9, .inl (cA_10, 3, .inl (fun _ => 0)))] := hD
  refine lv_aload_n hx hb dX1_init_46 rfl (lv_at hl 0 rfl) ?_
  refine lv_aload_n hx hb dX1_init_47 rfl (lv_at hl 1 rfl) ?_
  refine va_putF (D := (dC, dI)) (ci := 1) (v := .ref a_t) (ty := .object "ProofBench$Tape") (C := RX1) (T := TX1) (N := 12) hx hb hts (by decide +kernel) tyX1 tyX1_ok nmX1 hown hK hP hD hS 0 rfl rfl 0 (by decide) (hts (.fieldLink RX1 32 "ProofBench$Look" "tape" "LProofBench$Tape;") (by decide +kernel)) (fun _ h9 => h9) rfl hin rfl (by decide +kernel) rfl rfl (Nat.le_of_ble_eq_true rfl) dX1_init_48 (fun H locs hP hD hS => ?_)
  have hP : va_P (dC, dI) vwCl [(h0, .inr (1, [.ref a_t, .null, .null, .ref q_1, .ref q_4, .ref q_7, .ref q_9, .int 0, .long 0, .null, .int 0, .int 0])), (q_1, .inr (6, [.ref q_2, .int 0])), (q_2, .inl (cA_3, 400, .inl (fun _ => 0))), (q_4, .inr (6, [.ref q_5, .int 0])), (q_5, .inl (cA_6, 400, .inl (fun _ => 0))), (q_7, .inl (cA_8, 4, .inl (fun _ => 0))), (q_9, .inl (cA_10, 3, .inl (fun _ => 0)))] H := hP
  have hD : va_D A [(h0, .inr (1, [.ref a_t, .null, .null, .ref q_1, .ref q_4, .ref q_7, .ref q_9, .int 0, .long 0, .null, .int 0, .int 0])), (q_1, .inr (6, [.ref q_2, .int 0])), (q_2, .inl (cA_3, 400, .inl (fun _ => 0))), (q_4, .inr (6, [.ref q_5, .int 0])), (q_5, .inl (cA_6, 400, .inl (fun _ => 0))), (q_7, .inl (cA_8, 4, .inl (fun _ => 0))), (q_9, .inl (cA_10, 3, .inl (fun _ => 0)))] := hD
  refine lv_aload_n hx hb dX1_init_51 rfl (lv_at hl 0 rfl) ?_
  refine lv_aload_n hx hb dX1_init_52 rfl (lv_at hl 2 rfl) ?_
  refine va_putF (D := (dC, dI)) (ci := 1) (v := .ref a_n) (ty := .object "ProofBench$Names") (C := RX1) (T := TX1) (N := 12) hx hb hts (by decide +kernel) tyX1 tyX1_ok nmX1 hown hK hP hD hS 0 rfl rfl 1 (by decide) (hts (.fieldLink RX1 36 "ProofBench$Look" "names" "LProofBench$Names;") (by decide +kernel)) (fun _ h9 => h9) rfl hin rfl (by decide +kernel) rfl rfl (Nat.le_of_ble_eq_true rfl) dX1_init_53 (fun H locs hP hD hS => ?_)
  have hP : va_P (dC, dI) vwCl [(h0, .inr (1, [.ref a_t, .ref a_n, .null, .ref q_1, .ref q_4, .ref q_7, .ref q_9, .int 0, .long 0, .null, .int 0, .int 0])), (q_1, .inr (6, [.ref q_2, .int 0])), (q_2, .inl (cA_3, 400, .inl (fun _ => 0))), (q_4, .inr (6, [.ref q_5, .int 0])), (q_5, .inl (cA_6, 400, .inl (fun _ => 0))), (q_7, .inl (cA_8, 4, .inl (fun _ => 0))), (q_9, .inl (cA_10, 3, .inl (fun _ => 0)))] H := hP
  have hD : va_D A [(h0, .inr (1, [.ref a_t, .ref a_n, .null, .ref q_1, .ref q_4, .ref q_7, .ref q_9, .int 0, .long 0, .null, .int 0, .int 0])), (q_1, .inr (6, [.ref q_2, .int 0])), (q_2, .inl (cA_3, 400, .inl (fun _ => 0))), (q_4, .inr (6, [.ref q_5, .int 0])), (q_5, .inl (cA_6, 400, .inl (fun _ => 0))), (q_7, .inl (cA_8, 4, .inl (fun _ => 0))), (q_9, .inl (cA_10, 3, .inl (fun _ => 0)))] := hD
  refine lv_aload_n hx hb dX1_init_56 rfl (lv_at hl 0 rfl) ?_
  refine lv_aload_n hx hb dX1_init_57 rfl (lv_at hl 3 rfl) ?_
  refine va_putF (D := (dC, dI)) (ci := 1) (v := .ref a_m) (ty := .object "ProofBench$Model") (C := RX1) (T := TX1) (N := 12) hx hb hts (by decide +kernel) tyX1 tyX1_ok nmX1 hown hK hP hD hS 0 rfl rfl 2 (by decide) (hts (.fieldLink RX1 40 "ProofBench$Look" "model" "LProofBench$Model;") (by decide +kernel)) (fun _ h9 => h9) rfl hin rfl (by decide +kernel) rfl rfl (Nat.le_of_ble_eq_true rfl) dX1_init_58 (fun H locs hP hD hS => ?_)
  have hP : va_P (dC, dI) vwCl [(h0, .inr (1, [.ref a_t, .ref a_n, .ref a_m, .ref q_1, .ref q_4, .ref q_7, .ref q_9, .int 0, .long 0, .null, .int 0, .int 0])), (q_1, .inr (6, [.ref q_2, .int 0])), (q_2, .inl (cA_3, 400, .inl (fun _ => 0))), (q_4, .inr (6, [.ref q_5, .int 0])), (q_5, .inl (cA_6, 400, .inl (fun _ => 0))), (q_7, .inl (cA_8, 4, .inl (fun _ => 0))), (q_9, .inl (cA_10, 3, .inl (fun _ => 0)))] H := hP
  have hD : va_D A [(h0, .inr (1, [.ref a_t, .ref a_n, .ref a_m, .ref q_1, .ref q_4, .ref q_7, .ref q_9, .int 0, .long 0, .null, .int 0, .int 0])), (q_1, .inr (6, [.ref q_2, .int 0])), (q_2, .inl (cA_3, 400, .inl (fun _ => 0))), (q_4, .inr (6, [.ref q_5, .int 0])), (q_5, .inl (cA_6, 400, .inl (fun _ => 0))), (q_7, .inl (cA_8, 4, .inl (fun _ => 0))), (q_9, .inl (cA_10, 3, .inl (fun _ => 0)))] := hD
  refine lv_aload_n hx hb dX1_init_61 rfl (lv_at hl 0 rfl) ?_
  refine lv_aload_n hx hb dX1_init_62 rfl (lv_at hl 0 rfl) ?_
  refine va_get (D := (dC, dI)) (ci := 1) (v := .ref q_1) (C := RX1) (T := TX1) (N := 12) hx hb hts (by decide +kernel) hown hK hP 0 rfl rfl 3 (by decide) (hts (.fieldLink RX1 14 "ProofBench$Look" "first" "LProofBench$Row;") (by decide +kernel)) (fun _ h9 => h9) rfl dX1_init_63 ?_
  refine va_put (D := (dC, dI)) (ci := 1) (v := .ref q_1) (ty := .object "ProofBench$Row") (C := RX1) (T := TX1) (N := 12) hx hb hts (by decide +kernel) tyX1 tyX1_ok nmX1 hown hK hP hD hS 0 rfl rfl 9 (by decide) (hts (.fieldLink RX1 44 "ProofBench$Look" "into" "LProofBench$Row;") (by decide +kernel)) (fun _ h9 => h9) rfl (by decide +kernel) rfl rfl (Nat.le_of_ble_eq_true rfl) dX1_init_66 (fun H locs hP hD hS => ?_)
  have hP : va_P (dC, dI) vwCl [(h0, .inr (1, [.ref a_t, .ref a_n, .ref a_m, .ref q_1, .ref q_4, .ref q_7, .ref q_9, .int 0, .long 0, .ref q_1, .int 0, .int 0])), (q_1, .inr (6, [.ref q_2, .int 0])), (q_2, .inl (cA_3, 400, .inl (fun _ => 0))), (q_4, .inr (6, [.ref q_5, .int 0])), (q_5, .inl (cA_6, 400, .inl (fun _ => 0))), (q_7, .inl (cA_8, 4, .inl (fun _ => 0))), (q_9, .inl (cA_10, 3, .inl (fun _ => 0)))] H := hP
  have hD : va_D A [(h0, .inr (1, [.ref a_t, .ref a_n, .ref a_m, .ref q_1, .ref q_4, .ref q_7, .ref q_9, .int 0, .long 0, .ref q_1, .int 0, .int 0])), (q_1, .inr (6, [.ref q_2, .int 0])), (q_2, .inl (cA_3, 400, .inl (fun _ => 0))), (q_4, .inr (6, [.ref q_5, .int 0])), (q_5, .inl (cA_6, 400, .inl (fun _ => 0))), (q_7, .inl (cA_8, 4, .inl (fun _ => 0))), (q_9, .inl (cA_10, 3, .inl (fun _ => 0)))] := hD
  have hP9 := hP.sub (ws' := []) [] rfl
  have hD9 := hD.sub (ws' := []) [] (by decide) rfl
  have hK9 := hK.sub (tys' := []) [] rfl
  refine W.widen (k := 6) (n := 811) (by omega) (by omega) ?_
  exact W.vret hx hb hr (fun t ht hW => ⟨⟨(), rfl, trivial, by rw [ht]; exact hP9, va_K.moved hW.alike hK9, hD9⟩, hS.F ht⟩) hS.2.2 dX1_init_69
set_option maxHeartbeats 1000000 in
set_option maxRecDepth 100000 in
/-- Search(forms) -/
theorem c_Search_init (l : Launch) (dC : Nat → ClassId) (dI : Nat → Nat → Nat) (sz : Nat) (h0 a_f : Nat) : Met l yX7_init wsX7_init ({ frames := 2, cells := 9, slots := 1612, locals := 33 }) (va_Pc [.ref h0, .ref a_f] (fun U => U.heap.size = sz ∧ va_P (dC, dI) vwCl [(h0, .inr (7, [.null, .null, .int 0, .int 0, .int 0, .int 0]))] U.heap ∧ va_K (dC, dI) vwCl [] U ∧ va_D (fun _ => True) [(h0, .inr (7, [.null, .null, .int 0, .int 0, .int 0, .int 0]))] ∧ va_AO RX6 U)) (va_Qv (fun _ : Unit => True) (fun _ t => va_P (dC, dI) vwCl [] t.heap ∧ va_K (dC, dI) vwCl [] t ∧ va_D (va_A [(h0, .inr (7, [.null, .null, .int 0, .int 0, .int 0, .int 0]))] sz) []) (va_A [(h0, .inr (7, [.null, .null, .int 0, .int 0, .int 0, .int 0]))] sz)) (9) (1612) (va_A [(h0, .inr (7, [.null, .null, .int 0, .int 0, .int 0, .int 0]))] sz) := by
  refine Met.ofW (cc := cX7_init) (maxL := 3) (ret := none) (by decide) rfl ?_
  intro p e s m args below meth c s₁ B hml hv
  obtain ⟨rfl, hsz, hP, hK, hD0, hao⟩ := hv
  have hx := B.exec
  have hb := B.bytes
  have hr := B.returns
  have hts := atoms_spec (ws := wsX7_init) B.pre
  have hown : s.vm.findClass RX7 = some m.cls := findClass_of_methodNamed B.named
  have hlocks := B.notSynchronized
  have hin : meth.name = "<init>" := (name_of_methodNamed B.named B.method).1
  subst hsz
  have hD := hD0.self (sz := s.heap.size)
  generalize hAe : va_A [(h0, .inr (7, [.null, .null, .int 0, .int 0, .int 0, .int 0]))] s.heap.size = A at hD ⊢
  have hA : ∀ q : Nat, s.heap.size ≤ q → A q := fun q h => by rw [← hAe]; exact Or.inr h
  have hS : va_S A s.heap s.heap [] := va_S.rf
  have hl := lv_entry ([.ref h0, .ref a_f]) (n := 3) (Nat.le_of_ble_eq_true rfl)
  rw [lg_entry_eq]
  generalize (lg_sl ([.ref h0, .ref a_f]) ++ List.replicate (3 - (lg_sl ([.ref h0, .ref a_f])).length) Slot.unset).toArray = ls at hl ⊢
  have hl : lv_has ls 3 [(0, .ref h0), (1, .ref a_f)] := hl
  refine lv_aload_n hx hb dX7_init_0 rfl (lv_at hl 0 rfl) ?_
  refine W.objInit hx hb hown (hts (.methodLink RX7 3 objectInit) (by decide +kernel)) (hts (.instanceMethod objectInit) (by decide +kernel)) (hts (.code objectInit ⟨#[0xb1]⟩ 1 none) (by decide +kernel)) rfl (by rw [hml]; exact hl.1) rfl dX7_init_1 (Nat.le_of_ble_eq_true rfl) (Nat.le_of_ble_eq_true rfl) ?_
  refine W.eq (g2 := F0 m 4 ls []) rfl ?_
  refine lv_aload_n hx hb dX7_init_4 rfl (lv_at hl 0 rfl) ?_
  refine lv_iconst (v := 4) hx hb dX7_init_5 (by decide) ?_
  refine va_newq (C := RX6) (n := 4) (N' := 4) hx hb hown (hts (.classLink RX7 11 RX6) (by decide +kernel)) hao hK hP hD hS hA (by decide) (by decide) (by decide) (show 0 + 1 ≤ 9 by omega) (show 0 + 4 ≤ 1612 by omega) dX7_init_6 (fun q_1 cA_2 H hK hP hD hS => ?_)
  have hP : va_P (dC, dI) vwCl [(h0, .inr (7, [.null, .null, .int 0, .int 0, .int 0, .int 0])), (q_1, .inl (cA_2, 4, .inr (.inr (.inr (.inr (fun _ => none))))))] H := hP
  have hD : va_D A [(h0, .inr (7, [.null, .null, .int 0, .int 0, .int 0, .int 0])), (q_1, .inl (cA_2, 4, .inr (.inr (.inr (.inr (fun _ => none))))))] := hD
  have hK : va_K (dC, dI) vwCl [(cA_2, .object RX6)] s := hK
  refine W.widen (k := 1) (n := 4) (by omega) (by omega) ?_
  refine va_putF (D := (dC, dI)) (ci := 7) (v := .ref q_1) (ty := .array (.object "ProofBench$Row")) (C := RX7) (T := TX7) (N := 6) hx hb hts (by decide +kernel) tyX7 tyX7_ok nmX7 hown hK hP hD hS 0 rfl rfl 1 (by decide) (hts (.fieldLink RX7 13 "ProofBench$Search" "letters" "[LProofBench$Row;") (by decide +kernel)) (fun _ h9 => h9) rfl hin rfl (by decide +kernel) rfl rfl (Nat.le_of_ble_eq_true rfl) dX7_init_9 (fun H locs hP hD hS => ?_)
  have hP : va_P (dC, dI) vwCl [(h0, .inr (7, [.null, .ref q_1, .int 0, .int 0, .int 0, .int 0])), (q_1, .inl (cA_2, 4, .inr (.inr (.inr (.inr (fun _ => none))))))] H := hP
  have hD : va_D A [(h0, .inr (7, [.null, .ref q_1, .int 0, .int 0, .int 0, .int 0])), (q_1, .inl (cA_2, 4, .inr (.inr (.inr (.inr (fun _ => none))))))] := hD
  refine lv_aload_n hx hb dX7_init_12 rfl (lv_at hl 0 rfl) ?_
  refine lv_aload_n hx hb dX7_init_13 rfl (lv_at hl 1 rfl) ?_
  refine va_putF (D := (dC, dI)) (ci := 7) (v := .ref a_f) (ty := .object "ProofBench$Forms") (C := RX7) (T := TX7) (N := 6) hx hb hts (by decide +kernel) tyX7 tyX7_ok nmX7 hown hK hP hD hS 0 rfl rfl 0 (by decide) (hts (.fieldLink RX7 17 "ProofBench$Search" "forms" "LProofBench$Forms;") (by decide +kernel)) (fun _ h9 => h9) rfl hin rfl (by decide +kernel) rfl rfl (Nat.le_of_ble_eq_true rfl) dX7_init_14 (fun H locs hP hD hS => ?_)
  have hP : va_P (dC, dI) vwCl [(h0, .inr (7, [.ref a_f, .ref q_1, .int 0, .int 0, .int 0, .int 0])), (q_1, .inl (cA_2, 4, .inr (.inr (.inr (.inr (fun _ => none))))))] H := hP
  have hD : va_D A [(h0, .inr (7, [.ref a_f, .ref q_1, .int 0, .int 0, .int 0, .int 0])), (q_1, .inl (cA_2, 4, .inr (.inr (.inr (.inr (fun _ => none))))))] := hD
  refine lv_iconst (v := 0) hx hb dX7_init_17 (by decide) ?_
  refine lv_istore_n (lv' := [(2, .int 0), (0, .ref h0), (1, .ref a_f)]) hx hb dX7_init_18 rfl hl (by decide) rfl (fun ls hl => ?_)
  refine lv_iload_n hx hb dX7_init_19 rfl (lv_at hl 0 rfl) ?_
  refine lv_iconst (v := 4) hx hb dX7_init_20 (by decide) ?_
  refine lv_icmp_ge (tgt := 46) hx hb dX7_init_21 (by decide) (fun c9 => absurd c9 (by decide)) (fun _ => ?_)
  refine lv_aload_n hx hb dX7_init_24 rfl (lv_at hl 1 rfl) ?_
  refine va_get (D := (dC, dI)) (ci := 7) (v := .ref q_1) (C := RX7) (T := TX7) (N := 6) hx hb hts (by decide +kernel) hown hK hP 0 rfl rfl 1 (by decide) (hts (.fieldLink RX7 13 "ProofBench$Search" "letters" "[LProofBench$Row;") (by decide +kernel)) (fun _ h9 => h9) rfl dX7_init_25 ?_
  refine lv_iload_n hx hb dX7_init_28 rfl (lv_at hl 0 rfl) ?_
  refine va_new (ci := 6) (fs := [.null, .int 0]) (C := RX6) (T := TX6) (N := 2) hx hb hts (by decide +kernel) tyX6 tyX6_ok hown (hts (.classLink RX7 11 RX6) (by decide +kernel)) (hts (.instantiable RX6 2) (by decide +kernel)) (hts (.initialized RX6) (by decide +kernel)) hK hP hD hS hA rfl (fun j hj => by rcases (show j = 0 ∨ j = 1 by omega) with rfl | rfl <;> rfl) (show 1 + 1 ≤ 9 by omega) (show 4 + 2 ≤ 1612 by omega) dX7_init_29 (fun q_3 H hP hD hS => ?_)
  have hP : va_P (dC, dI) vwCl [(h0, .inr (7, [.ref a_f, .ref q_1, .int 0, .int 0, .int 0, .int 0])), (q_1, .inl (cA_2, 4, .inr (.inr (.inr (.inr (fun _ => none)))))), (q_3, .inr (6, [.null, .int 0]))] H := hP
  have hD : va_D A [(h0, .inr (7, [.ref a_f, .ref q_1, .int 0, .int 0, .int 0, .int 0])), (q_1, .inl (cA_2, 4, .inr (.inr (.inr (.inr (fun _ => none)))))), (q_3, .inr (6, [.null, .int 0]))] := hD
  refine W.widen (k := 2) (n := 6) (by omega) (by omega) ?_
  refine lv_dup hx hb dX7_init_32 rfl ?_
  refine lv_sipush (v := 400) hx hb dX7_init_33 (by decide) ?_
  have hPc := hP.sub (ws' := [(q_3, .inr (6, [.null, .int 0]))]) [2] rfl
  have hDc := hD.sub (ws' := [(q_3, .inr (6, [.null, .int 0]))]) [2] (by decide) rfl
  have hKc := hK.sub (tys' := []) [] rfl
  have hFc := va_free (wc := [(q_3, .inr (6, [.null, .int 0]))]) hD hS hA [2] rfl
  refine va_callv (va_runI (As := [.int 400]) (rest := [.ref q_3, .int 0, .ref q_1]) ⟨hx, hb, hml, hown, hts⟩ (c_Row_init l dC dI H.size q_3 400 400 (by decide) (by decide) (by decide)) (cwI 1 hts gX7_init_X6_init rfl rfl rfl (hts (.initialized RX6) (by decide +kernel)) (hts (.methodLink RX7 21 yX6_init) (by decide +kernel)) (hts (.instanceMethod yX6_init) (by decide +kernel)) rfl (by decide +kernel) ⟨Nat.le_of_ble_eq_true rfl, Nat.le_of_ble_eq_true rfl⟩) ⟨fun a U g mk q => by obtain ⟨q0, q1, qP, qK, qD⟩ := q; exact ⟨q0, q1, qP, va_K.moved (u := U) (U := U.calling g mk a) (Vm.Alike.refl U.vm) qK, qD⟩, fun U hU hW => ⟨rfl, by rw [hU], by rw [hU]; exact hPc, va_K.moved hW.alike hKc, hDc.weaken (fun _ _ _ _ => trivial)⟩⟩ rfl rfl hl.1 rfl (lv_room (Nat.le_of_ble_eq_true rfl)) dX7_init_36 ⟨(show 2 + 1 ≤ 9 by omega), (show 6 + 400 ≤ 1612 by omega)⟩) hS (fun q _ h => hFc q h) hFc (fun u t H1 locs ht hvm hw hB hz1 hk1 hS => ?_)
  obtain ⟨q_4, cA_5, hP1, hK1, hD1⟩ := hB
  rw [ht] at hP1
  have hK1 := va_K.moved hvm.symm hK1
  obtain ⟨hP, hD⟩ := va_join (wr := [(h0, .inr (7, [.ref a_f, .ref q_1, .int 0, .int 0, .int 0, .int 0])), (q_1, .inl (cA_2, 4, .inr (.inr (.inr (.inr (fun _ => none))))))]) (w1 := [(q_3, .inr (6, [.ref q_4, .int 0])), (q_4, .inl (cA_5, 400, .inl (fun _ => 0)))]) hP hD [2] [0, 1] rfl rfl (by decide) (by decide) hk1 hFc hP1 hD1
  have hK := (hK.sub (tys' := [(cA_2, .object RX6)]) [0] rfl).app hK1
  generalize H1 = H at hP hS ⊢
  have hP : va_P (dC, dI) vwCl [(h0, .inr (7, [.ref a_f, .ref q_1, .int 0, .int 0, .int 0, .int 0])), (q_1, .inl (cA_2, 4, .inr (.inr (.inr (.inr (fun _ => none)))))), (q_3, .inr (6, [.ref q_4, .int 0])), (q_4, .inl (cA_5, 400, .inl (fun _ => 0)))] H := hP
  have hD : va_D A [(h0, .inr (7, [.ref a_f, .ref q_1, .int 0, .int 0, .int 0, .int 0])), (q_1, .inl (cA_2, 4, .inr (.inr (.inr (.inr (fun _ => none)))))), (q_3, .inr (6, [.ref q_4, .int 0])), (q_4, .inl (cA_5, 400, .inl (fun _ => 0)))] := hD
  have hK : va_K (dC, dI) vwCl [(cA_2, .object RX6), (cA_5, .int)] s := hK
  refine W.widen (k := 3) (n := 406) (by omega) (by omega) ?_
  refine va_astq (r := (RX6, TX6, 2)) hx hb hK hP hD hS 1 0 2 6 rfl rfl rfl rfl (show vp_in (0) 4 from by unfold vp_in; decide) dX7_init_39 (fun H locs hP hD hS => ?_)
  obtain ⟨f_6, hP, hD⟩ : ∃ f9 : Nat → Option Nat, va_P (dC, dI) vwCl [(h0, .inr (7, [.ref a_f, .ref q_1, .int 0, .int 0, .int 0, .int 0])), (q_1, .inl (cA_2, 4, .inr (.inr (.inr (.inr (f9)))))), (q_3, .inr (6, [.ref q_4, .int 0])), (q_4, .inl (cA_5, 400, .inl (fun _ => 0)))] H ∧ va_D A [(h0, .inr (7, [.ref a_f, .ref q_1, .int 0, .int 0, .int 0, .int 0])), (q_1, .inl (cA_2, 4, .inr (.inr (.inr (.inr (f9)))))), (q_3, .inr (6, [.ref q_4, .int 0])), (q_4, .inl (cA_5, 400, .inl (fun _ => 0)))] := ⟨_, hP, hD⟩
  refine lv_iinc (v := 1) (lv' := [(2, .int 1), (0, .ref h0), (1, .ref a_f)]) hx hb dX7_init_40 hl (k := 0) rfl (by decide) (by decide) rfl (fun ls hl => ?_)
  refine lv_goto (tgt := 19) hx hb dX7_init_43 (by decide) ?_
  refine lv_iload_n hx hb dX7_init_19 rfl (lv_at hl 0 rfl) ?_
  refine lv_iconst (v := 4) hx hb dX7_init_20 (by decide) ?_
  refine lv_icmp_ge (tgt := 46) hx hb dX7_init_21 (by decide) (fun c9 => absurd c9 (by decide)) (fun _ => ?_)
  refine lv_aload_n hx hb dX7_init_24 rfl (lv_at hl 1 rfl) ?_
  refine va_get (D := (dC, dI)) (ci := 7) (v := .ref q_1) (C := RX7) (T := TX7) (N := 6) hx hb hts (by decide +kernel) hown hK hP 0 rfl rfl 1 (by decide) (hts (.fieldLink RX7 13 "ProofBench$Search" "letters" "[LProofBench$Row;") (by decide +kernel)) (fun _ h9 => h9) rfl dX7_init_25 ?_
  refine lv_iload_n hx hb dX7_init_28 rfl (lv_at hl 0 rfl) ?_
  refine va_new (ci := 6) (fs := [.null, .int 0]) (C := RX6) (T := TX6) (N := 2) hx hb hts (by decide +kernel) tyX6 tyX6_ok hown (hts (.classLink RX7 11 RX6) (by decide +kernel)) (hts (.instantiable RX6 2) (by decide +kernel)) (hts (.initialized RX6) (by decide +kernel)) hK hP hD hS hA rfl (fun j hj => by rcases (show j = 0 ∨ j = 1 by omega) with rfl | rfl <;> rfl) (show 3 + 1 ≤ 9 by omega) (show 406 + 2 ≤ 1612 by omega) dX7_init_29 (fun q_7 H hP hD hS => ?_)
  have hP : va_P (dC, dI) vwCl [(h0, .inr (7, [.ref a_f, .ref q_1, .int 0, .int 0, .int 0, .int 0])), (q_1, .inl (cA_2, 4, .inr (.inr (.inr (.inr (f_6)))))), (q_3, .inr (6, [.ref q_4, .int 0])), (q_4, .inl (cA_5, 400, .inl (fun _ => 0))), (q_7, .inr (6, [.null, .int 0]))] H := hP
  have hD : va_D A [(h0, .inr (7, [.ref a_f, .ref q_1, .int 0, .int 0, .int 0, .int 0])), (q_1, .inl (cA_2, 4, .inr (.inr (.inr (.inr (f_6)))))), (q_3, .inr (6, [.ref q_4, .int 0])), (q_4, .inl (cA_5, 400, .inl (fun _ => 0))), (q_7, .inr (6, [.null, .int 0]))] := hD
  refine W.widen (k := 4) (n := 408) (by omega) (by omega) ?_
  refine lv_dup hx hb dX7_init_32 rfl ?_
  refine lv_sipush (v := 400) hx hb dX7_init_33 (by decide) ?_
  have hPc := hP.sub (ws' := [(q_7, .inr (6, [.null, .int 0]))]) [4] rfl
  have hDc := hD.sub (ws' := [(q_7, .inr (6, [.null, .int 0]))]) [4] (by decide) rfl
  have hKc := hK.sub (tys' := []) [] rfl
  have hFc := va_free (wc := [(q_7, .inr (6, [.null, .int 0]))]) hD hS hA [4] rfl
  refine va_callv (va_runI (As := [.int 400]) (rest := [.ref q_7, .int 1, .ref q_1]) ⟨hx, hb, hml, hown, hts⟩ (c_Row_init l dC dI H.size q_7 400 400 (by decide) (by decide) (by decide)) (cwI 1 hts gX7_init_X6_init rfl rfl rfl (hts (.initialized RX6) (by decide +kernel)) (hts (.methodLink RX7 21 yX6_init) (by decide +kernel)) (hts (.instanceMethod yX6_init) (by decide +kernel)) rfl (by decide +kernel) ⟨Nat.le_of_ble_eq_true rfl, Nat.le_of_ble_eq_true rfl⟩) ⟨fun a U g mk q => by obtain ⟨q0, q1, qP, qK, qD⟩ := q; exact ⟨q0, q1, qP, va_K.moved (u := U) (U := U.calling g mk a) (Vm.Alike.refl U.vm) qK, qD⟩, fun U hU hW => ⟨rfl, by rw [hU], by rw [hU]; exact hPc, va_K.moved hW.alike hKc, hDc.weaken (fun _ _ _ _ => trivial)⟩⟩ rfl rfl hl.1 rfl (lv_room (Nat.le_of_ble_eq_true rfl)) dX7_init_36 ⟨(show 4 + 1 ≤ 9 by omega), (show 408 + 400 ≤ 1612 by omega)⟩) hS (fun q _ h => hFc q h) hFc (fun u t H1 locs ht hvm hw hB hz1 hk1 hS => ?_)
  obtain ⟨q_8, cA_9, hP1, hK1, hD1⟩ := hB
  rw [ht] at hP1
  have hK1 := va_K.moved hvm.symm hK1
  obtain ⟨hP, hD⟩ := va_join (wr := [(h0, .inr (7, [.ref a_f, .ref q_1, .int 0, .int 0, .int 0, .int 0])), (q_1, .inl (cA_2, 4, .inr (.inr (.inr (.inr (f_6)))))), (q_3, .inr (6, [.ref q_4, .int 0])), (q_4, .inl (cA_5, 400, .inl (fun _ => 0)))]) (w1 := [(q_7, .inr (6, [.ref q_8, .int 0])), (q_8, .inl (cA_9, 400, .inl (fun _ => 0)))]) hP hD [4] [0, 1, 2, 3] rfl rfl (by decide) (by decide) hk1 hFc hP1 hD1
  have hK := (hK.sub (tys' := [(cA_2, .object RX6), (cA_5, .int)]) [0, 1] rfl).app hK1
  generalize H1 = H at hP hS ⊢
  have hP : va_P (dC, dI) vwCl [(h0, .inr (7, [.ref a_f, .ref q_1, .int 0, .int 0, .int 0, .int 0])), (q_1, .inl (cA_2, 4, .inr (.inr (.inr (.inr (f_6)))))), (q_3, .inr (6, [.ref q_4, .int 0])), (q_4, .inl (cA_5, 400, .inl (fun _ => 0))), (q_7, .inr (6, [.ref q_8, .int 0])), (q_8, .inl (cA_9, 400, .inl (fun _ => 0)))] H := hP
  have hD : va_D A [(h0, .inr (7, [.ref a_f, .ref q_1, .int 0, .int 0, .int 0, .int 0])), (q_1, .inl (cA_2, 4, .inr (.inr (.inr (.inr (f_6)))))), (q_3, .inr (6, [.ref q_4, .int 0])), (q_4, .inl (cA_5, 400, .inl (fun _ => 0))), (q_7, .inr (6, [.ref q_8, .int 0])), (q_8, .inl (cA_9, 400, .inl (fun _ => 0)))] := hD
  have hK : va_K (dC, dI) vwCl [(cA_2, .object RX6), (cA_5, .int), (cA_9, .int)] s := hK
  refine W.widen (k := 5) (n := 808) (by omega) (by omega) ?_
  refine va_astq (r := (RX6, TX6, 2)) hx hb hK hP hD hS 1 0 4 6 rfl rfl rfl rfl (show vp_in (1) 4 from by unfold vp_in; decide) dX7_init_39 (fun H locs hP hD hS => ?_)
  obtain ⟨f_10, hP, hD⟩ : ∃ f9 : Nat → Option Nat, va_P (dC, dI) vwCl [(h0, .inr (7, [.ref a_f, .ref q_1, .int 0, .int 0, .int 0, .int 0])), (q_1, .inl (cA_2, 4, .inr (.inr (.inr (.inr (f9)))))), (q_3, .inr (6, [.ref q_4, .int 0])), (q_4, .inl (cA_5, 400, .inl (fun _ => 0))), (q_7, .inr (6, [.ref q_8, .int 0])), (q_8, .inl (cA_9, 400, .inl (fun _ => 0)))] H ∧ va_D A [(h0, .inr (7, [.ref a_f, .ref q_1, .int 0, .int 0, .int 0, .int 0])), (q_1, .inl (cA_2, 4, .inr (.inr (.inr (.inr (f9)))))), (q_3, .inr (6, [.ref q_4, .int 0])), (q_4, .inl (cA_5, 400, .inl (fun _ => 0))), (q_7, .inr (6, [.ref q_8, .int 0])), (q_8, .inl (cA_9, 400, .inl (fun _ => 0)))] := ⟨_, hP, hD⟩
  refine lv_iinc (v := 2) (lv' := [(2, .int 2), (0, .ref h0), (1, .ref a_f)]) hx hb dX7_init_40 hl (k := 0) rfl (by decide) (by decide) rfl (fun ls hl => ?_)
  refine lv_goto (tgt := 19) hx hb dX7_init_43 (by decide) ?_
  refine lv_iload_n hx hb dX7_init_19 rfl (lv_at hl 0 rfl) ?_
  refine lv_iconst (v := 4) hx hb dX7_init_20 (by decide) ?_
  refine lv_icmp_ge (tgt := 46) hx hb dX7_init_21 (by decide) (fun c9 => absurd c9 (by decide)) (fun _ => ?_)
  refine lv_aload_n hx hb dX7_init_24 rfl (lv_at hl 1 rfl) ?_
  refine va_get (D := (dC, dI)) (ci := 7) (v := .ref q_1) (C := RX7) (T := TX7) (N := 6) hx hb hts (by decide +kernel) hown hK hP 0 rfl rfl 1 (by decide) (hts (.fieldLink RX7 13 "ProofBench$Search" "letters" "[LProofBench$Row;") (by decide +kernel)) (fun _ h9 => h9) rfl dX7_init_25 ?_
  refine lv_iload_n hx hb dX7_init_28 rfl (lv_at hl 0 rfl) ?_
  refine va_new (ci := 6) (fs := [.null, .int 0]) (C := RX6) (T := TX6) (N := 2) hx hb hts (by decide +kernel) tyX6 tyX6_ok hown (hts (.classLink RX7 11 RX6) (by decide +kernel)) (hts (.instantiable RX6 2) (by decide +kernel)) (hts (.initialized RX6) (by decide +kernel)) hK hP hD hS hA rfl (fun j hj => by rcases (show j = 0 ∨ j = 1 by omega) with rfl | rfl <;> rfl) (show 5 + 1 ≤ 9 by omega) (show 808 + 2 ≤ 1612 by omega) dX7_init_29 (fun q_11 H hP hD hS => ?_)
  have hP : va_P (dC, dI) vwCl [(h0, .inr (7, [.ref a_f, .ref q_1, .int 0, .int 0, .int 0, .int 0])), (q_1, .inl (cA_2, 4, .inr (.inr (.inr (.inr (f_10)))))), (q_3, .inr (6, [.ref q_4, .int 0])), (q_4, .inl (cA_5, 400, .inl (fun _ => 0))), (q_7, .inr (6, [.ref q_8, .int 0])), (q_8, .inl (cA_9, 400, .inl (fun _ => 0))), (q_11, .inr (6, [.null, .int 0]))] H := hP
  have hD : va_D A [(h0, .inr (7, [.ref a_f, .ref q_1, .int 0, .int 0, .int 0, .int 0])), (q_1, .inl (cA_2, 4, .inr (.inr (.inr (.inr (f_10)))))), (q_3, .inr (6, [.ref q_4, .int 0])), (q_4, .inl (cA_5, 400, .inl (fun _ => 0))), (q_7, .inr (6, [.ref q_8, .int 0])), (q_8, .inl (cA_9, 400, .inl (fun _ => 0))), (q_11, .inr (6, [.null, .int 0]))] := hD
  refine W.widen (k := 6) (n := 810) (by omega) (by omega) ?_
  refine lv_dup hx hb dX7_init_32 rfl ?_
  refine lv_sipush (v := 400) hx hb dX7_init_33 (by decide) ?_
  have hPc := hP.sub (ws' := [(q_11, .inr (6, [.null, .int 0]))]) [6] rfl
  have hDc := hD.sub (ws' := [(q_11, .inr (6, [.null, .int 0]))]) [6] (by decide) rfl
  have hKc := hK.sub (tys' := []) [] rfl
  have hFc := va_free (wc := [(q_11, .inr (6, [.null, .int 0]))]) hD hS hA [6] rfl
  refine va_callv (va_runI (As := [.int 400]) (rest := [.ref q_11, .int 2, .ref q_1]) ⟨hx, hb, hml, hown, hts⟩ (c_Row_init l dC dI H.size q_11 400 400 (by decide) (by decide) (by decide)) (cwI 1 hts gX7_init_X6_init rfl rfl rfl (hts (.initialized RX6) (by decide +kernel)) (hts (.methodLink RX7 21 yX6_init) (by decide +kernel)) (hts (.instanceMethod yX6_init) (by decide +kernel)) rfl (by decide +kernel) ⟨Nat.le_of_ble_eq_true rfl, Nat.le_of_ble_eq_true rfl⟩) ⟨fun a U g mk q => by obtain ⟨q0, q1, qP, qK, qD⟩ := q; exact ⟨q0, q1, qP, va_K.moved (u := U) (U := U.calling g mk a) (Vm.Alike.refl U.vm) qK, qD⟩, fun U hU hW => ⟨rfl, by rw [hU], by rw [hU]; exact hPc, va_K.moved hW.alike hKc, hDc.weaken (fun _ _ _ _ => trivial)⟩⟩ rfl rfl hl.1 rfl (lv_room (Nat.le_of_ble_eq_true rfl)) dX7_init_36 ⟨(show 6 + 1 ≤ 9 by omega), (show 810 + 400 ≤ 1612 by omega)⟩) hS (fun q _ h => hFc q h) hFc (fun u t H1 locs ht hvm hw hB hz1 hk1 hS => ?_)
  obtain ⟨q_12, cA_13, hP1, hK1, hD1⟩ := hB
  rw [ht] at hP1
  have hK1 := va_K.moved hvm.symm hK1
  obtain ⟨hP, hD⟩ := va_join (wr := [(h0, .inr (7, [.ref a_f, .ref q_1, .int 0, .int 0, .int 0, .int 0])), (q_1, .inl (cA_2, 4, .inr (.inr (.inr (.inr (f_10)))))), (q_3, .inr (6, [.ref q_4, .int 0])), (q_4, .inl (cA_5, 400, .inl (fun _ => 0))), (q_7, .inr (6, [.ref q_8, .int 0])), (q_8, .inl (cA_9, 400, .inl (fun _ => 0)))]) (w1 := [(q_11, .inr (6, [.ref q_12, .int 0])), (q_12, .inl (cA_13, 400, .inl (fun _ => 0)))]) hP hD [6] [0, 1, 2, 3, 4, 5] rfl rfl (by decide) (by decide) hk1 hFc hP1 hD1
  have hK := (hK.sub (tys' := [(cA_2, .object RX6), (cA_5, .int), (cA_9, .int)]) [0, 1, 2] rfl).app hK1
  generalize H1 = H at hP hS ⊢
  have hP : va_P (dC, dI) vwCl [(h0, .inr (7, [.ref a_f, .ref q_1, .int 0, .int 0, .int 0, .int 0])), (q_1, .inl (cA_2, 4, .inr (.inr (.inr (.inr (f_10)))))), (q_3, .inr (6, [.ref q_4, .int 0])), (q_4, .inl (cA_5, 400, .inl (fun _ => 0))), (q_7, .inr (6, [.ref q_8, .int 0])), (q_8, .inl (cA_9, 400, .inl (fun _ => 0))), (q_11, .inr (6, [.ref q_12, .int 0])), (q_12, .inl (cA_13, 400, .inl (fun _ => 0)))] H := hP
  have hD : va_D A [(h0, .inr (7, [.ref a_f, .ref q_1, .int 0, .int 0, .int 0, .int 0])), (q_1, .inl (cA_2, 4, .inr (.inr (.inr (.inr (f_10)))))), (q_3, .inr (6, [.ref q_4, .int 0])), (q_4, .inl (cA_5, 400, .inl (fun _ => 0))), (q_7, .inr (6, [.ref q_8, .int 0])), (q_8, .inl (cA_9, 400, .inl (fun _ => 0))), (q_11, .inr (6, [.ref q_12, .int 0])), (q_12, .inl (cA_13, 400, .inl (fun _ => 0)))] := hD
  have hK : va_K (dC, dI) vwCl [(cA_2, .object RX6), (cA_5, .int), (cA_9, .int), (cA_13, .int)] s := hK
  refine W.widen (k := 7) (n := 1210) (by omega) (by omega) ?_
  refine va_astq (r := (RX6, TX6, 2)) hx hb hK hP hD hS 1 0 6 6 rfl rfl rfl rfl (show vp_in (2) 4 from by unfold vp_in; decide) dX7_init_39 (fun H locs hP hD hS => ?_)
  obtain ⟨f_14, hP, hD⟩ : ∃ f9 : Nat → Option Nat, va_P (dC, dI) vwCl [(h0, .inr (7, [.ref a_f, .ref q_1, .int 0, .int 0, .int 0, .int 0])), (q_1, .inl (cA_2, 4, .inr (.inr (.inr (.inr (f9)))))), (q_3, .inr (6, [.ref q_4, .int 0])), (q_4, .inl (cA_5, 400, .inl (fun _ => 0))), (q_7, .inr (6, [.ref q_8, .int 0])), (q_8, .inl (cA_9, 400, .inl (fun _ => 0))), (q_11, .inr (6, [.ref q_12, .int 0])), (q_12, .inl (cA_13, 400, .inl (fun _ => 0)))] H ∧ va_D A [(h0, .inr (7, [.ref a_f, .ref q_1, .int 0, .int 0, .int 0, .int 0])), (q_1, .inl (cA_2, 4, .inr (.inr (.inr (.inr (f9)))))), (q_3, .inr (6, [.ref q_4, .int 0])), (q_4, .inl (cA_5, 400, .inl (fun _ => 0))), (q_7, .inr (6, [.ref q_8, .int 0])), (q_8, .inl (cA_9, 400, .inl (fun _ => 0))), (q_11, .inr (6, [.ref q_12, .int 0])), (q_12, .inl (cA_13, 400, .inl (fun _ => 0)))] := ⟨_, hP, hD⟩
  refine lv_iinc (v := 3) (lv' := [(2, .int 3), (0, .ref h0), (1, .ref a_f)]) hx hb dX7_init_40 hl (k := 0) rfl (by decide) (by decide) rfl (fun ls hl => ?_)
  refine lv_goto (tgt := 19) hx hb dX7_init_43 (by decide) ?_
  refine lv_iload_n hx hb dX7_init_19 rfl (lv_at hl 0 rfl) ?_
  refine lv_iconst (v := 4) hx hb dX7_init_20 (by decide) ?_
  refine lv_icmp_ge (tgt := 46) hx hb dX7_init_21 (by decide) (fun c9 => absurd c9 (by decide)) (fun _ => ?_)
  refine lv_aload_n hx hb dX7_init_24 rfl (lv_at hl 1 rfl) ?_
  refine va_get (D := (dC, dI)) (ci := 7) (v := .ref q_1) (C := RX7) (T := TX7) (N := 6) hx hb hts (by decide +kernel) hown hK hP 0 rfl rfl 1 (by decide) (hts (.fieldLink RX7 13 "ProofBench$Search" "letters" "[LProofBench$Row;") (by decide +kernel)) (fun _ h9 => h9) rfl dX7_init_25 ?_
  refine lv_iload_n hx hb dX7_init_28 rfl (lv_at hl 0 rfl) ?_
  refine va_new (ci := 6) (fs := [.null, .int 0]) (C := RX6) (T := TX6) (N := 2) hx hb hts (by decide +kernel) tyX6 tyX6_ok hown (hts (.classLink RX7 11 RX6) (by decide +kernel)) (hts (.instantiable RX6 2) (by decide +kernel)) (hts (.initialized RX6) (by decide +kernel)) hK hP hD hS hA rfl (fun j hj => by rcases (show j = 0 ∨ j = 1 by omega) with rfl | rfl <;> rfl) (show 7 + 1 ≤ 9 by omega) (show 1210 + 2 ≤ 1612 by omega) dX7_init_29 (fun q_15 H hP hD hS => ?_)
  have hP : va_P (dC, dI) vwCl [(h0, .inr (7, [.ref a_f, .ref q_1, .int 0, .int 0, .int 0, .int 0])), (q_1, .inl (cA_2, 4, .inr (.inr (.inr (.inr (f_14)))))), (q_3, .inr (6, [.ref q_4, .int 0])), (q_4, .inl (cA_5, 400, .inl (fun _ => 0))), (q_7, .inr (6, [.ref q_8, .int 0])), (q_8, .inl (cA_9, 400, .inl (fun _ => 0))), (q_11, .inr (6, [.ref q_12, .int 0])), (q_12, .inl (cA_13, 400, .inl (fun _ => 0))), (q_15, .inr (6, [.null, .int 0]))] H := hP
  have hD : va_D A [(h0, .inr (7, [.ref a_f, .ref q_1, .int 0, .int 0, .int 0, .int 0])), (q_1, .inl (cA_2, 4, .inr (.inr (.inr (.inr (f_14)))))), (q_3, .inr (6, [.ref q_4, .int 0])), (q_4, .inl (cA_5, 400, .inl (fun _ => 0))), (q_7, .inr (6, [.ref q_8, .int 0])), (q_8, .inl (cA_9, 400, .inl (fun _ => 0))), (q_11, .inr (6, [.ref q_12, .int 0])), (q_12, .inl (cA_13, 400, .inl (fun _ => 0))), (q_15, .inr (6, [.null, .int 0]))] := hD
  refine W.widen (k := 8) (n := 1212) (by omega) (by omega) ?_
  refine lv_dup hx hb dX7_init_32 rfl ?_
  refine lv_sipush (v := 400) hx hb dX7_init_33 (by decide) ?_
  have hPc := hP.sub (ws' := [(q_15, .inr (6, [.null, .int 0]))]) [8] rfl
  have hDc := hD.sub (ws' := [(q_15, .inr (6, [.null, .int 0]))]) [8] (by decide) rfl
  have hKc := hK.sub (tys' := []) [] rfl
  have hFc := va_free (wc := [(q_15, .inr (6, [.null, .int 0]))]) hD hS hA [8] rfl
  refine va_callv (va_runI (As := [.int 400]) (rest := [.ref q_15, .int 3, .ref q_1]) ⟨hx, hb, hml, hown, hts⟩ (c_Row_init l dC dI H.size q_15 400 400 (by decide) (by decide) (by decide)) (cwI 1 hts gX7_init_X6_init rfl rfl rfl (hts (.initialized RX6) (by decide +kernel)) (hts (.methodLink RX7 21 yX6_init) (by decide +kernel)) (hts (.instanceMethod yX6_init) (by decide +kernel)) rfl (by decide +kernel) ⟨Nat.le_of_ble_eq_true rfl, Nat.le_of_ble_eq_true rfl⟩) ⟨fun a U g mk q => by obtain ⟨q0, q1, qP, qK, qD⟩ := q; exact ⟨q0, q1, qP, va_K.moved (u := U) (U := U.calling g mk a) (Vm.Alike.refl U.vm) qK, qD⟩, fun U hU hW => ⟨rfl, by rw [hU], by rw [hU]; exact hPc, va_K.moved hW.alike hKc, hDc.weaken (fun _ _ _ _ => trivial)⟩⟩ rfl rfl hl.1 rfl (lv_room (Nat.le_of_ble_eq_true rfl)) dX7_init_36 ⟨(show 8 + 1 ≤ 9 by omega), (show 1212 + 400 ≤ 1612 by omega)⟩) hS (fun q _ h => hFc q h) hFc (fun u t H1 locs ht hvm hw hB hz1 hk1 hS => ?_)
  obtain ⟨q_16, cA_17, hP1, hK1, hD1⟩ := hB
  rw [ht] at hP1
  have hK1 := va_K.moved hvm.symm hK1
  obtain ⟨hP, hD⟩ := va_join (wr := [(h0, .inr (7, [.ref a_f, .ref q_1, .int 0, .int 0, .int 0, .int 0])), (q_1, .inl (cA_2, 4, .inr (.inr (.inr (.inr (f_14)))))), (q_3, .inr (6, [.ref q_4, .int 0])), (q_4, .inl (cA_5, 400, .inl (fun _ => 0))), (q_7, .inr (6, [.ref q_8, .int 0])), (q_8, .inl (cA_9, 400, .inl (fun _ => 0))), (q_11, .inr (6, [.ref q_12, .int 0])), (q_12, .inl (cA_13, 400, .inl (fun _ => 0)))]) (w1 := [(q_15, .inr (6, [.ref q_16, .int 0])), (q_16, .inl (cA_17, 400, .inl (fun _ => 0)))]) hP hD [8] [0, 1, 2, 3, 4, 5, 6, 7] rfl rfl (by decide) (by decide) hk1 hFc hP1 hD1
  have hK := (hK.sub (tys' := [(cA_2, .object RX6), (cA_5, .int), (cA_9, .int), (cA_13, .int)]) [0, 1, 2, 3] rfl).app hK1
  generalize H1 = H at hP hS ⊢
  have hP : va_P (dC, dI) vwCl [(h0, .inr (7, [.ref a_f, .ref q_1, .int 0, .int 0, .int 0, .int 0])), (q_1, .inl (cA_2, 4, .inr (.inr (.inr (.inr (f_14)))))), (q_3, .inr (6, [.ref q_4, .int 0])), (q_4, .inl (cA_5, 400, .inl (fun _ => 0))), (q_7, .inr (6, [.ref q_8, .int 0])), (q_8, .inl (cA_9, 400, .inl (fun _ => 0))), (q_11, .inr (6, [.ref q_12, .int 0])), (q_12, .inl (cA_13, 400, .inl (fun _ => 0))), (q_15, .inr (6, [.ref q_16, .int 0])), (q_16, .inl (cA_17, 400, .inl (fun _ => 0)))] H := hP
  have hD : va_D A [(h0, .inr (7, [.ref a_f, .ref q_1, .int 0, .int 0, .int 0, .int 0])), (q_1, .inl (cA_2, 4, .inr (.inr (.inr (.inr (f_14)))))), (q_3, .inr (6, [.ref q_4, .int 0])), (q_4, .inl (cA_5, 400, .inl (fun _ => 0))), (q_7, .inr (6, [.ref q_8, .int 0])), (q_8, .inl (cA_9, 400, .inl (fun _ => 0))), (q_11, .inr (6, [.ref q_12, .int 0])), (q_12, .inl (cA_13, 400, .inl (fun _ => 0))), (q_15, .inr (6, [.ref q_16, .int 0])), (q_16, .inl (cA_17, 400, .inl (fun _ => 0)))] := hD
  have hK : va_K (dC, dI) vwCl [(cA_2, .object RX6), (cA_5, .int), (cA_9, .int), (cA_13, .int), (cA_17, .int)] s := hK
  refine W.widen (k := 9) (n := 1612) (by omega) (by omega) ?_
  refine va_astq (r := (RX6, TX6, 2)) hx hb hK hP hD hS 1 0 8 6 rfl rfl rfl rfl (show vp_in (3) 4 from by unfold vp_in; decide) dX7_init_39 (fun H locs hP hD hS => ?_)
  obtain ⟨f_18, hP, hD⟩ : ∃ f9 : Nat → Option Nat, va_P (dC, dI) vwCl [(h0, .inr (7, [.ref a_f, .ref q_1, .int 0, .int 0, .int 0, .int 0])), (q_1, .inl (cA_2, 4, .inr (.inr (.inr (.inr (f9)))))), (q_3, .inr (6, [.ref q_4, .int 0])), (q_4, .inl (cA_5, 400, .inl (fun _ => 0))), (q_7, .inr (6, [.ref q_8, .int 0])), (q_8, .inl (cA_9, 400, .inl (fun _ => 0))), (q_11, .inr (6, [.ref q_12, .int 0])), (q_12, .inl (cA_13, 400, .inl (fun _ => 0))), (q_15, .inr (6, [.ref q_16, .int 0])), (q_16, .inl (cA_17, 400, .inl (fun _ => 0)))] H ∧ va_D A [(h0, .inr (7, [.ref a_f, .ref q_1, .int 0, .int 0, .int 0, .int 0])), (q_1, .inl (cA_2, 4, .inr (.inr (.inr (.inr (f9)))))), (q_3, .inr (6, [.ref q_4, .int 0])), (q_4, .inl (cA_5, 400, .inl (fun _ => 0))), (q_7, .inr (6, [.ref q_8, .int 0])), (q_8, .inl (cA_9, 400, .inl (fun _ => 0))), (q_11, .inr (6, [.ref q_12, .int 0])), (q_12, .inl (cA_13, 400, .inl (fun _ => 0))), (q_15, .inr (6, [.ref q_16, .int 0])), (q_16, .inl (cA_17, 400, .inl (fun _ => 0)))] := ⟨_, hP, hD⟩
  refine lv_iinc (v := 4) (lv' := [(2, .int 4), (0, .ref h0), (1, .ref a_f)]) hx hb dX7_init_40 hl (k := 0) rfl (by decide) (by decide) rfl (fun ls hl => ?_)
  refine lv_goto (tgt := 19) hx hb dX7_init_43 (by decide) ?_
  refine lv_iload_n hx hb dX7_init_19 rfl (lv_at hl 0 rfl) ?_
  refine lv_iconst (v := 4) hx hb dX7_init_20 (by decide) ?_
  refine lv_icmp_ge (tgt := 46) hx hb dX7_init_21 (by decide) (fun _ => ?_) (fun c9 => absurd c9 (by decide))
  have hP9 := hP.sub (ws' := []) [] rfl
  have hD9 := hD.sub (ws' := []) [] (by decide) rfl
  have hK9 := hK.sub (tys' := []) [] rfl
  refine W.widen (k := 9) (n := 1612) (by omega) (by omega) ?_
  exact W.vret hx hb hr (fun t ht hW => ⟨⟨(), rfl, trivial, by rw [ht]; exact hP9, va_K.moved hW.alike hK9, hD9⟩, hS.F ht⟩) hS.2.2 dX7_init_46
set_option maxHeartbeats 1000000 in
set_option maxRecDepth 100000 in
/-- Arrays.fill of a row of six -/
theorem c_fill6 (l : Launch) (dC : Nat → ClassId) (dI : Nat → Nat → Nat) (sz : Nat) (h0 : Nat) (cA : ClassId) (f : Nat → Int32) (x : Int32) : Met l yJ7_fill_53178 wsJ7_fill_53178 ({ frames := 0, cells := 0, slots := 0, locals := 0 }) (va_Pc [.ref h0, .int x] (fun U => U.heap.size = sz ∧ va_P (dC, dI) vwCl [(h0, .inl (cA, 6, .inl (f)))] U.heap ∧ va_K (dC, dI) vwCl [(cA, .int)] U ∧ va_D (fun _ => True) [(h0, .inl (cA, 6, .inl (f)))])) (va_Qv (fun _ : Unit => True) (fun _ t => va_P (dC, dI) vwCl [] t.heap ∧ va_K (dC, dI) vwCl [] t ∧ va_D (va_A [(h0, .inl (cA, 6, .inl (f)))] sz) []) (va_A [(h0, .inl (cA, 6, .inl (f)))] sz)) (0) (0) (va_A [(h0, .inl (cA, 6, .inl (f)))] sz) := by
  refine Met.ofW (cc := cJ7_fill_53178) (maxL := 4) (ret := none) (by decide) rfl ?_
  intro p e s m args below meth c s₁ B hml hv
  obtain ⟨rfl, hsz, hP, hK, hD0⟩ := hv
  have hx := B.exec
  have hb := B.bytes
  have hr := B.returns
  have hts := atoms_spec (ws := wsJ7_fill_53178) B.pre
  have hown : s.vm.findClass RJ7 = some m.cls := findClass_of_methodNamed B.named
  have hlocks := B.notSynchronized
  subst hsz
  have hD := hD0.self (sz := s.heap.size)
  generalize hAe : va_A [(h0, .inl (cA, 6, .inl (f)))] s.heap.size = A at hD ⊢
  have hA : ∀ q : Nat, s.heap.size ≤ q → A q := fun q h => by rw [← hAe]; exact Or.inr h
  have hS : va_S A s.heap s.heap [] := va_S.rf
  have hl := lv_entry ([.ref h0, .int x]) (n := 4) (Nat.le_of_ble_eq_true rfl)
  rw [lg_entry_eq]
  generalize (lg_sl ([.ref h0, .int x]) ++ List.replicate (4 - (lg_sl ([.ref h0, .int x])).length) Slot.unset).toArray = ls at hl ⊢
  have hl : lv_has ls 4 [(0, .ref h0), (1, .int x)] := hl
  refine lv_iconst (v := 0) hx hb dJ7_fill_53178_0 (by decide) ?_
  refine lv_istore_n (lv' := [(2, .int 0), (0, .ref h0), (1, .int x)]) hx hb dJ7_fill_53178_1 rfl hl (by decide) rfl (fun ls hl => ?_)
  refine lv_aload_n hx hb dJ7_fill_53178_2 rfl (lv_at hl 1 rfl) ?_
  refine va_alen hx hb hK hP 0 0 rfl rfl (v := 6) (show Int32.ofNat 6 = 6 from by decide) dJ7_fill_53178_3 ?_
  refine lv_istore_n (lv' := [(3, .int 6), (2, .int 0), (0, .ref h0), (1, .int x)]) hx hb dJ7_fill_53178_4 rfl hl (by decide) rfl (fun ls hl => ?_)
  refine lv_iload_n hx hb dJ7_fill_53178_5 rfl (lv_at hl 1 rfl) ?_
  refine lv_iload_n hx hb dJ7_fill_53178_6 rfl (lv_at hl 0 rfl) ?_
  refine lv_icmp_ge (tgt := 20) hx hb dJ7_fill_53178_7 (by decide) (fun c9 => absurd c9 (by decide)) (fun _ => ?_)
  refine lv_aload_n hx hb dJ7_fill_53178_10 rfl (lv_at hl 2 rfl) ?_
  refine lv_iload_n hx hb dJ7_fill_53178_11 rfl (lv_at hl 1 rfl) ?_
  refine lv_iload_n hx hb dJ7_fill_53178_12 rfl (lv_at hl 3 rfl) ?_
  refine va_iast hx hb hK hP hD hS 0 0 rfl rfl (show vp_in (0) 6 from by unfold vp_in; decide) dJ7_fill_53178_13 (fun H locs hP hD hS => ?_)
  obtain ⟨f_1, hP, hD⟩ : ∃ f9 : Nat → Int32, va_P (dC, dI) vwCl [(h0, .inl (cA, 6, .inl (f9)))] H ∧ va_D A [(h0, .inl (cA, 6, .inl (f9)))] := ⟨_, hP, hD⟩
  refine lv_iinc (v := 1) (lv' := [(2, .int 1), (3, .int 6), (0, .ref h0), (1, .int x)]) hx hb dJ7_fill_53178_14 hl (k := 1) rfl (by decide) (by decide) rfl (fun ls hl => ?_)
  refine lv_goto (tgt := 5) hx hb dJ7_fill_53178_17 (by decide) ?_
  refine lv_iload_n hx hb dJ7_fill_53178_5 rfl (lv_at hl 0 rfl) ?_
  refine lv_iload_n hx hb dJ7_fill_53178_6 rfl (lv_at hl 1 rfl) ?_
  refine lv_icmp_ge (tgt := 20) hx hb dJ7_fill_53178_7 (by decide) (fun c9 => absurd c9 (by decide)) (fun _ => ?_)
  refine lv_aload_n hx hb dJ7_fill_53178_10 rfl (lv_at hl 2 rfl) ?_
  refine lv_iload_n hx hb dJ7_fill_53178_11 rfl (lv_at hl 0 rfl) ?_
  refine lv_iload_n hx hb dJ7_fill_53178_12 rfl (lv_at hl 3 rfl) ?_
  refine va_iast hx hb hK hP hD hS 0 0 rfl rfl (show vp_in (1) 6 from by unfold vp_in; decide) dJ7_fill_53178_13 (fun H locs hP hD hS => ?_)
  obtain ⟨f_2, hP, hD⟩ : ∃ f9 : Nat → Int32, va_P (dC, dI) vwCl [(h0, .inl (cA, 6, .inl (f9)))] H ∧ va_D A [(h0, .inl (cA, 6, .inl (f9)))] := ⟨_, hP, hD⟩
  refine lv_iinc (v := 2) (lv' := [(2, .int 2), (3, .int 6), (0, .ref h0), (1, .int x)]) hx hb dJ7_fill_53178_14 hl (k := 0) rfl (by decide) (by decide) rfl (fun ls hl => ?_)
  refine lv_goto (tgt := 5) hx hb dJ7_fill_53178_17 (by decide) ?_
  refine lv_iload_n hx hb dJ7_fill_53178_5 rfl (lv_at hl 0 rfl) ?_
  refine lv_iload_n hx hb dJ7_fill_53178_6 rfl (lv_at hl 1 rfl) ?_
  refine lv_icmp_ge (tgt := 20) hx hb dJ7_fill_53178_7 (by decide) (fun c9 => absurd c9 (by decide)) (fun _ => ?_)
  refine lv_aload_n hx hb dJ7_fill_53178_10 rfl (lv_at hl 2 rfl) ?_
  refine lv_iload_n hx hb dJ7_fill_53178_11 rfl (lv_at hl 0 rfl) ?_
  refine lv_iload_n hx hb dJ7_fill_53178_12 rfl (lv_at hl 3 rfl) ?_
  refine va_iast hx hb hK hP hD hS 0 0 rfl rfl (show vp_in (2) 6 from by unfold vp_in; decide) dJ7_fill_53178_13 (fun H locs hP hD hS => ?_)
  obtain ⟨f_3, hP, hD⟩ : ∃ f9 : Nat → Int32, va_P (dC, dI) vwCl [(h0, .inl (cA, 6, .inl (f9)))] H ∧ va_D A [(h0, .inl (cA, 6, .inl (f9)))] := ⟨_, hP, hD⟩
  refine lv_iinc (v := 3) (lv' := [(2, .int 3), (3, .int 6), (0, .ref h0), (1, .int x)]) hx hb dJ7_fill_53178_14 hl (k := 0) rfl (by decide) (by decide) rfl (fun ls hl => ?_)
  refine lv_goto (tgt := 5) hx hb dJ7_fill_53178_17 (by decide) ?_
  refine lv_iload_n hx hb dJ7_fill_53178_5 rfl (lv_at hl 0 rfl) ?_
  refine lv_iload_n hx hb dJ7_fill_53178_6 rfl (lv_at hl 1 rfl) ?_
  refine lv_icmp_ge (tgt := 20) hx hb dJ7_fill_53178_7 (by decide) (fun c9 => absurd c9 (by decide)) (fun _ => ?_)
  refine lv_aload_n hx hb dJ7_fill_53178_10 rfl (lv_at hl 2 rfl) ?_
  refine lv_iload_n hx hb dJ7_fill_53178_11 rfl (lv_at hl 0 rfl) ?_
  refine lv_iload_n hx hb dJ7_fill_53178_12 rfl (lv_at hl 3 rfl) ?_
  refine va_iast hx hb hK hP hD hS 0 0 rfl rfl (show vp_in (3) 6 from by unfold vp_in; decide) dJ7_fill_53178_13 (fun H locs hP hD hS => ?_)
  obtain ⟨f_4, hP, hD⟩ : ∃ f9 : Nat → Int32, va_P (dC, dI) vwCl [(h0, .inl (cA, 6, .inl (f9)))] H ∧ va_D A [(h0, .inl (cA, 6, .inl (f9)))] := ⟨_, hP, hD⟩
  refine lv_iinc (v := 4) (lv' := [(2, .int 4), (3, .int 6), (0, .ref h0), (1, .int x)]) hx hb dJ7_fill_53178_14 hl (k := 0) rfl (by decide) (by decide) rfl (fun ls hl => ?_)
  refine lv_goto (tgt := 5) hx hb dJ7_fill_53178_17 (by decide) ?_
  refine lv_iload_n hx hb dJ7_fill_53178_5 rfl (lv_at hl 0 rfl) ?_
  refine lv_iload_n hx hb dJ7_fill_53178_6 rfl (lv_at hl 1 rfl) ?_
  refine lv_icmp_ge (tgt := 20) hx hb dJ7_fill_53178_7 (by decide) (fun c9 => absurd c9 (by decide)) (fun _ => ?_)
  refine lv_aload_n hx hb dJ7_fill_53178_10 rfl (lv_at hl 2 rfl) ?_
  refine lv_iload_n hx hb dJ7_fill_53178_11 rfl (lv_at hl 0 rfl) ?_
  refine lv_iload_n hx hb dJ7_fill_53178_12 rfl (lv_at hl 3 rfl) ?_
  refine va_iast hx hb hK hP hD hS 0 0 rfl rfl (show vp_in (4) 6 from by unfold vp_in; decide) dJ7_fill_53178_13 (fun H locs hP hD hS => ?_)
  obtain ⟨f_5, hP, hD⟩ : ∃ f9 : Nat → Int32, va_P (dC, dI) vwCl [(h0, .inl (cA, 6, .inl (f9)))] H ∧ va_D A [(h0, .inl (cA, 6, .inl (f9)))] := ⟨_, hP, hD⟩
  refine lv_iinc (v := 5) (lv' := [(2, .int 5), (3, .int 6), (0, .ref h0), (1, .int x)]) hx hb dJ7_fill_53178_14 hl (k := 0) rfl (by decide) (by decide) rfl (fun ls hl => ?_)
  refine lv_goto (tgt := 5) hx hb dJ7_fill_53178_17 (by decide) ?_
  refine lv_iload_n hx hb dJ7_fill_53178_5 rfl (lv_at hl 0 rfl) ?_
  refine lv_iload_n hx hb dJ7_fill_53178_6 rfl (lv_at hl 1 rfl) ?_
  refine lv_icmp_ge (tgt := 20) hx hb dJ7_fill_53178_7 (by decide) (fun c9 => absurd c9 (by decide)) (fun _ => ?_)
  refine lv_aload_n hx hb dJ7_fill_53178_10 rfl (lv_at hl 2 rfl) ?_
  refine lv_iload_n hx hb dJ7_fill_53178_11 rfl (lv_at hl 0 rfl) ?_
  refine lv_iload_n hx hb dJ7_fill_53178_12 rfl (lv_at hl 3 rfl) ?_
  refine va_iast hx hb hK hP hD hS 0 0 rfl rfl (show vp_in (5) 6 from by unfold vp_in; decide) dJ7_fill_53178_13 (fun H locs hP hD hS => ?_)
  obtain ⟨f_6, hP, hD⟩ : ∃ f9 : Nat → Int32, va_P (dC, dI) vwCl [(h0, .inl (cA, 6, .inl (f9)))] H ∧ va_D A [(h0, .inl (cA, 6, .inl (f9)))] := ⟨_, hP, hD⟩
  refine lv_iinc (v := 6) (lv' := [(2, .int 6), (3, .int 6), (0, .ref h0), (1, .int x)]) hx hb dJ7_fill_53178_14 hl (k := 0) rfl (by decide) (by decide) rfl (fun ls hl => ?_)
  refine lv_goto (tgt := 5) hx hb dJ7_fill_53178_17 (by decide) ?_
  refine lv_iload_n hx hb dJ7_fill_53178_5 rfl (lv_at hl 0 rfl) ?_
  refine lv_iload_n hx hb dJ7_fill_53178_6 rfl (lv_at hl 1 rfl) ?_
  refine lv_icmp_ge (tgt := 20) hx hb dJ7_fill_53178_7 (by decide) (fun _ => ?_) (fun c9 => absurd c9 (by decide))
  have hP9 := hP.sub (ws' := []) [] rfl
  have hD9 := hD.sub (ws' := []) [] (by decide) rfl
  have hK9 := hK.sub (tys' := []) [] rfl
  refine W.widen (k := 0) (n := 0) (by omega) (by omega) ?_
  exact W.vret hx hb hr (fun t ht hW => ⟨⟨(), rfl, trivial, by rw [ht]; exact hP9, va_K.moved hW.alike hK9, hD9⟩, hS.F ht⟩) hS.2.2 dJ7_fill_53178_20
set_option maxHeartbeats 1000000 in
set_option maxRecDepth 100000 in
/-- Model(names, forms) -/
theorem c_Model_init (l : Launch) (dC : Nat → ClassId) (dI : Nat → Nat → Nat) (sz : Nat) (h0 a_n a_f : Nat) : Met l yX2_init wsX2_init ({ frames := 1, cells := 3, slots := 2596, locals := 23 }) (va_Pc [.ref h0, .ref a_n, .ref a_f] (fun U => U.heap.size = sz ∧ va_P (dC, dI) vwCl [(h0, .inr (2, [.null, .null, .null, .null, .null, .int 0]))] U.heap ∧ va_K (dC, dI) vwCl [] U ∧ va_D (fun _ => True) [(h0, .inr (2, [.null, .null, .null, .null, .null, .int 0]))])) (va_Qv (fun _ : Unit => True) (fun _ t => va_P (dC, dI) vwCl [] t.heap ∧ va_K (dC, dI) vwCl [] t ∧ va_D (va_A [(h0, .inr (2, [.null, .null, .null, .null, .null, .int 0]))] sz) []) (va_A [(h0, .inr (2, [.null, .null, .null, .null, .null, .int 0]))] sz)) (3) (2596) (va_A [(h0, .inr (2, [.null, .null, .null, .null, .null, .int 0]))] sz) := by
  refine Met.ofW (cc := cX2_init) (maxL := 3) (ret := none) (by decide) rfl ?_
  intro p e s m args below meth c s₁ B hml hv
  obtain ⟨rfl, hsz, hP, hK, hD0⟩ := hv
  have hx := B.exec
  have hb := B.bytes
  have hr := B.returns
  have hts := atoms_spec (ws := wsX2_init) B.pre
  have hown : s.vm.findClass RX2 = some m.cls := findClass_of_methodNamed B.named
  have hlocks := B.notSynchronized
  have hin : meth.name = "<init>" := (name_of_methodNamed B.named B.method).1
  subst hsz
  have hD := hD0.self (sz := s.heap.size)
  generalize hAe : va_A [(h0, .inr (2, [.null, .null, .null, .null, .null, .int 0]))] s.heap.size = A at hD ⊢
  have hA : ∀ q : Nat, s.heap.size ≤ q → A q := fun q h => by rw [← hAe]; exact Or.inr h
  have hS : va_S A s.heap s.heap [] := va_S.rf
  have hl := lv_entry ([.ref h0, .ref a_n, .ref a_f]) (n := 3) (Nat.le_of_ble_eq_true rfl)
  rw [lg_entry_eq]
  generalize (lg_sl ([.ref h0, .ref a_n, .ref a_f]) ++ List.replicate (3 - (lg_sl ([.ref h0, .ref a_n, .ref a_f])).length) Slot.unset).toArray = ls at hl ⊢
  have hl : lv_has ls 3 [(0, .ref h0), (1, .ref a_n), (2, .ref a_f)] := hl
  refine lv_aload_n hx hb dX2_init_0 rfl (lv_at hl 0 rfl) ?_
  refine W.objInit hx hb hown (hts (.methodLink RX2 3 objectInit) (by decide +kernel)) (hts (.instanceMethod objectInit) (by decide +kernel)) (hts (.code objectInit ⟨#[0xb1]⟩ 1 none) (by decide +kernel)) rfl (by rw [hml]; exact hl.1) rfl dX2_init_1 (Nat.le_of_ble_eq_true rfl) (Nat.le_of_ble_eq_true rfl) ?_
  refine W.eq (g2 := F0 m 4 ls []) rfl ?_
  refine lv_aload_n hx hb dX2_init_4 rfl (lv_at hl 0 rfl) ?_
  refine lv_bipush (v := 6) hx hb dX2_init_5 (by decide) ?_
  refine va_newa (atype := .int) (n := 6) (N' := 6) (ty := .int) (a0 := (6, .inl (fun _ => 0))) hx hb (hts (.arrayClass .int) (by decide +kernel)) rfl hK hP hD hS hA (fun _ => rfl) (by decide) (by decide) (by decide) (show 0 + 1 ≤ 3 by omega) (show 0 + 6 ≤ 2596 by omega) dX2_init_7 (fun q_1 cA_2 H hK hP hD hS => ?_)
  have hP : va_P (dC, dI) vwCl [(h0, .inr (2, [.null, .null, .null, .null, .null, .int 0])), (q_1, .inl (cA_2, 6, .inl (fun _ => 0)))] H := hP
  have hD : va_D A [(h0, .inr (2, [.null, .null, .null, .null, .null, .int 0])), (q_1, .inl (cA_2, 6, .inl (fun _ => 0)))] := hD
  have hK : va_K (dC, dI) vwCl [(cA_2, .int)] s := hK
  refine W.widen (k := 1) (n := 6) (by omega) (by omega) ?_
  refine va_putF (D := (dC, dI)) (ci := 2) (v := .ref q_1) (ty := .array .int) (C := RX2) (T := TX2) (N := 6) hx hb hts (by decide +kernel) tyX2 tyX2_ok nmX2 hown hK hP hD hS 0 rfl rfl 2 (by decide) (hts (.fieldLink RX2 9 "ProofBench$Model" "sizes" "[I") (by decide +kernel)) (fun _ h9 => h9) rfl hin rfl (by decide +kernel) rfl rfl (Nat.le_of_ble_eq_true rfl) dX2_init_9 (fun H locs hP hD hS => ?_)
  have hP : va_P (dC, dI) vwCl [(h0, .inr (2, [.null, .null, .ref q_1, .null, .null, .int 0])), (q_1, .inl (cA_2, 6, .inl (fun _ => 0)))] H := hP
  have hD : va_D A [(h0, .inr (2, [.null, .null, .ref q_1, .null, .null, .int 0])), (q_1, .inl (cA_2, 6, .inl (fun _ => 0)))] := hD
  refine lv_aload_n hx hb dX2_init_12 rfl (lv_at hl 0 rfl) ?_
  refine lv_sipush (v := 2560) hx hb dX2_init_13 (by decide) ?_
  refine va_newa (atype := .int) (n := 2560) (N' := 2560) (ty := .int) (a0 := (2560, .inl (fun _ => 0))) hx hb (hts (.arrayClass .int) (by decide +kernel)) rfl hK hP hD hS hA (fun _ => rfl) (by decide) (by decide) (by decide) (show 1 + 1 ≤ 3 by omega) (show 6 + 2560 ≤ 2596 by omega) dX2_init_16 (fun q_3 cA_4 H hK hP hD hS => ?_)
  have hP : va_P (dC, dI) vwCl [(h0, .inr (2, [.null, .null, .ref q_1, .null, .null, .int 0])), (q_1, .inl (cA_2, 6, .inl (fun _ => 0))), (q_3, .inl (cA_4, 2560, .inl (fun _ => 0)))] H := hP
  have hD : va_D A [(h0, .inr (2, [.null, .null, .ref q_1, .null, .null, .int 0])), (q_1, .inl (cA_2, 6, .inl (fun _ => 0))), (q_3, .inl (cA_4, 2560, .inl (fun _ => 0)))] := hD
  have hK : va_K (dC, dI) vwCl [(cA_2, .int), (cA_4, .int)] s := hK
  refine W.widen (k := 2) (n := 2566) (by omega) (by omega) ?_
  refine va_putF (D := (dC, dI)) (ci := 2) (v := .ref q_3) (ty := .array .int) (C := RX2) (T := TX2) (N := 6) hx hb hts (by decide +kernel) tyX2 tyX2_ok nmX2 hown hK hP hD hS 0 rfl rfl 3 (by decide) (hts (.fieldLink RX2 15 "ProofBench$Model" "tables" "[I") (by decide +kernel)) (fun _ h9 => h9) rfl hin rfl (by decide +kernel) rfl rfl (Nat.le_of_ble_eq_true rfl) dX2_init_18 (fun H locs hP hD hS => ?_)
  have hP : va_P (dC, dI) vwCl [(h0, .inr (2, [.null, .null, .ref q_1, .ref q_3, .null, .int 0])), (q_1, .inl (cA_2, 6, .inl (fun _ => 0))), (q_3, .inl (cA_4, 2560, .inl (fun _ => 0)))] H := hP
  have hD : va_D A [(h0, .inr (2, [.null, .null, .ref q_1, .ref q_3, .null, .int 0])), (q_1, .inl (cA_2, 6, .inl (fun _ => 0))), (q_3, .inl (cA_4, 2560, .inl (fun _ => 0)))] := hD
  refine lv_aload_n hx hb dX2_init_21 rfl (lv_at hl 0 rfl) ?_
  refine lv_bipush (v := 30) hx hb dX2_init_22 (by decide) ?_
  refine va_newa (atype := .int) (n := 30) (N' := 30) (ty := .int) (a0 := (30, .inl (fun _ => 0))) hx hb (hts (.arrayClass .int) (by decide +kernel)) rfl hK hP hD hS hA (fun _ => rfl) (by decide) (by decide) (by decide) (show 2 + 1 ≤ 3 by omega) (show 2566 + 30 ≤ 2596 by omega) dX2_init_24 (fun q_5 cA_6 H hK hP hD hS => ?_)
  have hP : va_P (dC, dI) vwCl [(h0, .inr (2, [.null, .null, .ref q_1, .ref q_3, .null, .int 0])), (q_1, .inl (cA_2, 6, .inl (fun _ => 0))), (q_3, .inl (cA_4, 2560, .inl (fun _ => 0))), (q_5, .inl (cA_6, 30, .inl (fun _ => 0)))] H := hP
  have hD : va_D A [(h0, .inr (2, [.null, .null, .ref q_1, .ref q_3, .null, .int 0])), (q_1, .inl (cA_2, 6, .inl (fun _ => 0))), (q_3, .inl (cA_4, 2560, .inl (fun _ => 0))), (q_5, .inl (cA_6, 30, .inl (fun _ => 0)))] := hD
  have hK : va_K (dC, dI) vwCl [(cA_2, .int), (cA_4, .int), (cA_6, .int)] s := hK
  refine W.widen (k := 3) (n := 2596) (by omega) (by omega) ?_
  refine va_putF (D := (dC, dI)) (ci := 2) (v := .ref q_5) (ty := .array .int) (C := RX2) (T := TX2) (N := 6) hx hb hts (by decide +kernel) tyX2 tyX2_ok nmX2 hown hK hP hD hS 0 rfl rfl 4 (by decide) (hts (.fieldLink RX2 18 "ProofBench$Model" "things" "[I") (by decide +kernel)) (fun _ h9 => h9) rfl hin rfl (by decide +kernel) rfl rfl (Nat.le_of_ble_eq_true rfl) dX2_init_26 (fun H locs hP hD hS => ?_)
  have hP : va_P (dC, dI) vwCl [(h0, .inr (2, [.null, .null, .ref q_1, .ref q_3, .ref q_5, .int 0])), (q_1, .inl (cA_2, 6, .inl (fun _ => 0))), (q_3, .inl (cA_4, 2560, .inl (fun _ => 0))), (q_5, .inl (cA_6, 30, .inl (fun _ => 0)))] H := hP
  have hD : va_D A [(h0, .inr (2, [.null, .null, .ref q_1, .ref q_3, .ref q_5, .int 0])), (q_1, .inl (cA_2, 6, .inl (fun _ => 0))), (q_3, .inl (cA_4, 2560, .inl (fun _ => 0))), (q_5, .inl (cA_6, 30, .inl (fun _ => 0)))] := hD
  refine lv_aload_n hx hb dX2_init_29 rfl (lv_at hl 0 rfl) ?_
  refine lv_aload_n hx hb dX2_init_30 rfl (lv_at hl 1 rfl) ?_
  refine va_putF (D := (dC, dI)) (ci := 2) (v := .ref a_n) (ty := .object "ProofBench$Names") (C := RX2) (T := TX2) (N := 6) hx hb hts (by decide +kernel) tyX2 tyX2_ok nmX2 hown hK hP hD hS 0 rfl rfl 0 (by decide) (hts (.fieldLink RX2 21 "ProofBench$Model" "names" "LProofBench$Names;") (by decide +kernel)) (fun _ h9 => h9) rfl hin rfl (by decide +kernel) rfl rfl (Nat.le_of_ble_eq_true rfl) dX2_init_31 (fun H locs hP hD hS => ?_)
  have hP : va_P (dC, dI) vwCl [(h0, .inr (2, [.ref a_n, .null, .ref q_1, .ref q_3, .ref q_5, .int 0])), (q_1, .inl (cA_2, 6, .inl (fun _ => 0))), (q_3, .inl (cA_4, 2560, .inl (fun _ => 0))), (q_5, .inl (cA_6, 30, .inl (fun _ => 0)))] H := hP
  have hD : va_D A [(h0, .inr (2, [.ref a_n, .null, .ref q_1, .ref q_3, .ref q_5, .int 0])), (q_1, .inl (cA_2, 6, .inl (fun _ => 0))), (q_3, .inl (cA_4, 2560, .inl (fun _ => 0))), (q_5, .inl (cA_6, 30, .inl (fun _ => 0)))] := hD
  refine lv_aload_n hx hb dX2_init_34 rfl (lv_at hl 0 rfl) ?_
  refine lv_aload_n hx hb dX2_init_35 rfl (lv_at hl 2 rfl) ?_
  refine va_putF (D := (dC, dI)) (ci := 2) (v := .ref a_f) (ty := .object "ProofBench$Forms") (C := RX2) (T := TX2) (N := 6) hx hb hts (by decide +kernel) tyX2 tyX2_ok nmX2 hown hK hP hD hS 0 rfl rfl 1 (by decide) (hts (.fieldLink RX2 25 "ProofBench$Model" "forms" "LProofBench$Forms;") (by decide +kernel)) (fun _ h9 => h9) rfl hin rfl (by decide +kernel) rfl rfl (Nat.le_of_ble_eq_true rfl) dX2_init_36 (fun H locs hP hD hS => ?_)
  have hP : va_P (dC, dI) vwCl [(h0, .inr (2, [.ref a_n, .ref a_f, .ref q_1, .ref q_3, .ref q_5, .int 0])), (q_1, .inl (cA_2, 6, .inl (fun _ => 0))), (q_3, .inl (cA_4, 2560, .inl (fun _ => 0))), (q_5, .inl (cA_6, 30, .inl (fun _ => 0)))] H := hP
  have hD : va_D A [(h0, .inr (2, [.ref a_n, .ref a_f, .ref q_1, .ref q_3, .ref q_5, .int 0])), (q_1, .inl (cA_2, 6, .inl (fun _ => 0))), (q_3, .inl (cA_4, 2560, .inl (fun _ => 0))), (q_5, .inl (cA_6, 30, .inl (fun _ => 0)))] := hD
  refine lv_aload_n hx hb dX2_init_39 rfl (lv_at hl 0 rfl) ?_
  refine va_get (D := (dC, dI)) (ci := 2) (v := .ref q_1) (C := RX2) (T := TX2) (N := 6) hx hb hts (by decide +kernel) hown hK hP 0 rfl rfl 2 (by decide) (hts (.fieldLink RX2 9 "ProofBench$Model" "sizes" "[I") (by decide +kernel)) (fun _ h9 => h9) rfl dX2_init_40 ?_
  refine lv_iconst (v := 1) hx hb dX2_init_43 (by decide) ?_
  have hPc := hP.sub (ws' := [(q_1, .inl (cA_2, 6, .inl (fun _ => 0)))]) [1] rfl
  have hDc := hD.sub (ws' := [(q_1, .inl (cA_2, 6, .inl (fun _ => 0)))]) [1] (by decide) rfl
  have hKc := hK.sub (tys' := [(cA_2, .int)]) [0] rfl
  have hFc := va_free (wc := [(q_1, .inl (cA_2, 6, .inl (fun _ => 0)))]) hD hS hA [1] rfl
  refine va_callv (va_runS (As := [.ref q_1, .int 1]) (rest := []) ⟨hx, hb, hml, hown, hts⟩ (c_fill6 l dC dI H.size q_1 cA_2 (fun _ => 0) (1)) (va_cwS 2 hts gX2_init_J7_fill_53178 rfl rfl rfl (by decide +kernel) ⟨Nat.le_of_ble_eq_true rfl, Nat.le_of_ble_eq_true rfl⟩) ⟨fun a U g mk q => by obtain ⟨q0, q1, qP, qK, qD⟩ := q; exact ⟨q0, q1, qP, va_K.moved (u := U) (U := U.calling g mk a) (Vm.Alike.refl U.vm) qK, qD⟩, fun U hU hW => ⟨rfl, by rw [hU], by rw [hU]; exact hPc, va_K.moved hW.alike hKc, hDc.weaken (fun _ _ _ _ => trivial)⟩⟩ rfl rfl hl.1 rfl (lv_room (Nat.le_of_ble_eq_true rfl)) dX2_init_44 ⟨(show 3 + 0 ≤ 3 by omega), (show 2596 + 0 ≤ 2596 by omega)⟩) hS (fun q _ h => hFc q h) hFc (fun u t H1 locs ht hvm hw hB hz1 hk1 hS => ?_)
  obtain ⟨hP1, hK1, hD1⟩ := hB
  rw [ht] at hP1
  have hK1 := va_K.moved hvm.symm hK1
  obtain ⟨hP, hD⟩ := va_join (wr := [(h0, .inr (2, [.ref a_n, .ref a_f, .ref q_1, .ref q_3, .ref q_5, .int 0])), (q_3, .inl (cA_4, 2560, .inl (fun _ => 0))), (q_5, .inl (cA_6, 30, .inl (fun _ => 0)))]) (w1 := []) hP hD [1] [0, 2, 3] rfl rfl (by decide) (by decide) hk1 hFc hP1 hD1
  have hK := (hK.sub (tys' := [(cA_2, .int), (cA_4, .int), (cA_6, .int)]) [0, 1, 2] rfl).app hK1
  generalize H1 = H at hP hS ⊢
  have hP : va_P (dC, dI) vwCl [(h0, .inr (2, [.ref a_n, .ref a_f, .ref q_1, .ref q_3, .ref q_5, .int 0])), (q_3, .inl (cA_4, 2560, .inl (fun _ => 0))), (q_5, .inl (cA_6, 30, .inl (fun _ => 0)))] H := hP
  have hD : va_D A [(h0, .inr (2, [.ref a_n, .ref a_f, .ref q_1, .ref q_3, .ref q_5, .int 0])), (q_3, .inl (cA_4, 2560, .inl (fun _ => 0))), (q_5, .inl (cA_6, 30, .inl (fun _ => 0)))] := hD
  have hK : va_K (dC, dI) vwCl [(cA_2, .int), (cA_4, .int), (cA_6, .int)] s := hK
  refine W.widen (k := 3) (n := 2596) (by omega) (by omega) ?_
  have hP9 := hP.sub (ws' := []) [] rfl
  have hD9 := hD.sub (ws' := []) [] (by decide) rfl
  have hK9 := hK.sub (tys' := []) [] rfl
  refine W.widen (k := 3) (n := 2596) (by omega) (by omega) ?_
  exact W.vret hx hb hr (fun t ht hW => ⟨⟨(), rfl, trivial, by rw [ht]; exact hP9, va_K.moved hW.alike hK9, hD9⟩, hS.F ht⟩) hS.2.2 dX2_init_47
set_option maxHeartbeats 1000000 in
set_option maxRecDepth 100000 in
/-- Proof(names, forms, look): no step -/
theorem c_Proof_init (l : Launch) (dC : Nat → ClassId) (dI : Nat → Nat → Nat) (sz : Nat) (h0 a_n a_f a_l : Nat) : Met l yX5_init wsX5_init ({ frames := 3, cells := 22, slots := 4413, locals := 55 }) (va_Pc [.ref h0, .ref a_n, .ref a_f, .ref a_l] (fun U => U.heap.size = sz ∧ va_P (dC, dI) vwCl [(h0, .inr (5, [.null, .null, .null, .null, .null, .null, .null, .null, .null, .null, .int 0, .int 0, .null, .int 0, .int 0, .long 0, .int 0]))] U.heap ∧ va_K (dC, dI) vwCl [] U ∧ va_D (fun _ => True) [(h0, .inr (5, [.null, .null, .null, .null, .null, .null, .null, .null, .null, .null, .int 0, .int 0, .null, .int 0, .int 0, .long 0, .int 0]))] ∧ va_AO RX6 U ∧ va_AO RX8 U ∧ va_AO RX10 U)) (va_Qv (fun _ : Unit => True) (fun _ t => ∃ (q_15 : Nat) (q_1 : Nat) (q_3 : Nat) (q_5 : Nat) (q_16 : Nat) (q_7 : Nat) (q_10 : Nat) (q_13 : Nat), va_P (dC, dI) vwCl [(h0, .inr (5, [.ref a_n, .ref a_f, .ref a_l, .ref q_15, .ref q_1, .ref q_3, .ref q_5, .ref q_16, .ref q_7, .ref q_10, .int 0, .int 0, .ref q_13, .int 0, .int 0, .long 0, .int 0]))] t.heap ∧ va_K (dC, dI) vwCl [] t ∧ va_D (va_A [(h0, .inr (5, [.null, .null, .null, .null, .null, .null, .null, .null, .null, .null, .int 0, .int 0, .null, .int 0, .int 0, .long 0, .int 0]))] sz) [(h0, .inr (5, [.ref a_n, .ref a_f, .ref a_l, .ref q_15, .ref q_1, .ref q_3, .ref q_5, .ref q_16, .ref q_7, .ref q_10, .int 0, .int 0, .ref q_13, .int 0, .int 0, .long 0, .int 0]))]) (va_A [(h0, .inr (5, [.null, .null, .null, .null, .null, .null, .null, .null, .null, .null, .int 0, .int 0, .null, .int 0, .int 0, .long 0, .int 0]))] sz)) (22) (4413) (va_A [(h0, .inr (5, [.null, .null, .null, .null, .null, .null, .null, .null, .null, .null, .int 0, .int 0, .null, .int 0, .int 0, .long 0, .int 0]))] sz) := by
  refine Met.ofW (cc := cX5_init) (maxL := 5) (ret := none) (by decide) rfl ?_
  intro p e s m args below meth c s₁ B hml hv
  obtain ⟨rfl, hsz, hP, hK, hD0, hao6, hao8, hao10⟩ := hv
  have hx := B.exec
  have hb := B.bytes
  have hr := B.returns
  have hts := atoms_spec (ws := wsX5_init) B.pre
  have hown : s.vm.findClass RX5 = some m.cls := findClass_of_methodNamed B.named
  have hlocks := B.notSynchronized
  have hin : meth.name = "<init>" := (name_of_methodNamed B.named B.method).1
  subst hsz
  have hD := hD0.self (sz := s.heap.size)
  generalize hAe : va_A [(h0, .inr (5, [.null, .null, .null, .null, .null, .null, .null, .null, .null, .null, .int 0, .int 0, .null, .int 0, .int 0, .long 0, .int 0]))] s.heap.size = A at hD ⊢
  have hA : ∀ q : Nat, s.heap.size ≤ q → A q := fun q h => by rw [← hAe]; exact Or.inr h
  have hS : va_S A s.heap s.heap [] := va_S.rf
  have hl := lv_entry ([.ref h0, .ref a_n, .ref a_f, .ref a_l]) (n := 5) (Nat.le_of_ble_eq_true rfl)
  rw [lg_entry_eq]
  generalize (lg_sl ([.ref h0, .ref a_n, .ref a_f, .ref a_l]) ++ List.replicate (5 - (lg_sl ([.ref h0, .ref a_n, .ref a_f, .ref a_l])).length) Slot.unset).toArray = ls at hl ⊢
  have hl : lv_has ls 5 [(0, .ref h0), (1, .ref a_n), (2, .ref a_f), (3, .ref a_l)] := hl
  refine lv_aload_n hx hb dX5_init_0 rfl (lv_at hl 0 rfl) ?_
  refine W.objInit hx hb hown (hts (.methodLink RX5 3 objectInit) (by decide +kernel)) (hts (.instanceMethod objectInit) (by decide +kernel)) (hts (.code objectInit ⟨#[0xb1]⟩ 1 none) (by decide +kernel)) rfl (by rw [hml]; exact hl.1) rfl dX5_init_1 (Nat.le_of_ble_eq_true rfl) (Nat.le_of_ble_eq_true rfl) ?_
  refine W.eq (g2 := F0 m 4 ls []) rfl ?_
  refine lv_aload_n hx hb dX5_init_4 rfl (lv_at hl 0 rfl) ?_
  refine lv_sipush (v := 300) hx hb dX5_init_5 (by decide) ?_
  refine va_newq (C := RX8) (n := 300) (N' := 300) hx hb hown (hts (.classLink RX5 9 RX8) (by decide +kernel)) hao8 hK hP hD hS hA (by decide) (by decide) (by decide) (show 0 + 1 ≤ 22 by omega) (show 0 + 300 ≤ 4413 by omega) dX5_init_8 (fun q_1 cA_2 H hK hP hD hS => ?_)
  have hP : va_P (dC, dI) vwCl [(h0, .inr (5, [.null, .null, .null, .null, .null, .null, .null, .null, .null, .null, .int 0, .int 0, .null, .int 0, .int 0, .long 0, .int 0])), (q_1, .inl (cA_2, 300, .inr (.inr (.inr (.inr (fun _ => none))))))] H := hP
  have hD : va_D A [(h0, .inr (5, [.null, .null, .null, .null, .null, .null, .null, .null, .null, .null, .int 0, .int 0, .null, .int 0, .int 0, .long 0, .int 0])), (q_1, .inl (cA_2, 300, .inr (.inr (.inr (.inr (fun _ => none))))))] := hD
  have hK : va_K (dC, dI) vwCl [(cA_2, .object RX8)] s := hK
  refine W.widen (k := 1) (n := 300) (by omega) (by omega) ?_
  refine va_putF (D := (dC, dI)) (ci := 5) (v := .ref q_1) (ty := .array (.object "ProofBench$Step")) (C := RX5) (T := TX5) (N := 17) hx hb hts (by decide +kernel) tyX5 tyX5_ok nmX5 hown hK hP hD hS 0 rfl rfl 4 (by decide) (hts (.fieldLink RX5 11 "ProofBench$Proof" "steps" "[LProofBench$Step;") (by decide +kernel)) (fun _ h9 => h9) rfl hin rfl (by decide +kernel) rfl rfl (Nat.le_of_ble_eq_true rfl) dX5_init_11 (fun H locs hP hD hS => ?_)
  have hP : va_P (dC, dI) vwCl [(h0, .inr (5, [.null, .null, .null, .null, .ref q_1, .null, .null, .null, .null, .null, .int 0, .int 0, .null, .int 0, .int 0, .long 0, .int 0])), (q_1, .inl (cA_2, 300, .inr (.inr (.inr (.inr (fun _ => none))))))] H := hP
  have hD : va_D A [(h0, .inr (5, [.null, .null, .null, .null, .ref q_1, .null, .null, .null, .null, .null, .int 0, .int 0, .null, .int 0, .int 0, .long 0, .int 0])), (q_1, .inl (cA_2, 300, .inr (.inr (.inr (.inr (fun _ => none))))))] := hD
  refine lv_aload_n hx hb dX5_init_14 rfl (lv_at hl 0 rfl) ?_
  refine lv_bipush (v := 40) hx hb dX5_init_15 (by decide) ?_
  refine va_newq (C := RX8) (n := 40) (N' := 40) hx hb hown (hts (.classLink RX5 9 RX8) (by decide +kernel)) hao8 hK hP hD hS hA (by decide) (by decide) (by decide) (show 1 + 1 ≤ 22 by omega) (show 300 + 40 ≤ 4413 by omega) dX5_init_17 (fun q_3 cA_4 H hK hP hD hS => ?_)
  have hP : va_P (dC, dI) vwCl [(h0, .inr (5, [.null, .null, .null, .null, .ref q_1, .null, .null, .null, .null, .null, .int 0, .int 0, .null, .int 0, .int 0, .long 0, .int 0])), (q_1, .inl (cA_2, 300, .inr (.inr (.inr (.inr (fun _ => none)))))), (q_3, .inl (cA_4, 40, .inr (.inr (.inr (.inr (fun _ => none))))))] H := hP
  have hD : va_D A [(h0, .inr (5, [.null, .null, .null, .null, .ref q_1, .null, .null, .null, .null, .null, .int 0, .int 0, .null, .int 0, .int 0, .long 0, .int 0])), (q_1, .inl (cA_2, 300, .inr (.inr (.inr (.inr (fun _ => none)))))), (q_3, .inl (cA_4, 40, .inr (.inr (.inr (.inr (fun _ => none))))))] := hD
  have hK : va_K (dC, dI) vwCl [(cA_2, .object RX8), (cA_4, .object RX8)] s := hK
  refine W.widen (k := 2) (n := 340) (by omega) (by omega) ?_
  refine va_putF (D := (dC, dI)) (ci := 5) (v := .ref q_3) (ty := .array (.object "ProofBench$Step")) (C := RX5) (T := TX5) (N := 17) hx hb hts (by decide +kernel) tyX5 tyX5_ok nmX5 hown hK hP hD hS 0 rfl rfl 5 (by decide) (hts (.fieldLink RX5 17 "ProofBench$Proof" "facts" "[LProofBench$Step;") (by decide +kernel)) (fun _ h9 => h9) rfl hin rfl (by decide +kernel) rfl rfl (Nat.le_of_ble_eq_true rfl) dX5_init_20 (fun H locs hP hD hS => ?_)
  have hP : va_P (dC, dI) vwCl [(h0, .inr (5, [.null, .null, .null, .null, .ref q_1, .ref q_3, .null, .null, .null, .null, .int 0, .int 0, .null, .int 0, .int 0, .long 0, .int 0])), (q_1, .inl (cA_2, 300, .inr (.inr (.inr (.inr (fun _ => none)))))), (q_3, .inl (cA_4, 40, .inr (.inr (.inr (.inr (fun _ => none))))))] H := hP
  have hD : va_D A [(h0, .inr (5, [.null, .null, .null, .null, .ref q_1, .ref q_3, .null, .null, .null, .null, .int 0, .int 0, .null, .int 0, .int 0, .long 0, .int 0])), (q_1, .inl (cA_2, 300, .inr (.inr (.inr (.inr (fun _ => none)))))), (q_3, .inl (cA_4, 40, .inr (.inr (.inr (.inr (fun _ => none))))))] := hD
  refine lv_aload_n hx hb dX5_init_23 rfl (lv_at hl 0 rfl) ?_
  refine lv_iconst (v := 4) hx hb dX5_init_24 (by decide) ?_
  refine va_newq (C := RX8) (n := 4) (N' := 4) hx hb hown (hts (.classLink RX5 9 RX8) (by decide +kernel)) hao8 hK hP hD hS hA (by decide) (by decide) (by decide) (show 2 + 1 ≤ 22 by omega) (show 340 + 4 ≤ 4413 by omega) dX5_init_25 (fun q_5 cA_6 H hK hP hD hS => ?_)
  have hP : va_P (dC, dI) vwCl [(h0, .inr (5, [.null, .null, .null, .null, .ref q_1, .ref q_3, .null, .null, .null, .null, .int 0, .int 0, .null, .int 0, .int 0, .long 0, .int 0])), (q_1, .inl (cA_2, 300, .inr (.inr (.inr (.inr (fun _ => none)))))), (q_3, .inl (cA_4, 40, .inr (.inr (.inr (.inr (fun _ => none)))))), (q_5, .inl (cA_6, 4, .inr (.inr (.inr (.inr (fun _ => none))))))] H := hP
  have hD : va_D A [(h0, .inr (5, [.null, .null, .null, .null, .ref q_1, .ref q_3, .null, .null, .null, .null, .int 0, .int 0, .null, .int 0, .int 0, .long 0, .int 0])), (q_1, .inl (cA_2, 300, .inr (.inr (.inr (.inr (fun _ => none)))))), (q_3, .inl (cA_4, 40, .inr (.inr (.inr (.inr (fun _ => none)))))), (q_5, .inl (cA_6, 4, .inr (.inr (.inr (.inr (fun _ => none))))))] := hD
  have hK : va_K (dC, dI) vwCl [(cA_2, .object RX8), (cA_4, .object RX8), (cA_6, .object RX8)] s := hK
  refine W.widen (k := 3) (n := 344) (by omega) (by omega) ?_
  refine va_putF (D := (dC, dI)) (ci := 5) (v := .ref q_5) (ty := .array (.object "ProofBench$Step")) (C := RX5) (T := TX5) (N := 17) hx hb hts (by decide +kernel) tyX5 tyX5_ok nmX5 hown hK hP hD hS 0 rfl rfl 6 (by decide) (hts (.fieldLink RX5 22 "ProofBench$Proof" "named" "[LProofBench$Step;") (by decide +kernel)) (fun _ h9 => h9) rfl hin rfl (by decide +kernel) rfl rfl (Nat.le_of_ble_eq_true rfl) dX5_init_28 (fun H locs hP hD hS => ?_)
  have hP : va_P (dC, dI) vwCl [(h0, .inr (5, [.null, .null, .null, .null, .ref q_1, .ref q_3, .ref q_5, .null, .null, .null, .int 0, .int 0, .null, .int 0, .int 0, .long 0, .int 0])), (q_1, .inl (cA_2, 300, .inr (.inr (.inr (.inr (fun _ => none)))))), (q_3, .inl (cA_4, 40, .inr (.inr (.inr (.inr (fun _ => none)))))), (q_5, .inl (cA_6, 4, .inr (.inr (.inr (.inr (fun _ => none))))))] H := hP
  have hD : va_D A [(h0, .inr (5, [.null, .null, .null, .null, .ref q_1, .ref q_3, .ref q_5, .null, .null, .null, .int 0, .int 0, .null, .int 0, .int 0, .long 0, .int 0])), (q_1, .inl (cA_2, 300, .inr (.inr (.inr (.inr (fun _ => none)))))), (q_3, .inl (cA_4, 40, .inr (.inr (.inr (.inr (fun _ => none)))))), (q_5, .inl (cA_6, 4, .inr (.inr (.inr (.inr (fun _ => none))))))] := hD
  refine lv_aload_n hx hb dX5_init_31 rfl (lv_at hl 0 rfl) ?_
  refine va_new (ci := 6) (fs := [.null, .int 0]) (C := RX6) (T := TX6) (N := 2) hx hb hts (by decide +kernel) tyX6 tyX6_ok hown (hts (.classLink RX5 25 RX6) (by decide +kernel)) (hts (.instantiable RX6 2) (by decide +kernel)) (hts (.initialized RX6) (by decide +kernel)) hK hP hD hS hA rfl (fun j hj => by rcases (show j = 0 ∨ j = 1 by omega) with rfl | rfl <;> rfl) (show 3 + 1 ≤ 22 by omega) (show 344 + 2 ≤ 4413 by omega) dX5_init_32 (fun q_7 H hP hD hS => ?_)
  have hP : va_P (dC, dI) vwCl [(h0, .inr (5, [.null, .null, .null, .null, .ref q_1, .ref q_3, .ref q_5, .null, .null, .null, .int 0, .int 0, .null, .int 0, .int 0, .long 0, .int 0])), (q_1, .inl (cA_2, 300, .inr (.inr (.inr (.inr (fun _ => none)))))), (q_3, .inl (cA_4, 40, .inr (.inr (.inr (.inr (fun _ => none)))))), (q_5, .inl (cA_6, 4, .inr (.inr (.inr (.inr (fun _ => none)))))), (q_7, .inr (6, [.null, .int 0]))] H := hP
  have hD : va_D A [(h0, .inr (5, [.null, .null, .null, .null, .ref q_1, .ref q_3, .ref q_5, .null, .null, .null, .int 0, .int 0, .null, .int 0, .int 0, .long 0, .int 0])), (q_1, .inl (cA_2, 300, .inr (.inr (.inr (.inr (fun _ => none)))))), (q_3, .inl (cA_4, 40, .inr (.inr (.inr (.inr (fun _ => none)))))), (q_5, .inl (cA_6, 4, .inr (.inr (.inr (.inr (fun _ => none)))))), (q_7, .inr (6, [.null, .int 0]))] := hD
  refine W.widen (k := 4) (n := 346) (by omega) (by omega) ?_
  refine lv_dup hx hb dX5_init_35 rfl ?_
  refine lv_sipush (v := 1210) hx hb dX5_init_36 (by decide) ?_
  have hPc := hP.sub (ws' := [(q_7, .inr (6, [.null, .int 0]))]) [4] rfl
  have hDc := hD.sub (ws' := [(q_7, .inr (6, [.null, .int 0]))]) [4] (by decide) rfl
  have hKc := hK.sub (tys' := []) [] rfl
  have hFc := va_free (wc := [(q_7, .inr (6, [.null, .int 0]))]) hD hS hA [4] rfl
  refine va_callv (va_runI (As := [.int 1210]) (rest := [.ref q_7, .ref h0]) ⟨hx, hb, hml, hown, hts⟩ (c_Row_init l dC dI H.size q_7 1210 1210 (by decide) (by decide) (by decide)) (cwI 1 hts gX5_init_X6_init rfl rfl rfl (hts (.initialized RX6) (by decide +kernel)) (hts (.methodLink RX5 27 yX6_init) (by decide +kernel)) (hts (.instanceMethod yX6_init) (by decide +kernel)) rfl (by decide +kernel) ⟨Nat.le_of_ble_eq_true rfl, Nat.le_of_ble_eq_true rfl⟩) ⟨fun a U g mk q => by obtain ⟨q0, q1, qP, qK, qD⟩ := q; exact ⟨q0, q1, qP, va_K.moved (u := U) (U := U.calling g mk a) (Vm.Alike.refl U.vm) qK, qD⟩, fun U hU hW => ⟨rfl, by rw [hU], by rw [hU]; exact hPc, va_K.moved hW.alike hKc, hDc.weaken (fun _ _ _ _ => trivial)⟩⟩ rfl rfl hl.1 rfl (lv_room (Nat.le_of_ble_eq_true rfl)) dX5_init_39 ⟨(show 4 + 1 ≤ 22 by omega), (show 346 + 1210 ≤ 4413 by omega)⟩) hS (fun q _ h => hFc q h) hFc (fun u t H1 locs ht hvm hw hB hz1 hk1 hS => ?_)
  obtain ⟨q_8, cA_9, hP1, hK1, hD1⟩ := hB
  rw [ht] at hP1
  have hK1 := va_K.moved hvm.symm hK1
  obtain ⟨hP, hD⟩ := va_join (wr := [(h0, .inr (5, [.null, .null, .null, .null, .ref q_1, .ref q_3, .ref q_5, .null, .null, .null, .int 0, .int 0, .null, .int 0, .int 0, .long 0, .int 0])), (q_1, .inl (cA_2, 300, .inr (.inr (.inr (.inr (fun _ => none)))))), (q_3, .inl (cA_4, 40, .inr (.inr (.inr (.inr (fun _ => none)))))), (q_5, .inl (cA_6, 4, .inr (.inr (.inr (.inr (fun _ => none))))))]) (w1 := [(q_7, .inr (6, [.ref q_8, .int 0])), (q_8, .inl (cA_9, 1210, .inl (fun _ => 0)))]) hP hD [4] [0, 1, 2, 3] rfl rfl (by decide) (by decide) hk1 hFc hP1 hD1
  have hK := (hK.sub (tys' := [(cA_2, .object RX8), (cA_4, .object RX8), (cA_6, .object RX8)]) [0, 1, 2] rfl).app hK1
  generalize H1 = H at hP hS ⊢
  have hP : va_P (dC, dI) vwCl [(h0, .inr (5, [.null, .null, .null, .null, .ref q_1, .ref q_3, .ref q_5, .null, .null, .null, .int 0, .int 0, .null, .int 0, .int 0, .long 0, .int 0])), (q_1, .inl (cA_2, 300, .inr (.inr (.inr (.inr (fun _ => none)))))), (q_3, .inl (cA_4, 40, .inr (.inr (.inr (.inr (fun _ => none)))))), (q_5, .inl (cA_6, 4, .inr (.inr (.inr (.inr (fun _ => none)))))), (q_7, .inr (6, [.ref q_8, .int 0])), (q_8, .inl (cA_9, 1210, .inl (fun _ => 0)))] H := hP
  have hD : va_D A [(h0, .inr (5, [.null, .null, .null, .null, .ref q_1, .ref q_3, .ref q_5, .null, .null, .null, .int 0, .int 0, .null, .int 0, .int 0, .long 0, .int 0])), (q_1, .inl (cA_2, 300, .inr (.inr (.inr (.inr (fun _ => none)))))), (q_3, .inl (cA_4, 40, .inr (.inr (.inr (.inr (fun _ => none)))))), (q_5, .inl (cA_6, 4, .inr (.inr (.inr (.inr (fun _ => none)))))), (q_7, .inr (6, [.ref q_8, .int 0])), (q_8, .inl (cA_9, 1210, .inl (fun _ => 0)))] := hD
  have hK : va_K (dC, dI) vwCl [(cA_2, .object RX8), (cA_4, .object RX8), (cA_6, .object RX8), (cA_9, .int)] s := hK
  refine W.widen (k := 5) (n := 1556) (by omega) (by omega) ?_
  refine va_putF (D := (dC, dI)) (ci := 5) (v := .ref q_7) (ty := .object "ProofBench$Row") (C := RX5) (T := TX5) (N := 17) hx hb hts (by decide +kernel) tyX5 tyX5_ok nmX5 hown hK hP hD hS 0 rfl rfl 8 (by decide) (hts (.fieldLink RX5 30 "ProofBench$Proof" "made" "LProofBench$Row;") (by decide +kernel)) (fun _ h9 => h9) rfl hin rfl (by decide +kernel) rfl rfl (Nat.le_of_ble_eq_true rfl) dX5_init_42 (fun H locs hP hD hS => ?_)
  have hP : va_P (dC, dI) vwCl [(h0, .inr (5, [.null, .null, .null, .null, .ref q_1, .ref q_3, .ref q_5, .null, .ref q_7, .null, .int 0, .int 0, .null, .int 0, .int 0, .long 0, .int 0])), (q_1, .inl (cA_2, 300, .inr (.inr (.inr (.inr (fun _ => none)))))), (q_3, .inl (cA_4, 40, .inr (.inr (.inr (.inr (fun _ => none)))))), (q_5, .inl (cA_6, 4, .inr (.inr (.inr (.inr (fun _ => none)))))), (q_7, .inr (6, [.ref q_8, .int 0])), (q_8, .inl (cA_9, 1210, .inl (fun _ => 0)))] H := hP
  have hD : va_D A [(h0, .inr (5, [.null, .null, .null, .null, .ref q_1, .ref q_3, .ref q_5, .null, .ref q_7, .null, .int 0, .int 0, .null, .int 0, .int 0, .long 0, .int 0])), (q_1, .inl (cA_2, 300, .inr (.inr (.inr (.inr (fun _ => none)))))), (q_3, .inl (cA_4, 40, .inr (.inr (.inr (.inr (fun _ => none)))))), (q_5, .inl (cA_6, 4, .inr (.inr (.inr (.inr (fun _ => none)))))), (q_7, .inr (6, [.ref q_8, .int 0])), (q_8, .inl (cA_9, 1210, .inl (fun _ => 0)))] := hD
  refine lv_aload_n hx hb dX5_init_45 rfl (lv_at hl 0 rfl) ?_
  refine va_new (ci := 6) (fs := [.null, .int 0]) (C := RX6) (T := TX6) (N := 2) hx hb hts (by decide +kernel) tyX6 tyX6_ok hown (hts (.classLink RX5 25 RX6) (by decide +kernel)) (hts (.instantiable RX6 2) (by decide +kernel)) (hts (.initialized RX6) (by decide +kernel)) hK hP hD hS hA rfl (fun j hj => by rcases (show j = 0 ∨ j = 1 by omega) with rfl | rfl <;> rfl) (show 5 + 1 ≤ 22 by omega) (show 1556 + 2 ≤ 4413 by omega) dX5_init_46 (fun q_10 H hP hD hS => ?_)
  have hP : va_P (dC, dI) vwCl [(h0, .inr (5, [.null, .null, .null, .null, .ref q_1, .ref q_3, .ref q_5, .null, .ref q_7, .null, .int 0, .int 0, .null, .int 0, .int 0, .long 0, .int 0])), (q_1, .inl (cA_2, 300, .inr (.inr (.inr (.inr (fun _ => none)))))), (q_3, .inl (cA_4, 40, .inr (.inr (.inr (.inr (fun _ => none)))))), (q_5, .inl (cA_6, 4, .inr (.inr (.inr (.inr (fun _ => none)))))), (q_7, .inr (6, [.ref q_8, .int 0])), (q_8, .inl (cA_9, 1210, .inl (fun _ => 0))), (q_10, .inr (6, [.null, .int 0]))] H := hP
  have hD : va_D A [(h0, .inr (5, [.null, .null, .null, .null, .ref q_1, .ref q_3, .ref q_5, .null, .ref q_7, .null, .int 0, .int 0, .null, .int 0, .int 0, .long 0, .int 0])), (q_1, .inl (cA_2, 300, .inr (.inr (.inr (.inr (fun _ => none)))))), (q_3, .inl (cA_4, 40, .inr (.inr (.inr (.inr (fun _ => none)))))), (q_5, .inl (cA_6, 4, .inr (.inr (.inr (.inr (fun _ => none)))))), (q_7, .inr (6, [.ref q_8, .int 0])), (q_8, .inl (cA_9, 1210, .inl (fun _ => 0))), (q_10, .inr (6, [.null, .int 0]))] := hD
  refine W.widen (k := 6) (n := 1558) (by omega) (by omega) ?_
  refine lv_dup hx hb dX5_init_49 rfl ?_
  refine lv_sipush (v := 1210) hx hb dX5_init_50 (by decide) ?_
  have hPc := hP.sub (ws' := [(q_10, .inr (6, [.null, .int 0]))]) [6] rfl
  have hDc := hD.sub (ws' := [(q_10, .inr (6, [.null, .int 0]))]) [6] (by decide) rfl
  have hKc := hK.sub (tys' := []) [] rfl
  have hFc := va_free (wc := [(q_10, .inr (6, [.null, .int 0]))]) hD hS hA [6] rfl
  refine va_callv (va_runI (As := [.int 1210]) (rest := [.ref q_10, .ref h0]) ⟨hx, hb, hml, hown, hts⟩ (c_Row_init l dC dI H.size q_10 1210 1210 (by decide) (by decide) (by decide)) (cwI 1 hts gX5_init_X6_init rfl rfl rfl (hts (.initialized RX6) (by decide +kernel)) (hts (.methodLink RX5 27 yX6_init) (by decide +kernel)) (hts (.instanceMethod yX6_init) (by decide +kernel)) rfl (by decide +kernel) ⟨Nat.le_of_ble_eq_true rfl, Nat.le_of_ble_eq_true rfl⟩) ⟨fun a U g mk q => by obtain ⟨q0, q1, qP, qK, qD⟩ := q; exact ⟨q0, q1, qP, va_K.moved (u := U) (U := U.calling g mk a) (Vm.Alike.refl U.vm) qK, qD⟩, fun U hU hW => ⟨rfl, by rw [hU], by rw [hU]; exact hPc, va_K.moved hW.alike hKc, hDc.weaken (fun _ _ _ _ => trivial)⟩⟩ rfl rfl hl.1 rfl (lv_room (Nat.le_of_ble_eq_true rfl)) dX5_init_53 ⟨(show 6 + 1 ≤ 22 by omega), (show 1558 + 1210 ≤ 4413 by omega)⟩) hS (fun q _ h => hFc q h) hFc (fun u t H1 locs ht hvm hw hB hz1 hk1 hS => ?_)
  obtain ⟨q_11, cA_12, hP1, hK1, hD1⟩ := hB
  rw [ht] at hP1
  have hK1 := va_K.moved hvm.symm hK1
  obtain ⟨hP, hD⟩ := va_join (wr := [(h0, .inr (5, [.null, .null, .null, .null, .ref q_1, .ref q_3, .ref q_5, .null, .ref q_7, .null, .int 0, .int 0, .null, .int 0, .int 0, .long 0, .int 0])), (q_1, .inl (cA_2, 300, .inr (.inr (.inr (.inr (fun _ => none)))))), (q_3, .inl (cA_4, 40, .inr (.inr (.inr (.inr (fun _ => none)))))), (q_5, .inl (cA_6, 4, .inr (.inr (.inr (.inr (fun _ => none)))))), (q_7, .inr (6, [.ref q_8, .int 0])), (q_8, .inl (cA_9, 1210, .inl (fun _ => 0)))]) (w1 := [(q_10, .inr (6, [.ref q_11, .int 0])), (q_11, .inl (cA_12, 1210, .inl (fun _ => 0)))]) hP hD [6] [0, 1, 2, 3, 4, 5] rfl rfl (by decide) (by decide) hk1 hFc hP1 hD1
  have hK := (hK.sub (tys' := [(cA_2, .object RX8), (cA_4, .object RX8), (cA_6, .object RX8), (cA_9, .int)]) [0, 1, 2, 3] rfl).app hK1
  generalize H1 = H at hP hS ⊢
  have hP : va_P (dC, dI) vwCl [(h0, .inr (5, [.null, .null, .null, .null, .ref q_1, .ref q_3, .ref q_5, .null, .ref q_7, .null, .int 0, .int 0, .null, .int 0, .int 0, .long 0, .int 0])), (q_1, .inl (cA_2, 300, .inr (.inr (.inr (.inr (fun _ => none)))))), (q_3, .inl (cA_4, 40, .inr (.inr (.inr (.inr (fun _ => none)))))), (q_5, .inl (cA_6, 4, .inr (.inr (.inr (.inr (fun _ => none)))))), (q_7, .inr (6, [.ref q_8, .int 0])), (q_8, .inl (cA_9, 1210, .inl (fun _ => 0))), (q_10, .inr (6, [.ref q_11, .int 0])), (q_11, .inl (cA_12, 1210, .inl (fun _ => 0)))] H := hP
  have hD : va_D A [(h0, .inr (5, [.null, .null, .null, .null, .ref q_1, .ref q_3, .ref q_5, .null, .ref q_7, .null, .int 0, .int 0, .null, .int 0, .int 0, .long 0, .int 0])), (q_1, .inl (cA_2, 300, .inr (.inr (.inr (.inr (fun _ => none)))))), (q_3, .inl (cA_4, 40, .inr (.inr (.inr (.inr (fun _ => none)))))), (q_5, .inl (cA_6, 4, .inr (.inr (.inr (.inr (fun _ => none)))))), (q_7, .inr (6, [.ref q_8, .int 0])), (q_8, .inl (cA_9, 1210, .inl (fun _ => 0))), (q_10, .inr (6, [.ref q_11, .int 0])), (q_11, .inl (cA_12, 1210, .inl (fun _ => 0)))] := hD
  have hK : va_K (dC, dI) vwCl [(cA_2, .object RX8), (cA_4, .object RX8), (cA_6, .object RX8), (cA_9, .int), (cA_12, .int)] s := hK
  refine W.widen (k := 7) (n := 2768) (by omega) (by omega) ?_
  refine va_putF (D := (dC, dI)) (ci := 5) (v := .ref q_10) (ty := .object "ProofBench$Row") (C := RX5) (T := TX5) (N := 17) hx hb hts (by decide +kernel) tyX5 tyX5_ok nmX5 hown hK hP hD hS 0 rfl rfl 9 (by decide) (hts (.fieldLink RX5 34 "ProofBench$Proof" "other" "LProofBench$Row;") (by decide +kernel)) (fun _ h9 => h9) rfl hin rfl (by decide +kernel) rfl rfl (Nat.le_of_ble_eq_true rfl) dX5_init_56 (fun H locs hP hD hS => ?_)
  have hP : va_P (dC, dI) vwCl [(h0, .inr (5, [.null, .null, .null, .null, .ref q_1, .ref q_3, .ref q_5, .null, .ref q_7, .ref q_10, .int 0, .int 0, .null, .int 0, .int 0, .long 0, .int 0])), (q_1, .inl (cA_2, 300, .inr (.inr (.inr (.inr (fun _ => none)))))), (q_3, .inl (cA_4, 40, .inr (.inr (.inr (.inr (fun _ => none)))))), (q_5, .inl (cA_6, 4, .inr (.inr (.inr (.inr (fun _ => none)))))), (q_7, .inr (6, [.ref q_8, .int 0])), (q_8, .inl (cA_9, 1210, .inl (fun _ => 0))), (q_10, .inr (6, [.ref q_11, .int 0])), (q_11, .inl (cA_12, 1210, .inl (fun _ => 0)))] H := hP
  have hD : va_D A [(h0, .inr (5, [.null, .null, .null, .null, .ref q_1, .ref q_3, .ref q_5, .null, .ref q_7, .ref q_10, .int 0, .int 0, .null, .int 0, .int 0, .long 0, .int 0])), (q_1, .inl (cA_2, 300, .inr (.inr (.inr (.inr (fun _ => none)))))), (q_3, .inl (cA_4, 40, .inr (.inr (.inr (.inr (fun _ => none)))))), (q_5, .inl (cA_6, 4, .inr (.inr (.inr (.inr (fun _ => none)))))), (q_7, .inr (6, [.ref q_8, .int 0])), (q_8, .inl (cA_9, 1210, .inl (fun _ => 0))), (q_10, .inr (6, [.ref q_11, .int 0])), (q_11, .inl (cA_12, 1210, .inl (fun _ => 0)))] := hD
  refine lv_aload_n hx hb dX5_init_59 rfl (lv_at hl 0 rfl) ?_
  refine lv_bipush (v := 20) hx hb dX5_init_60 (by decide) ?_
  refine va_newq (C := RX10) (n := 20) (N' := 20) hx hb hown (hts (.classLink RX5 37 RX10) (by decide +kernel)) hao10 hK hP hD hS hA (by decide) (by decide) (by decide) (show 7 + 1 ≤ 22 by omega) (show 2768 + 20 ≤ 4413 by omega) dX5_init_62 (fun q_13 cA_14 H hK hP hD hS => ?_)
  have hP : va_P (dC, dI) vwCl [(h0, .inr (5, [.null, .null, .null, .null, .ref q_1, .ref q_3, .ref q_5, .null, .ref q_7, .ref q_10, .int 0, .int 0, .null, .int 0, .int 0, .long 0, .int 0])), (q_1, .inl (cA_2, 300, .inr (.inr (.inr (.inr (fun _ => none)))))), (q_3, .inl (cA_4, 40, .inr (.inr (.inr (.inr (fun _ => none)))))), (q_5, .inl (cA_6, 4, .inr (.inr (.inr (.inr (fun _ => none)))))), (q_7, .inr (6, [.ref q_8, .int 0])), (q_8, .inl (cA_9, 1210, .inl (fun _ => 0))), (q_10, .inr (6, [.ref q_11, .int 0])), (q_11, .inl (cA_12, 1210, .inl (fun _ => 0))), (q_13, .inl (cA_14, 20, .inr (.inr (.inr (.inr (fun _ => none))))))] H := hP
  have hD : va_D A [(h0, .inr (5, [.null, .null, .null, .null, .ref q_1, .ref q_3, .ref q_5, .null, .ref q_7, .ref q_10, .int 0, .int 0, .null, .int 0, .int 0, .long 0, .int 0])), (q_1, .inl (cA_2, 300, .inr (.inr (.inr (.inr (fun _ => none)))))), (q_3, .inl (cA_4, 40, .inr (.inr (.inr (.inr (fun _ => none)))))), (q_5, .inl (cA_6, 4, .inr (.inr (.inr (.inr (fun _ => none)))))), (q_7, .inr (6, [.ref q_8, .int 0])), (q_8, .inl (cA_9, 1210, .inl (fun _ => 0))), (q_10, .inr (6, [.ref q_11, .int 0])), (q_11, .inl (cA_12, 1210, .inl (fun _ => 0))), (q_13, .inl (cA_14, 20, .inr (.inr (.inr (.inr (fun _ => none))))))] := hD
  have hK : va_K (dC, dI) vwCl [(cA_2, .object RX8), (cA_4, .object RX8), (cA_6, .object RX8), (cA_9, .int), (cA_12, .int), (cA_14, .object RX10)] s := hK
  refine W.widen (k := 8) (n := 2788) (by omega) (by omega) ?_
  refine va_putF (D := (dC, dI)) (ci := 5) (v := .ref q_13) (ty := .array (.object "ProofBench$Thing")) (C := RX5) (T := TX5) (N := 17) hx hb hts (by decide +kernel) tyX5 tyX5_ok nmX5 hown hK hP hD hS 0 rfl rfl 12 (by decide) (hts (.fieldLink RX5 39 "ProofBench$Proof" "kept" "[LProofBench$Thing;") (by decide +kernel)) (fun _ h9 => h9) rfl hin rfl (by decide +kernel) rfl rfl (Nat.le_of_ble_eq_true rfl) dX5_init_65 (fun H locs hP hD hS => ?_)
  have hP : va_P (dC, dI) vwCl [(h0, .inr (5, [.null, .null, .null, .null, .ref q_1, .ref q_3, .ref q_5, .null, .ref q_7, .ref q_10, .int 0, .int 0, .ref q_13, .int 0, .int 0, .long 0, .int 0])), (q_1, .inl (cA_2, 300, .inr (.inr (.inr (.inr (fun _ => none)))))), (q_3, .inl (cA_4, 40, .inr (.inr (.inr (.inr (fun _ => none)))))), (q_5, .inl (cA_6, 4, .inr (.inr (.inr (.inr (fun _ => none)))))), (q_7, .inr (6, [.ref q_8, .int 0])), (q_8, .inl (cA_9, 1210, .inl (fun _ => 0))), (q_10, .inr (6, [.ref q_11, .int 0])), (q_11, .inl (cA_12, 1210, .inl (fun _ => 0))), (q_13, .inl (cA_14, 20, .inr (.inr (.inr (.inr (fun _ => none))))))] H := hP
  have hD : va_D A [(h0, .inr (5, [.null, .null, .null, .null, .ref q_1, .ref q_3, .ref q_5, .null, .ref q_7, .ref q_10, .int 0, .int 0, .ref q_13, .int 0, .int 0, .long 0, .int 0])), (q_1, .inl (cA_2, 300, .inr (.inr (.inr (.inr (fun _ => none)))))), (q_3, .inl (cA_4, 40, .inr (.inr (.inr (.inr (fun _ => none)))))), (q_5, .inl (cA_6, 4, .inr (.inr (.inr (.inr (fun _ => none)))))), (q_7, .inr (6, [.ref q_8, .int 0])), (q_8, .inl (cA_9, 1210, .inl (fun _ => 0))), (q_10, .inr (6, [.ref q_11, .int 0])), (q_11, .inl (cA_12, 1210, .inl (fun _ => 0))), (q_13, .inl (cA_14, 20, .inr (.inr (.inr (.inr (fun _ => none))))))] := hD
  refine lv_aload_n hx hb dX5_init_68 rfl (lv_at hl 0 rfl) ?_
  refine lv_aload_n hx hb dX5_init_69 rfl (lv_at hl 1 rfl) ?_
  refine va_putF (D := (dC, dI)) (ci := 5) (v := .ref a_n) (ty := .object "ProofBench$Names") (C := RX5) (T := TX5) (N := 17) hx hb hts (by decide +kernel) tyX5 tyX5_ok nmX5 hown hK hP hD hS 0 rfl rfl 0 (by decide) (hts (.fieldLink RX5 43 "ProofBench$Proof" "names" "LProofBench$Names;") (by decide +kernel)) (fun _ h9 => h9) rfl hin rfl (by decide +kernel) rfl rfl (Nat.le_of_ble_eq_true rfl) dX5_init_70 (fun H locs hP hD hS => ?_)
  have hP : va_P (dC, dI) vwCl [(h0, .inr (5, [.ref a_n, .null, .null, .null, .ref q_1, .ref q_3, .ref q_5, .null, .ref q_7, .ref q_10, .int 0, .int 0, .ref q_13, .int 0, .int 0, .long 0, .int 0])), (q_1, .inl (cA_2, 300, .inr (.inr (.inr (.inr (fun _ => none)))))), (q_3, .inl (cA_4, 40, .inr (.inr (.inr (.inr (fun _ => none)))))), (q_5, .inl (cA_6, 4, .inr (.inr (.inr (.inr (fun _ => none)))))), (q_7, .inr (6, [.ref q_8, .int 0])), (q_8, .inl (cA_9, 1210, .inl (fun _ => 0))), (q_10, .inr (6, [.ref q_11, .int 0])), (q_11, .inl (cA_12, 1210, .inl (fun _ => 0))), (q_13, .inl (cA_14, 20, .inr (.inr (.inr (.inr (fun _ => none))))))] H := hP
  have hD : va_D A [(h0, .inr (5, [.ref a_n, .null, .null, .null, .ref q_1, .ref q_3, .ref q_5, .null, .ref q_7, .ref q_10, .int 0, .int 0, .ref q_13, .int 0, .int 0, .long 0, .int 0])), (q_1, .inl (cA_2, 300, .inr (.inr (.inr (.inr (fun _ => none)))))), (q_3, .inl (cA_4, 40, .inr (.inr (.inr (.inr (fun _ => none)))))), (q_5, .inl (cA_6, 4, .inr (.inr (.inr (.inr (fun _ => none)))))), (q_7, .inr (6, [.ref q_8, .int 0])), (q_8, .inl (cA_9, 1210, .inl (fun _ => 0))), (q_10, .inr (6, [.ref q_11, .int 0])), (q_11, .inl (cA_12, 1210, .inl (fun _ => 0))), (q_13, .inl (cA_14, 20, .inr (.inr (.inr (.inr (fun _ => none))))))] := hD
  refine lv_aload_n hx hb dX5_init_73 rfl (lv_at hl 0 rfl) ?_
  refine lv_aload_n hx hb dX5_init_74 rfl (lv_at hl 2 rfl) ?_
  refine va_putF (D := (dC, dI)) (ci := 5) (v := .ref a_f) (ty := .object "ProofBench$Forms") (C := RX5) (T := TX5) (N := 17) hx hb hts (by decide +kernel) tyX5 tyX5_ok nmX5 hown hK hP hD hS 0 rfl rfl 1 (by decide) (hts (.fieldLink RX5 47 "ProofBench$Proof" "forms" "LProofBench$Forms;") (by decide +kernel)) (fun _ h9 => h9) rfl hin rfl (by decide +kernel) rfl rfl (Nat.le_of_ble_eq_true rfl) dX5_init_75 (fun H locs hP hD hS => ?_)
  have hP : va_P (dC, dI) vwCl [(h0, .inr (5, [.ref a_n, .ref a_f, .null, .null, .ref q_1, .ref q_3, .ref q_5, .null, .ref q_7, .ref q_10, .int 0, .int 0, .ref q_13, .int 0, .int 0, .long 0, .int 0])), (q_1, .inl (cA_2, 300, .inr (.inr (.inr (.inr (fun _ => none)))))), (q_3, .inl (cA_4, 40, .inr (.inr (.inr (.inr (fun _ => none)))))), (q_5, .inl (cA_6, 4, .inr (.inr (.inr (.inr (fun _ => none)))))), (q_7, .inr (6, [.ref q_8, .int 0])), (q_8, .inl (cA_9, 1210, .inl (fun _ => 0))), (q_10, .inr (6, [.ref q_11, .int 0])), (q_11, .inl (cA_12, 1210, .inl (fun _ => 0))), (q_13, .inl (cA_14, 20, .inr (.inr (.inr (.inr (fun _ => none))))))] H := hP
  have hD : va_D A [(h0, .inr (5, [.ref a_n, .ref a_f, .null, .null, .ref q_1, .ref q_3, .ref q_5, .null, .ref q_7, .ref q_10, .int 0, .int 0, .ref q_13, .int 0, .int 0, .long 0, .int 0])), (q_1, .inl (cA_2, 300, .inr (.inr (.inr (.inr (fun _ => none)))))), (q_3, .inl (cA_4, 40, .inr (.inr (.inr (.inr (fun _ => none)))))), (q_5, .inl (cA_6, 4, .inr (.inr (.inr (.inr (fun _ => none)))))), (q_7, .inr (6, [.ref q_8, .int 0])), (q_8, .inl (cA_9, 1210, .inl (fun _ => 0))), (q_10, .inr (6, [.ref q_11, .int 0])), (q_11, .inl (cA_12, 1210, .inl (fun _ => 0))), (q_13, .inl (cA_14, 20, .inr (.inr (.inr (.inr (fun _ => none))))))] := hD
  refine lv_aload_n hx hb dX5_init_78 rfl (lv_at hl 0 rfl) ?_
  refine lv_aload_n hx hb dX5_init_79 rfl (lv_at hl 3 rfl) ?_
  refine va_putF (D := (dC, dI)) (ci := 5) (v := .ref a_l) (ty := .object "ProofBench$Look") (C := RX5) (T := TX5) (N := 17) hx hb hts (by decide +kernel) tyX5 tyX5_ok nmX5 hown hK hP hD hS 0 rfl rfl 2 (by decide) (hts (.fieldLink RX5 51 "ProofBench$Proof" "look" "LProofBench$Look;") (by decide +kernel)) (fun _ h9 => h9) rfl hin rfl (by decide +kernel) rfl rfl (Nat.le_of_ble_eq_true rfl) dX5_init_80 (fun H locs hP hD hS => ?_)
  have hP : va_P (dC, dI) vwCl [(h0, .inr (5, [.ref a_n, .ref a_f, .ref a_l, .null, .ref q_1, .ref q_3, .ref q_5, .null, .ref q_7, .ref q_10, .int 0, .int 0, .ref q_13, .int 0, .int 0, .long 0, .int 0])), (q_1, .inl (cA_2, 300, .inr (.inr (.inr (.inr (fun _ => none)))))), (q_3, .inl (cA_4, 40, .inr (.inr (.inr (.inr (fun _ => none)))))), (q_5, .inl (cA_6, 4, .inr (.inr (.inr (.inr (fun _ => none)))))), (q_7, .inr (6, [.ref q_8, .int 0])), (q_8, .inl (cA_9, 1210, .inl (fun _ => 0))), (q_10, .inr (6, [.ref q_11, .int 0])), (q_11, .inl (cA_12, 1210, .inl (fun _ => 0))), (q_13, .inl (cA_14, 20, .inr (.inr (.inr (.inr (fun _ => none))))))] H := hP
  have hD : va_D A [(h0, .inr (5, [.ref a_n, .ref a_f, .ref a_l, .null, .ref q_1, .ref q_3, .ref q_5, .null, .ref q_7, .ref q_10, .int 0, .int 0, .ref q_13, .int 0, .int 0, .long 0, .int 0])), (q_1, .inl (cA_2, 300, .inr (.inr (.inr (.inr (fun _ => none)))))), (q_3, .inl (cA_4, 40, .inr (.inr (.inr (.inr (fun _ => none)))))), (q_5, .inl (cA_6, 4, .inr (.inr (.inr (.inr (fun _ => none)))))), (q_7, .inr (6, [.ref q_8, .int 0])), (q_8, .inl (cA_9, 1210, .inl (fun _ => 0))), (q_10, .inr (6, [.ref q_11, .int 0])), (q_11, .inl (cA_12, 1210, .inl (fun _ => 0))), (q_13, .inl (cA_14, 20, .inr (.inr (.inr (.inr (fun _ => none))))))] := hD
  refine lv_aload_n hx hb dX5_init_83 rfl (lv_at hl 0 rfl) ?_
  refine va_new (ci := 7) (fs := [.null, .null, .int 0, .int 0, .int 0, .int 0]) (C := RX7) (T := TX7) (N := 6) hx hb hts (by decide +kernel) tyX7 tyX7_ok hown (hts (.classLink RX5 55 RX7) (by decide +kernel)) (hts (.instantiable RX7 6) (by decide +kernel)) (hts (.initialized RX7) (by decide +kernel)) hK hP hD hS hA rfl (fun j hj => by rcases (show j = 0 ∨ j = 1 ∨ j = 2 ∨ j = 3 ∨ j = 4 ∨ j = 5 by omega) with rfl | rfl | rfl | rfl | rfl | rfl <;> rfl) (show 8 + 1 ≤ 22 by omega) (show 2788 + 6 ≤ 4413 by omega) dX5_init_84 (fun q_15 H hP hD hS => ?_)
  have hP : va_P (dC, dI) vwCl [(h0, .inr (5, [.ref a_n, .ref a_f, .ref a_l, .null, .ref q_1, .ref q_3, .ref q_5, .null, .ref q_7, .ref q_10, .int 0, .int 0, .ref q_13, .int 0, .int 0, .long 0, .int 0])), (q_1, .inl (cA_2, 300, .inr (.inr (.inr (.inr (fun _ => none)))))), (q_3, .inl (cA_4, 40, .inr (.inr (.inr (.inr (fun _ => none)))))), (q_5, .inl (cA_6, 4, .inr (.inr (.inr (.inr (fun _ => none)))))), (q_7, .inr (6, [.ref q_8, .int 0])), (q_8, .inl (cA_9, 1210, .inl (fun _ => 0))), (q_10, .inr (6, [.ref q_11, .int 0])), (q_11, .inl (cA_12, 1210, .inl (fun _ => 0))), (q_13, .inl (cA_14, 20, .inr (.inr (.inr (.inr (fun _ => none)))))), (q_15, .inr (7, [.null, .null, .int 0, .int 0, .int 0, .int 0]))] H := hP
  have hD : va_D A [(h0, .inr (5, [.ref a_n, .ref a_f, .ref a_l, .null, .ref q_1, .ref q_3, .ref q_5, .null, .ref q_7, .ref q_10, .int 0, .int 0, .ref q_13, .int 0, .int 0, .long 0, .int 0])), (q_1, .inl (cA_2, 300, .inr (.inr (.inr (.inr (fun _ => none)))))), (q_3, .inl (cA_4, 40, .inr (.inr (.inr (.inr (fun _ => none)))))), (q_5, .inl (cA_6, 4, .inr (.inr (.inr (.inr (fun _ => none)))))), (q_7, .inr (6, [.ref q_8, .int 0])), (q_8, .inl (cA_9, 1210, .inl (fun _ => 0))), (q_10, .inr (6, [.ref q_11, .int 0])), (q_11, .inl (cA_12, 1210, .inl (fun _ => 0))), (q_13, .inl (cA_14, 20, .inr (.inr (.inr (.inr (fun _ => none)))))), (q_15, .inr (7, [.null, .null, .int 0, .int 0, .int 0, .int 0]))] := hD
  refine W.widen (k := 9) (n := 2794) (by omega) (by omega) ?_
  refine lv_dup hx hb dX5_init_87 rfl ?_
  refine lv_aload_n hx hb dX5_init_88 rfl (lv_at hl 2 rfl) ?_
  have hPc := hP.sub (ws' := [(q_15, .inr (7, [.null, .null, .int 0, .int 0, .int 0, .int 0]))]) [9] rfl
  have hDc := hD.sub (ws' := [(q_15, .inr (7, [.null, .null, .int 0, .int 0, .int 0, .int 0]))]) [9] (by decide) rfl
  have hKc := hK.sub (tys' := []) [] rfl
  have hFc := va_free (wc := [(q_15, .inr (7, [.null, .null, .int 0, .int 0, .int 0, .int 0]))]) hD hS hA [9] rfl
  refine va_callv (va_runI (As := [.ref a_f]) (rest := [.ref q_15, .ref h0]) ⟨hx, hb, hml, hown, hts⟩ (c_Search_init l dC dI H.size q_15 a_f) (cwI 1 hts gX5_init_X7_init rfl rfl rfl (hts (.initialized RX7) (by decide +kernel)) (hts (.methodLink RX5 57 yX7_init) (by decide +kernel)) (hts (.instanceMethod yX7_init) (by decide +kernel)) rfl (by decide +kernel) ⟨Nat.le_of_ble_eq_true rfl, Nat.le_of_ble_eq_true rfl⟩) ⟨fun a U g mk q => by obtain ⟨q0, q1, qP, qK, qD, qE0⟩ := q; exact ⟨q0, q1, qP, va_K.moved (u := U) (U := U.calling g mk a) (Vm.Alike.refl U.vm) qK, qD, va_AO.moved (u := U) (U := U.calling g mk a) (Vm.Alike.refl U.vm) qE0⟩, fun U hU hW => ⟨rfl, by rw [hU], by rw [hU]; exact hPc, va_K.moved hW.alike hKc, hDc.weaken (fun _ _ _ _ => trivial), va_AO.moved hW.alike hao6⟩⟩ rfl rfl hl.1 rfl (lv_room (Nat.le_of_ble_eq_true rfl)) dX5_init_89 ⟨(show 9 + 9 ≤ 22 by omega), (show 2794 + 1612 ≤ 4413 by omega)⟩) hS (fun q _ h => hFc q h) hFc (fun u t H1 locs ht hvm hw hB hz1 hk1 hS => ?_)
  obtain ⟨hP1, hK1, hD1⟩ := hB
  rw [ht] at hP1
  have hK1 := va_K.moved hvm.symm hK1
  obtain ⟨hP, hD⟩ := va_join (wr := [(h0, .inr (5, [.ref a_n, .ref a_f, .ref a_l, .null, .ref q_1, .ref q_3, .ref q_5, .null, .ref q_7, .ref q_10, .int 0, .int 0, .ref q_13, .int 0, .int 0, .long 0, .int 0])), (q_1, .inl (cA_2, 300, .inr (.inr (.inr (.inr (fun _ => none)))))), (q_3, .inl (cA_4, 40, .inr (.inr (.inr (.inr (fun _ => none)))))), (q_5, .inl (cA_6, 4, .inr (.inr (.inr (.inr (fun _ => none)))))), (q_7, .inr (6, [.ref q_8, .int 0])), (q_8, .inl (cA_9, 1210, .inl (fun _ => 0))), (q_10, .inr (6, [.ref q_11, .int 0])), (q_11, .inl (cA_12, 1210, .inl (fun _ => 0))), (q_13, .inl (cA_14, 20, .inr (.inr (.inr (.inr (fun _ => none))))))]) (w1 := []) hP hD [9] [0, 1, 2, 3, 4, 5, 6, 7, 8] rfl rfl (by decide) (by decide) hk1 hFc hP1 hD1
  have hK := (hK.sub (tys' := [(cA_2, .object RX8), (cA_4, .object RX8), (cA_6, .object RX8), (cA_9, .int), (cA_12, .int), (cA_14, .object RX10)]) [0, 1, 2, 3, 4, 5] rfl).app hK1
  generalize H1 = H at hP hS ⊢
  have hP : va_P (dC, dI) vwCl [(h0, .inr (5, [.ref a_n, .ref a_f, .ref a_l, .null, .ref q_1, .ref q_3, .ref q_5, .null, .ref q_7, .ref q_10, .int 0, .int 0, .ref q_13, .int 0, .int 0, .long 0, .int 0])), (q_1, .inl (cA_2, 300, .inr (.inr (.inr (.inr (fun _ => none)))))), (q_3, .inl (cA_4, 40, .inr (.inr (.inr (.inr (fun _ => none)))))), (q_5, .inl (cA_6, 4, .inr (.inr (.inr (.inr (fun _ => none)))))), (q_7, .inr (6, [.ref q_8, .int 0])), (q_8, .inl (cA_9, 1210, .inl (fun _ => 0))), (q_10, .inr (6, [.ref q_11, .int 0])), (q_11, .inl (cA_12, 1210, .inl (fun _ => 0))), (q_13, .inl (cA_14, 20, .inr (.inr (.inr (.inr (fun _ => none))))))] H := hP
  have hD : va_D A [(h0, .inr (5, [.ref a_n, .ref a_f, .ref a_l, .null, .ref q_1, .ref q_3, .ref q_5, .null, .ref q_7, .ref q_10, .int 0, .int 0, .ref q_13, .int 0, .int 0, .long 0, .int 0])), (q_1, .inl (cA_2, 300, .inr (.inr (.inr (.inr (fun _ => none)))))), (q_3, .inl (cA_4, 40, .inr (.inr (.inr (.inr (fun _ => none)))))), (q_5, .inl (cA_6, 4, .inr (.inr (.inr (.inr (fun _ => none)))))), (q_7, .inr (6, [.ref q_8, .int 0])), (q_8, .inl (cA_9, 1210, .inl (fun _ => 0))), (q_10, .inr (6, [.ref q_11, .int 0])), (q_11, .inl (cA_12, 1210, .inl (fun _ => 0))), (q_13, .inl (cA_14, 20, .inr (.inr (.inr (.inr (fun _ => none))))))] := hD
  have hK : va_K (dC, dI) vwCl [(cA_2, .object RX8), (cA_4, .object RX8), (cA_6, .object RX8), (cA_9, .int), (cA_12, .int), (cA_14, .object RX10)] s := hK
  refine W.widen (k := 18) (n := 4406) (by omega) (by omega) ?_
  refine va_putF (D := (dC, dI)) (ci := 5) (v := .ref q_15) (ty := .object "ProofBench$Search") (C := RX5) (T := TX5) (N := 17) hx hb hts (by decide +kernel) tyX5 tyX5_ok nmX5 hown hK hP hD hS 0 rfl rfl 3 (by decide) (hts (.fieldLink RX5 60 "ProofBench$Proof" "search" "LProofBench$Search;") (by decide +kernel)) (fun _ h9 => h9) rfl hin rfl (by decide +kernel) rfl rfl (Nat.le_of_ble_eq_true rfl) dX5_init_92 (fun H locs hP hD hS => ?_)
  have hP : va_P (dC, dI) vwCl [(h0, .inr (5, [.ref a_n, .ref a_f, .ref a_l, .ref q_15, .ref q_1, .ref q_3, .ref q_5, .null, .ref q_7, .ref q_10, .int 0, .int 0, .ref q_13, .int 0, .int 0, .long 0, .int 0])), (q_1, .inl (cA_2, 300, .inr (.inr (.inr (.inr (fun _ => none)))))), (q_3, .inl (cA_4, 40, .inr (.inr (.inr (.inr (fun _ => none)))))), (q_5, .inl (cA_6, 4, .inr (.inr (.inr (.inr (fun _ => none)))))), (q_7, .inr (6, [.ref q_8, .int 0])), (q_8, .inl (cA_9, 1210, .inl (fun _ => 0))), (q_10, .inr (6, [.ref q_11, .int 0])), (q_11, .inl (cA_12, 1210, .inl (fun _ => 0))), (q_13, .inl (cA_14, 20, .inr (.inr (.inr (.inr (fun _ => none))))))] H := hP
  have hD : va_D A [(h0, .inr (5, [.ref a_n, .ref a_f, .ref a_l, .ref q_15, .ref q_1, .ref q_3, .ref q_5, .null, .ref q_7, .ref q_10, .int 0, .int 0, .ref q_13, .int 0, .int 0, .long 0, .int 0])), (q_1, .inl (cA_2, 300, .inr (.inr (.inr (.inr (fun _ => none)))))), (q_3, .inl (cA_4, 40, .inr (.inr (.inr (.inr (fun _ => none)))))), (q_5, .inl (cA_6, 4, .inr (.inr (.inr (.inr (fun _ => none)))))), (q_7, .inr (6, [.ref q_8, .int 0])), (q_8, .inl (cA_9, 1210, .inl (fun _ => 0))), (q_10, .inr (6, [.ref q_11, .int 0])), (q_11, .inl (cA_12, 1210, .inl (fun _ => 0))), (q_13, .inl (cA_14, 20, .inr (.inr (.inr (.inr (fun _ => none))))))] := hD
  refine lv_aload_n hx hb dX5_init_95 rfl (lv_at hl 0 rfl) ?_
  refine va_new (ci := 8) (fs := [.null, .null, .long 0, .int 0]) (C := RX8) (T := TX8) (N := 4) hx hb hts (by decide +kernel) tyX8 tyX8_ok hown (hts (.classLink RX5 9 RX8) (by decide +kernel)) (hts (.instantiable RX8 4) (by decide +kernel)) (hts (.initialized RX8) (by decide +kernel)) hK hP hD hS hA rfl (fun j hj => by rcases (show j = 0 ∨ j = 1 ∨ j = 2 ∨ j = 3 by omega) with rfl | rfl | rfl | rfl <;> rfl) (show 18 + 1 ≤ 22 by omega) (show 4406 + 4 ≤ 4413 by omega) dX5_init_96 (fun q_16 H hP hD hS => ?_)
  have hP : va_P (dC, dI) vwCl [(h0, .inr (5, [.ref a_n, .ref a_f, .ref a_l, .ref q_15, .ref q_1, .ref q_3, .ref q_5, .null, .ref q_7, .ref q_10, .int 0, .int 0, .ref q_13, .int 0, .int 0, .long 0, .int 0])), (q_1, .inl (cA_2, 300, .inr (.inr (.inr (.inr (fun _ => none)))))), (q_3, .inl (cA_4, 40, .inr (.inr (.inr (.inr (fun _ => none)))))), (q_5, .inl (cA_6, 4, .inr (.inr (.inr (.inr (fun _ => none)))))), (q_7, .inr (6, [.ref q_8, .int 0])), (q_8, .inl (cA_9, 1210, .inl (fun _ => 0))), (q_10, .inr (6, [.ref q_11, .int 0])), (q_11, .inl (cA_12, 1210, .inl (fun _ => 0))), (q_13, .inl (cA_14, 20, .inr (.inr (.inr (.inr (fun _ => none)))))), (q_16, .inr (8, [.null, .null, .long 0, .int 0]))] H := hP
  have hD : va_D A [(h0, .inr (5, [.ref a_n, .ref a_f, .ref a_l, .ref q_15, .ref q_1, .ref q_3, .ref q_5, .null, .ref q_7, .ref q_10, .int 0, .int 0, .ref q_13, .int 0, .int 0, .long 0, .int 0])), (q_1, .inl (cA_2, 300, .inr (.inr (.inr (.inr (fun _ => none)))))), (q_3, .inl (cA_4, 40, .inr (.inr (.inr (.inr (fun _ => none)))))), (q_5, .inl (cA_6, 4, .inr (.inr (.inr (.inr (fun _ => none)))))), (q_7, .inr (6, [.ref q_8, .int 0])), (q_8, .inl (cA_9, 1210, .inl (fun _ => 0))), (q_10, .inr (6, [.ref q_11, .int 0])), (q_11, .inl (cA_12, 1210, .inl (fun _ => 0))), (q_13, .inl (cA_14, 20, .inr (.inr (.inr (.inr (fun _ => none)))))), (q_16, .inr (8, [.null, .null, .long 0, .int 0]))] := hD
  refine W.widen (k := 19) (n := 4410) (by omega) (by omega) ?_
  refine lv_dup hx hb dX5_init_99 rfl ?_
  refine va_new (ci := 10) (fs := [.null, .int 0]) (C := RX10) (T := TX10) (N := 2) hx hb hts (by decide +kernel) tyX10 tyX10_ok hown (hts (.classLink RX5 37 RX10) (by decide +kernel)) (hts (.instantiable RX10 2) (by decide +kernel)) (hts (.initialized RX10) (by decide +kernel)) hK hP hD hS hA rfl (fun j hj => by rcases (show j = 0 ∨ j = 1 by omega) with rfl | rfl <;> rfl) (show 19 + 1 ≤ 22 by omega) (show 4410 + 2 ≤ 4413 by omega) dX5_init_100 (fun q_17 H hP hD hS => ?_)
  have hP : va_P (dC, dI) vwCl [(h0, .inr (5, [.ref a_n, .ref a_f, .ref a_l, .ref q_15, .ref q_1, .ref q_3, .ref q_5, .null, .ref q_7, .ref q_10, .int 0, .int 0, .ref q_13, .int 0, .int 0, .long 0, .int 0])), (q_1, .inl (cA_2, 300, .inr (.inr (.inr (.inr (fun _ => none)))))), (q_3, .inl (cA_4, 40, .inr (.inr (.inr (.inr (fun _ => none)))))), (q_5, .inl (cA_6, 4, .inr (.inr (.inr (.inr (fun _ => none)))))), (q_7, .inr (6, [.ref q_8, .int 0])), (q_8, .inl (cA_9, 1210, .inl (fun _ => 0))), (q_10, .inr (6, [.ref q_11, .int 0])), (q_11, .inl (cA_12, 1210, .inl (fun _ => 0))), (q_13, .inl (cA_14, 20, .inr (.inr (.inr (.inr (fun _ => none)))))), (q_16, .inr (8, [.null, .null, .long 0, .int 0])), (q_17, .inr (10, [.null, .int 0]))] H := hP
  have hD : va_D A [(h0, .inr (5, [.ref a_n, .ref a_f, .ref a_l, .ref q_15, .ref q_1, .ref q_3, .ref q_5, .null, .ref q_7, .ref q_10, .int 0, .int 0, .ref q_13, .int 0, .int 0, .long 0, .int 0])), (q_1, .inl (cA_2, 300, .inr (.inr (.inr (.inr (fun _ => none)))))), (q_3, .inl (cA_4, 40, .inr (.inr (.inr (.inr (fun _ => none)))))), (q_5, .inl (cA_6, 4, .inr (.inr (.inr (.inr (fun _ => none)))))), (q_7, .inr (6, [.ref q_8, .int 0])), (q_8, .inl (cA_9, 1210, .inl (fun _ => 0))), (q_10, .inr (6, [.ref q_11, .int 0])), (q_11, .inl (cA_12, 1210, .inl (fun _ => 0))), (q_13, .inl (cA_14, 20, .inr (.inr (.inr (.inr (fun _ => none)))))), (q_16, .inr (8, [.null, .null, .long 0, .int 0])), (q_17, .inr (10, [.null, .int 0]))] := hD
  refine W.widen (k := 20) (n := 4412) (by omega) (by omega) ?_
  refine lv_dup hx hb dX5_init_103 rfl ?_
  refine lv_iconst (v := 1) hx hb dX5_init_104 (by decide) ?_
  refine va_newa (atype := .int) (n := 1) (N' := 1) (ty := .int) (a0 := (1, .inl (fun _ => 0))) hx hb (hts (.arrayClass .int) (by decide +kernel)) rfl hK hP hD hS hA (fun _ => rfl) (by decide) (by decide) (by decide) (show 20 + 1 ≤ 22 by omega) (show 4412 + 1 ≤ 4413 by omega) dX5_init_105 (fun q_18 cA_19 H hK hP hD hS => ?_)
  have hP : va_P (dC, dI) vwCl [(h0, .inr (5, [.ref a_n, .ref a_f, .ref a_l, .ref q_15, .ref q_1, .ref q_3, .ref q_5, .null, .ref q_7, .ref q_10, .int 0, .int 0, .ref q_13, .int 0, .int 0, .long 0, .int 0])), (q_1, .inl (cA_2, 300, .inr (.inr (.inr (.inr (fun _ => none)))))), (q_3, .inl (cA_4, 40, .inr (.inr (.inr (.inr (fun _ => none)))))), (q_5, .inl (cA_6, 4, .inr (.inr (.inr (.inr (fun _ => none)))))), (q_7, .inr (6, [.ref q_8, .int 0])), (q_8, .inl (cA_9, 1210, .inl (fun _ => 0))), (q_10, .inr (6, [.ref q_11, .int 0])), (q_11, .inl (cA_12, 1210, .inl (fun _ => 0))), (q_13, .inl (cA_14, 20, .inr (.inr (.inr (.inr (fun _ => none)))))), (q_16, .inr (8, [.null, .null, .long 0, .int 0])), (q_17, .inr (10, [.null, .int 0])), (q_18, .inl (cA_19, 1, .inl (fun _ => 0)))] H := hP
  have hD : va_D A [(h0, .inr (5, [.ref a_n, .ref a_f, .ref a_l, .ref q_15, .ref q_1, .ref q_3, .ref q_5, .null, .ref q_7, .ref q_10, .int 0, .int 0, .ref q_13, .int 0, .int 0, .long 0, .int 0])), (q_1, .inl (cA_2, 300, .inr (.inr (.inr (.inr (fun _ => none)))))), (q_3, .inl (cA_4, 40, .inr (.inr (.inr (.inr (fun _ => none)))))), (q_5, .inl (cA_6, 4, .inr (.inr (.inr (.inr (fun _ => none)))))), (q_7, .inr (6, [.ref q_8, .int 0])), (q_8, .inl (cA_9, 1210, .inl (fun _ => 0))), (q_10, .inr (6, [.ref q_11, .int 0])), (q_11, .inl (cA_12, 1210, .inl (fun _ => 0))), (q_13, .inl (cA_14, 20, .inr (.inr (.inr (.inr (fun _ => none)))))), (q_16, .inr (8, [.null, .null, .long 0, .int 0])), (q_17, .inr (10, [.null, .int 0])), (q_18, .inl (cA_19, 1, .inl (fun _ => 0)))] := hD
  have hK : va_K (dC, dI) vwCl [(cA_2, .object RX8), (cA_4, .object RX8), (cA_6, .object RX8), (cA_9, .int), (cA_12, .int), (cA_14, .object RX10), (cA_19, .int)] s := hK
  refine W.widen (k := 21) (n := 4413) (by omega) (by omega) ?_
  refine lv_iconst (v := 0) hx hb dX5_init_107 (by decide) ?_
  have hPc := hP.sub (ws' := [(q_17, .inr (10, [.null, .int 0]))]) [10] rfl
  have hDc := hD.sub (ws' := [(q_17, .inr (10, [.null, .int 0]))]) [10] (by decide) rfl
  have hKc := hK.sub (tys' := []) [] rfl
  have hFc := va_free (wc := [(q_17, .inr (10, [.null, .int 0]))]) hD hS hA [10] rfl
  refine va_callv (va_runI (As := [.ref q_18, .int 0]) (rest := [.ref q_17, .ref q_16, .ref q_16, .ref h0]) ⟨hx, hb, hml, hown, hts⟩ (c_Thing_init l dC dI H.size q_17 q_18 0) (cwI 2 hts gX5_init_X10_init rfl rfl rfl (hts (.initialized RX10) (by decide +kernel)) (hts (.methodLink RX5 64 yX10_init) (by decide +kernel)) (hts (.instanceMethod yX10_init) (by decide +kernel)) rfl (by decide +kernel) ⟨Nat.le_of_ble_eq_true rfl, Nat.le_of_ble_eq_true rfl⟩) ⟨fun a U g mk q => by obtain ⟨q0, q1, qP, qK, qD⟩ := q; exact ⟨q0, q1, qP, va_K.moved (u := U) (U := U.calling g mk a) (Vm.Alike.refl U.vm) qK, qD⟩, fun U hU hW => ⟨rfl, by rw [hU], by rw [hU]; exact hPc, va_K.moved hW.alike hKc, hDc.weaken (fun _ _ _ _ => trivial)⟩⟩ rfl rfl hl.1 rfl (lv_room (Nat.le_of_ble_eq_true rfl)) dX5_init_108 ⟨(show 21 + 0 ≤ 22 by omega), (show 4413 + 0 ≤ 4413 by omega)⟩) hS (fun q _ h => hFc q h) hFc (fun u t H1 locs ht hvm hw hB hz1 hk1 hS => ?_)
  obtain ⟨hP1, hK1, hD1⟩ := hB
  rw [ht] at hP1
  have hK1 := va_K.moved hvm.symm hK1
  obtain ⟨hP, hD⟩ := va_join (wr := [(h0, .inr (5, [.ref a_n, .ref a_f, .ref a_l, .ref q_15, .ref q_1, .ref q_3, .ref q_5, .null, .ref q_7, .ref q_10, .int 0, .int 0, .ref q_13, .int 0, .int 0, .long 0, .int 0])), (q_1, .inl (cA_2, 300, .inr (.inr (.inr (.inr (fun _ => none)))))), (q_3, .inl (cA_4, 40, .inr (.inr (.inr (.inr (fun _ => none)))))), (q_5, .inl (cA_6, 4, .inr (.inr (.inr (.inr (fun _ => none)))))), (q_7, .inr (6, [.ref q_8, .int 0])), (q_8, .inl (cA_9, 1210, .inl (fun _ => 0))), (q_10, .inr (6, [.ref q_11, .int 0])), (q_11, .inl (cA_12, 1210, .inl (fun _ => 0))), (q_13, .inl (cA_14, 20, .inr (.inr (.inr (.inr (fun _ => none)))))), (q_16, .inr (8, [.null, .null, .long 0, .int 0])), (q_18, .inl (cA_19, 1, .inl (fun _ => 0)))]) (w1 := [(q_17, .inr (10, [.ref q_18, .int 0]))]) hP hD [10] [0, 1, 2, 3, 4, 5, 6, 7, 8, 9, 11] rfl rfl (by decide) (by decide) hk1 hFc hP1 hD1
  have hK := (hK.sub (tys' := [(cA_2, .object RX8), (cA_4, .object RX8), (cA_6, .object RX8), (cA_9, .int), (cA_12, .int), (cA_14, .object RX10), (cA_19, .int)]) [0, 1, 2, 3, 4, 5, 6] rfl).app hK1
  generalize H1 = H at hP hS ⊢
  have hP : va_P (dC, dI) vwCl [(h0, .inr (5, [.ref a_n, .ref a_f, .ref a_l, .ref q_15, .ref q_1, .ref q_3, .ref q_5, .null, .ref q_7, .ref q_10, .int 0, .int 0, .ref q_13, .int 0, .int 0, .long 0, .int 0])), (q_1, .inl (cA_2, 300, .inr (.inr (.inr (.inr (fun _ => none)))))), (q_3, .inl (cA_4, 40, .inr (.inr (.inr (.inr (fun _ => none)))))), (q_5, .inl (cA_6, 4, .inr (.inr (.inr (.inr (fun _ => none)))))), (q_7, .inr (6, [.ref q_8, .int 0])), (q_8, .inl (cA_9, 1210, .inl (fun _ => 0))), (q_10, .inr (6, [.ref q_11, .int 0])), (q_11, .inl (cA_12, 1210, .inl (fun _ => 0))), (q_13, .inl (cA_14, 20, .inr (.inr (.inr (.inr (fun _ => none)))))), (q_16, .inr (8, [.null, .null, .long 0, .int 0])), (q_18, .inl (cA_19, 1, .inl (fun _ => 0))), (q_17, .inr (10, [.ref q_18, .int 0]))] H := hP
  have hD : va_D A [(h0, .inr (5, [.ref a_n, .ref a_f, .ref a_l, .ref q_15, .ref q_1, .ref q_3, .ref q_5, .null, .ref q_7, .ref q_10, .int 0, .int 0, .ref q_13, .int 0, .int 0, .long 0, .int 0])), (q_1, .inl (cA_2, 300, .inr (.inr (.inr (.inr (fun _ => none)))))), (q_3, .inl (cA_4, 40, .inr (.inr (.inr (.inr (fun _ => none)))))), (q_5, .inl (cA_6, 4, .inr (.inr (.inr (.inr (fun _ => none)))))), (q_7, .inr (6, [.ref q_8, .int 0])), (q_8, .inl (cA_9, 1210, .inl (fun _ => 0))), (q_10, .inr (6, [.ref q_11, .int 0])), (q_11, .inl (cA_12, 1210, .inl (fun _ => 0))), (q_13, .inl (cA_14, 20, .inr (.inr (.inr (.inr (fun _ => none)))))), (q_16, .inr (8, [.null, .null, .long 0, .int 0])), (q_18, .inl (cA_19, 1, .inl (fun _ => 0))), (q_17, .inr (10, [.ref q_18, .int 0]))] := hD
  have hK : va_K (dC, dI) vwCl [(cA_2, .object RX8), (cA_4, .object RX8), (cA_6, .object RX8), (cA_9, .int), (cA_12, .int), (cA_14, .object RX10), (cA_19, .int)] s := hK
  refine W.widen (k := 21) (n := 4413) (by omega) (by omega) ?_
  refine lv_iconst (v := 0) hx hb dX5_init_111 (by decide) ?_
  refine va_newq (C := RX10) (n := 0) (N' := 0) hx hb hown (hts (.classLink RX5 37 RX10) (by decide +kernel)) hao10 hK hP hD hS hA (by decide) (by decide) (by decide) (show 21 + 1 ≤ 22 by omega) (show 4413 + 0 ≤ 4413 by omega) dX5_init_112 (fun q_20 cA_21 H hK hP hD hS => ?_)
  have hP : va_P (dC, dI) vwCl [(h0, .inr (5, [.ref a_n, .ref a_f, .ref a_l, .ref q_15, .ref q_1, .ref q_3, .ref q_5, .null, .ref q_7, .ref q_10, .int 0, .int 0, .ref q_13, .int 0, .int 0, .long 0, .int 0])), (q_1, .inl (cA_2, 300, .inr (.inr (.inr (.inr (fun _ => none)))))), (q_3, .inl (cA_4, 40, .inr (.inr (.inr (.inr (fun _ => none)))))), (q_5, .inl (cA_6, 4, .inr (.inr (.inr (.inr (fun _ => none)))))), (q_7, .inr (6, [.ref q_8, .int 0])), (q_8, .inl (cA_9, 1210, .inl (fun _ => 0))), (q_10, .inr (6, [.ref q_11, .int 0])), (q_11, .inl (cA_12, 1210, .inl (fun _ => 0))), (q_13, .inl (cA_14, 20, .inr (.inr (.inr (.inr (fun _ => none)))))), (q_16, .inr (8, [.null, .null, .long 0, .int 0])), (q_18, .inl (cA_19, 1, .inl (fun _ => 0))), (q_17, .inr (10, [.ref q_18, .int 0])), (q_20, .inl (cA_21, 0, .inr (.inr (.inr (.inr (fun _ => none))))))] H := hP
  have hD : va_D A [(h0, .inr (5, [.ref a_n, .ref a_f, .ref a_l, .ref q_15, .ref q_1, .ref q_3, .ref q_5, .null, .ref q_7, .ref q_10, .int 0, .int 0, .ref q_13, .int 0, .int 0, .long 0, .int 0])), (q_1, .inl (cA_2, 300, .inr (.inr (.inr (.inr (fun _ => none)))))), (q_3, .inl (cA_4, 40, .inr (.inr (.inr (.inr (fun _ => none)))))), (q_5, .inl (cA_6, 4, .inr (.inr (.inr (.inr (fun _ => none)))))), (q_7, .inr (6, [.ref q_8, .int 0])), (q_8, .inl (cA_9, 1210, .inl (fun _ => 0))), (q_10, .inr (6, [.ref q_11, .int 0])), (q_11, .inl (cA_12, 1210, .inl (fun _ => 0))), (q_13, .inl (cA_14, 20, .inr (.inr (.inr (.inr (fun _ => none)))))), (q_16, .inr (8, [.null, .null, .long 0, .int 0])), (q_18, .inl (cA_19, 1, .inl (fun _ => 0))), (q_17, .inr (10, [.ref q_18, .int 0])), (q_20, .inl (cA_21, 0, .inr (.inr (.inr (.inr (fun _ => none))))))] := hD
  have hK : va_K (dC, dI) vwCl [(cA_2, .object RX8), (cA_4, .object RX8), (cA_6, .object RX8), (cA_9, .int), (cA_12, .int), (cA_14, .object RX10), (cA_19, .int), (cA_21, .object RX10)] s := hK
  refine W.widen (k := 22) (n := 4413) (by omega) (by omega) ?_
  refine lv_lconst (v := 0) hx hb dX5_init_115 (by decide) ?_
  refine lv_iconst (v := 0) hx hb dX5_init_116 (by decide) ?_
  have hPc := hP.sub (ws' := [(q_16, .inr (8, [.null, .null, .long 0, .int 0]))]) [9] rfl
  have hDc := hD.sub (ws' := [(q_16, .inr (8, [.null, .null, .long 0, .int 0]))]) [9] (by decide) rfl
  have hKc := hK.sub (tys' := []) [] rfl
  have hFc := va_free (wc := [(q_16, .inr (8, [.null, .null, .long 0, .int 0]))]) hD hS hA [9] rfl
  refine va_callv (va_runI (As := [.ref q_17, .ref q_20, .long 0, .int 0]) (rest := [.ref q_16, .ref h0]) ⟨hx, hb, hml, hown, hts⟩ (c_Step_init l dC dI H.size q_16 q_17 q_20 0) (cwI 4 hts gX5_init_X8_init rfl rfl rfl (hts (.initialized RX8) (by decide +kernel)) (hts (.methodLink RX5 67 yX8_init) (by decide +kernel)) (hts (.instanceMethod yX8_init) (by decide +kernel)) rfl (by decide +kernel) ⟨Nat.le_of_ble_eq_true rfl, Nat.le_of_ble_eq_true rfl⟩) ⟨fun a U g mk q => by obtain ⟨q0, q1, qP, qK, qD⟩ := q; exact ⟨q0, q1, qP, va_K.moved (u := U) (U := U.calling g mk a) (Vm.Alike.refl U.vm) qK, qD⟩, fun U hU hW => ⟨rfl, by rw [hU], by rw [hU]; exact hPc, va_K.moved hW.alike hKc, hDc.weaken (fun _ _ _ _ => trivial)⟩⟩ rfl rfl hl.1 rfl (lv_room (Nat.le_of_ble_eq_true rfl)) dX5_init_117 ⟨(show 22 + 0 ≤ 22 by omega), (show 4413 + 0 ≤ 4413 by omega)⟩) hS (fun q _ h => hFc q h) hFc (fun u t H1 locs ht hvm hw hB hz1 hk1 hS => ?_)
  obtain ⟨hP1, hK1, hD1⟩ := hB
  rw [ht] at hP1
  have hK1 := va_K.moved hvm.symm hK1
  obtain ⟨hP, hD⟩ := va_join (wr := [(h0, .inr (5, [.ref a_n, .ref a_f, .ref a_l, .ref q_15, .ref q_1, .ref q_3, .ref q_5, .null, .ref q_7, .ref q_10, .int 0, .int 0, .ref q_13, .int 0, .int 0, .long 0, .int 0])), (q_1, .inl (cA_2, 300, .inr (.inr (.inr (.inr (fun _ => none)))))), (q_3, .inl (cA_4, 40, .inr (.inr (.inr (.inr (fun _ => none)))))), (q_5, .inl (cA_6, 4, .inr (.inr (.inr (.inr (fun _ => none)))))), (q_7, .inr (6, [.ref q_8, .int 0])), (q_8, .inl (cA_9, 1210, .inl (fun _ => 0))), (q_10, .inr (6, [.ref q_11, .int 0])), (q_11, .inl (cA_12, 1210, .inl (fun _ => 0))), (q_13, .inl (cA_14, 20, .inr (.inr (.inr (.inr (fun _ => none)))))), (q_18, .inl (cA_19, 1, .inl (fun _ => 0))), (q_17, .inr (10, [.ref q_18, .int 0])), (q_20, .inl (cA_21, 0, .inr (.inr (.inr (.inr (fun _ => none))))))]) (w1 := [(q_16, .inr (8, [.ref q_17, .ref q_20, .long 0, .int 0]))]) hP hD [9] [0, 1, 2, 3, 4, 5, 6, 7, 8, 10, 11, 12] rfl rfl (by decide) (by decide) hk1 hFc hP1 hD1
  have hK := (hK.sub (tys' := [(cA_2, .object RX8), (cA_4, .object RX8), (cA_6, .object RX8), (cA_9, .int), (cA_12, .int), (cA_14, .object RX10), (cA_19, .int), (cA_21, .object RX10)]) [0, 1, 2, 3, 4, 5, 6, 7] rfl).app hK1
  generalize H1 = H at hP hS ⊢
  have hP : va_P (dC, dI) vwCl [(h0, .inr (5, [.ref a_n, .ref a_f, .ref a_l, .ref q_15, .ref q_1, .ref q_3, .ref q_5, .null, .ref q_7, .ref q_10, .int 0, .int 0, .ref q_13, .int 0, .int 0, .long 0, .int 0])), (q_1, .inl (cA_2, 300, .inr (.inr (.inr (.inr (fun _ => none)))))), (q_3, .inl (cA_4, 40, .inr (.inr (.inr (.inr (fun _ => none)))))), (q_5, .inl (cA_6, 4, .inr (.inr (.inr (.inr (fun _ => none)))))), (q_7, .inr (6, [.ref q_8, .int 0])), (q_8, .inl (cA_9, 1210, .inl (fun _ => 0))), (q_10, .inr (6, [.ref q_11, .int 0])), (q_11, .inl (cA_12, 1210, .inl (fun _ => 0))), (q_13, .inl (cA_14, 20, .inr (.inr (.inr (.inr (fun _ => none)))))), (q_18, .inl (cA_19, 1, .inl (fun _ => 0))), (q_17, .inr (10, [.ref q_18, .int 0])), (q_20, .inl (cA_21, 0, .inr (.inr (.inr (.inr (fun _ => none)))))), (q_16, .inr (8, [.ref q_17, .ref q_20, .long 0, .int 0]))] H := hP
  have hD : va_D A [(h0, .inr (5, [.ref a_n, .ref a_f, .ref a_l, .ref q_15, .ref q_1, .ref q_3, .ref q_5, .null, .ref q_7, .ref q_10, .int 0, .int 0, .ref q_13, .int 0, .int 0, .long 0, .int 0])), (q_1, .inl (cA_2, 300, .inr (.inr (.inr (.inr (fun _ => none)))))), (q_3, .inl (cA_4, 40, .inr (.inr (.inr (.inr (fun _ => none)))))), (q_5, .inl (cA_6, 4, .inr (.inr (.inr (.inr (fun _ => none)))))), (q_7, .inr (6, [.ref q_8, .int 0])), (q_8, .inl (cA_9, 1210, .inl (fun _ => 0))), (q_10, .inr (6, [.ref q_11, .int 0])), (q_11, .inl (cA_12, 1210, .inl (fun _ => 0))), (q_13, .inl (cA_14, 20, .inr (.inr (.inr (.inr (fun _ => none)))))), (q_18, .inl (cA_19, 1, .inl (fun _ => 0))), (q_17, .inr (10, [.ref q_18, .int 0])), (q_20, .inl (cA_21, 0, .inr (.inr (.inr (.inr (fun _ => none)))))), (q_16, .inr (8, [.ref q_17, .ref q_20, .long 0, .int 0]))] := hD
  have hK : va_K (dC, dI) vwCl [(cA_2, .object RX8), (cA_4, .object RX8), (cA_6, .object RX8), (cA_9, .int), (cA_12, .int), (cA_14, .object RX10), (cA_19, .int), (cA_21, .object RX10)] s := hK
  refine W.widen (k := 22) (n := 4413) (by omega) (by omega) ?_
  refine va_putF (D := (dC, dI)) (ci := 5) (v := .ref q_16) (ty := .object "ProofBench$Step") (C := RX5) (T := TX5) (N := 17) hx hb hts (by decide +kernel) tyX5 tyX5_ok nmX5 hown hK hP hD hS 0 rfl rfl 7 (by decide) (hts (.fieldLink RX5 70 "ProofBench$Proof" "nothing" "LProofBench$Step;") (by decide +kernel)) (fun _ h9 => h9) rfl hin rfl (by decide +kernel) rfl rfl (Nat.le_of_ble_eq_true rfl) dX5_init_120 (fun H locs hP hD hS => ?_)
  have hP : va_P (dC, dI) vwCl [(h0, .inr (5, [.ref a_n, .ref a_f, .ref a_l, .ref q_15, .ref q_1, .ref q_3, .ref q_5, .ref q_16, .ref q_7, .ref q_10, .int 0, .int 0, .ref q_13, .int 0, .int 0, .long 0, .int 0])), (q_1, .inl (cA_2, 300, .inr (.inr (.inr (.inr (fun _ => none)))))), (q_3, .inl (cA_4, 40, .inr (.inr (.inr (.inr (fun _ => none)))))), (q_5, .inl (cA_6, 4, .inr (.inr (.inr (.inr (fun _ => none)))))), (q_7, .inr (6, [.ref q_8, .int 0])), (q_8, .inl (cA_9, 1210, .inl (fun _ => 0))), (q_10, .inr (6, [.ref q_11, .int 0])), (q_11, .inl (cA_12, 1210, .inl (fun _ => 0))), (q_13, .inl (cA_14, 20, .inr (.inr (.inr (.inr (fun _ => none)))))), (q_18, .inl (cA_19, 1, .inl (fun _ => 0))), (q_17, .inr (10, [.ref q_18, .int 0])), (q_20, .inl (cA_21, 0, .inr (.inr (.inr (.inr (fun _ => none)))))), (q_16, .inr (8, [.ref q_17, .ref q_20, .long 0, .int 0]))] H := hP
  have hD : va_D A [(h0, .inr (5, [.ref a_n, .ref a_f, .ref a_l, .ref q_15, .ref q_1, .ref q_3, .ref q_5, .ref q_16, .ref q_7, .ref q_10, .int 0, .int 0, .ref q_13, .int 0, .int 0, .long 0, .int 0])), (q_1, .inl (cA_2, 300, .inr (.inr (.inr (.inr (fun _ => none)))))), (q_3, .inl (cA_4, 40, .inr (.inr (.inr (.inr (fun _ => none)))))), (q_5, .inl (cA_6, 4, .inr (.inr (.inr (.inr (fun _ => none)))))), (q_7, .inr (6, [.ref q_8, .int 0])), (q_8, .inl (cA_9, 1210, .inl (fun _ => 0))), (q_10, .inr (6, [.ref q_11, .int 0])), (q_11, .inl (cA_12, 1210, .inl (fun _ => 0))), (q_13, .inl (cA_14, 20, .inr (.inr (.inr (.inr (fun _ => none)))))), (q_18, .inl (cA_19, 1, .inl (fun _ => 0))), (q_17, .inr (10, [.ref q_18, .int 0])), (q_20, .inl (cA_21, 0, .inr (.inr (.inr (.inr (fun _ => none)))))), (q_16, .inr (8, [.ref q_17, .ref q_20, .long 0, .int 0]))] := hD
  refine lv_iconst (v := 0) hx hb dX5_init_123 (by decide) ?_
  refine lv_istore (lv' := [(4, .int 0), (0, .ref h0), (1, .ref a_n), (2, .ref a_f), (3, .ref a_l)]) hx hb dX5_init_124 hl (by decide) rfl (fun ls hl => ?_)
  refine lv_iload hx hb dX5_init_126 (lv_at hl 0 rfl) ?_
  refine lv_aload_n hx hb dX5_init_128 rfl (lv_at hl 1 rfl) ?_
  refine va_get (D := (dC, dI)) (ci := 5) (v := .ref q_5) (C := RX5) (T := TX5) (N := 17) hx hb hts (by decide +kernel) hown hK hP 0 rfl rfl 6 (by decide) (hts (.fieldLink RX5 22 "ProofBench$Proof" "named" "[LProofBench$Step;") (by decide +kernel)) (fun _ h9 => h9) rfl dX5_init_129 ?_
  refine va_alen hx hb hK hP 3 2 rfl rfl (v := 4) (show Int32.ofNat 4 = 4 from by decide) dX5_init_132 ?_
  refine lv_icmp_ge (tgt := 153) hx hb dX5_init_133 (by decide) (fun c9 => absurd c9 (by decide)) (fun _ => ?_)
  refine lv_aload_n hx hb dX5_init_136 rfl (lv_at hl 1 rfl) ?_
  refine va_get (D := (dC, dI)) (ci := 5) (v := .ref q_5) (C := RX5) (T := TX5) (N := 17) hx hb hts (by decide +kernel) hown hK hP 0 rfl rfl 6 (by decide) (hts (.fieldLink RX5 22 "ProofBench$Proof" "named" "[LProofBench$Step;") (by decide +kernel)) (fun _ h9 => h9) rfl dX5_init_137 ?_
  refine lv_iload hx hb dX5_init_140 (lv_at hl 0 rfl) ?_
  refine lv_aload_n hx hb dX5_init_142 rfl (lv_at hl 1 rfl) ?_
  refine va_get (D := (dC, dI)) (ci := 5) (v := .ref q_16) (C := RX5) (T := TX5) (N := 17) hx hb hts (by decide +kernel) hown hK hP 0 rfl rfl 7 (by decide) (hts (.fieldLink RX5 70 "ProofBench$Proof" "nothing" "LProofBench$Step;") (by decide +kernel)) (fun _ h9 => h9) rfl dX5_init_143 ?_
  refine va_astq (r := (RX8, TX8, 4)) hx hb hK hP hD hS 3 2 12 8 rfl rfl rfl rfl (show vp_in (0) 4 from by unfold vp_in; decide) dX5_init_146 (fun H locs hP hD hS => ?_)
  obtain ⟨f_22, hP, hD⟩ : ∃ f9 : Nat → Option Nat, va_P (dC, dI) vwCl [(h0, .inr (5, [.ref a_n, .ref a_f, .ref a_l, .ref q_15, .ref q_1, .ref q_3, .ref q_5, .ref q_16, .ref q_7, .ref q_10, .int 0, .int 0, .ref q_13, .int 0, .int 0, .long 0, .int 0])), (q_1, .inl (cA_2, 300, .inr (.inr (.inr (.inr (fun _ => none)))))), (q_3, .inl (cA_4, 40, .inr (.inr (.inr (.inr (fun _ => none)))))), (q_5, .inl (cA_6, 4, .inr (.inr (.inr (.inr (f9)))))), (q_7, .inr (6, [.ref q_8, .int 0])), (q_8, .inl (cA_9, 1210, .inl (fun _ => 0))), (q_10, .inr (6, [.ref q_11, .int 0])), (q_11, .inl (cA_12, 1210, .inl (fun _ => 0))), (q_13, .inl (cA_14, 20, .inr (.inr (.inr (.inr (fun _ => none)))))), (q_18, .inl (cA_19, 1, .inl (fun _ => 0))), (q_17, .inr (10, [.ref q_18, .int 0])), (q_20, .inl (cA_21, 0, .inr (.inr (.inr (.inr (fun _ => none)))))), (q_16, .inr (8, [.ref q_17, .ref q_20, .long 0, .int 0]))] H ∧ va_D A [(h0, .inr (5, [.ref a_n, .ref a_f, .ref a_l, .ref q_15, .ref q_1, .ref q_3, .ref q_5, .ref q_16, .ref q_7, .ref q_10, .int 0, .int 0, .ref q_13, .int 0, .int 0, .long 0, .int 0])), (q_1, .inl (cA_2, 300, .inr (.inr (.inr (.inr (fun _ => none)))))), (q_3, .inl (cA_4, 40, .inr (.inr (.inr (.inr (fun _ => none)))))), (q_5, .inl (cA_6, 4, .inr (.inr (.inr (.inr (f9)))))), (q_7, .inr (6, [.ref q_8, .int 0])), (q_8, .inl (cA_9, 1210, .inl (fun _ => 0))), (q_10, .inr (6, [.ref q_11, .int 0])), (q_11, .inl (cA_12, 1210, .inl (fun _ => 0))), (q_13, .inl (cA_14, 20, .inr (.inr (.inr (.inr (fun _ => none)))))), (q_18, .inl (cA_19, 1, .inl (fun _ => 0))), (q_17, .inr (10, [.ref q_18, .int 0])), (q_20, .inl (cA_21, 0, .inr (.inr (.inr (.inr (fun _ => none)))))), (q_16, .inr (8, [.ref q_17, .ref q_20, .long 0, .int 0]))] := ⟨_, hP, hD⟩
  refine lv_iinc (v := 1) (lv' := [(4, .int 1), (0, .ref h0), (1, .ref a_n), (2, .ref a_f), (3, .ref a_l)]) hx hb dX5_init_147 hl (k := 0) rfl (by decide) (by decide) rfl (fun ls hl => ?_)
  refine lv_goto (tgt := 126) hx hb dX5_init_150 (by decide) ?_
  refine lv_iload hx hb dX5_init_126 (lv_at hl 0 rfl) ?_
  refine lv_aload_n hx hb dX5_init_128 rfl (lv_at hl 1 rfl) ?_
  refine va_get (D := (dC, dI)) (ci := 5) (v := .ref q_5) (C := RX5) (T := TX5) (N := 17) hx hb hts (by decide +kernel) hown hK hP 0 rfl rfl 6 (by decide) (hts (.fieldLink RX5 22 "ProofBench$Proof" "named" "[LProofBench$Step;") (by decide +kernel)) (fun _ h9 => h9) rfl dX5_init_129 ?_
  refine va_alen hx hb hK hP 3 2 rfl rfl (v := 4) (show Int32.ofNat 4 = 4 from by decide) dX5_init_132 ?_
  refine lv_icmp_ge (tgt := 153) hx hb dX5_init_133 (by decide) (fun c9 => absurd c9 (by decide)) (fun _ => ?_)
  refine lv_aload_n hx hb dX5_init_136 rfl (lv_at hl 1 rfl) ?_
  refine va_get (D := (dC, dI)) (ci := 5) (v := .ref q_5) (C := RX5) (T := TX5) (N := 17) hx hb hts (by decide +kernel) hown hK hP 0 rfl rfl 6 (by decide) (hts (.fieldLink RX5 22 "ProofBench$Proof" "named" "[LProofBench$Step;") (by decide +kernel)) (fun _ h9 => h9) rfl dX5_init_137 ?_
  refine lv_iload hx hb dX5_init_140 (lv_at hl 0 rfl) ?_
  refine lv_aload_n hx hb dX5_init_142 rfl (lv_at hl 1 rfl) ?_
  refine va_get (D := (dC, dI)) (ci := 5) (v := .ref q_16) (C := RX5) (T := TX5) (N := 17) hx hb hts (by decide +kernel) hown hK hP 0 rfl rfl 7 (by decide) (hts (.fieldLink RX5 70 "ProofBench$Proof" "nothing" "LProofBench$Step;") (by decide +kernel)) (fun _ h9 => h9) rfl dX5_init_143 ?_
  refine va_astq (r := (RX8, TX8, 4)) hx hb hK hP hD hS 3 2 12 8 rfl rfl rfl rfl (show vp_in (1) 4 from by unfold vp_in; decide) dX5_init_146 (fun H locs hP hD hS => ?_)
  obtain ⟨f_23, hP, hD⟩ : ∃ f9 : Nat → Option Nat, va_P (dC, dI) vwCl [(h0, .inr (5, [.ref a_n, .ref a_f, .ref a_l, .ref q_15, .ref q_1, .ref q_3, .ref q_5, .ref q_16, .ref q_7, .ref q_10, .int 0, .int 0, .ref q_13, .int 0, .int 0, .long 0, .int 0])), (q_1, .inl (cA_2, 300, .inr (.inr (.inr (.inr (fun _ => none)))))), (q_3, .inl (cA_4, 40, .inr (.inr (.inr (.inr (fun _ => none)))))), (q_5, .inl (cA_6, 4, .inr (.inr (.inr (.inr (f9)))))), (q_7, .inr (6, [.ref q_8, .int 0])), (q_8, .inl (cA_9, 1210, .inl (fun _ => 0))), (q_10, .inr (6, [.ref q_11, .int 0])), (q_11, .inl (cA_12, 1210, .inl (fun _ => 0))), (q_13, .inl (cA_14, 20, .inr (.inr (.inr (.inr (fun _ => none)))))), (q_18, .inl (cA_19, 1, .inl (fun _ => 0))), (q_17, .inr (10, [.ref q_18, .int 0])), (q_20, .inl (cA_21, 0, .inr (.inr (.inr (.inr (fun _ => none)))))), (q_16, .inr (8, [.ref q_17, .ref q_20, .long 0, .int 0]))] H ∧ va_D A [(h0, .inr (5, [.ref a_n, .ref a_f, .ref a_l, .ref q_15, .ref q_1, .ref q_3, .ref q_5, .ref q_16, .ref q_7, .ref q_10, .int 0, .int 0, .ref q_13, .int 0, .int 0, .long 0, .int 0])), (q_1, .inl (cA_2, 300, .inr (.inr (.inr (.inr (fun _ => none)))))), (q_3, .inl (cA_4, 40, .inr (.inr (.inr (.inr (fun _ => none)))))), (q_5, .inl (cA_6, 4, .inr (.inr (.inr (.inr (f9)))))), (q_7, .inr (6, [.ref q_8, .int 0])), (q_8, .inl (cA_9, 1210, .inl (fun _ => 0))), (q_10, .inr (6, [.ref q_11, .int 0])), (q_11, .inl (cA_12, 1210, .inl (fun _ => 0))), (q_13, .inl (cA_14, 20, .inr (.inr (.inr (.inr (fun _ => none)))))), (q_18, .inl (cA_19, 1, .inl (fun _ => 0))), (q_17, .inr (10, [.ref q_18, .int 0])), (q_20, .inl (cA_21, 0, .inr (.inr (.inr (.inr (fun _ => none)))))), (q_16, .inr (8, [.ref q_17, .ref q_20, .long 0, .int 0]))] := ⟨_, hP, hD⟩
  refine lv_iinc (v := 2) (lv' := [(4, .int 2), (0, .ref h0), (1, .ref a_n), (2, .ref a_f), (3, .ref a_l)]) hx hb dX5_init_147 hl (k := 0) rfl (by decide) (by decide) rfl (fun ls hl => ?_)
  refine lv_goto (tgt := 126) hx hb dX5_init_150 (by decide) ?_
  refine lv_iload hx hb dX5_init_126 (lv_at hl 0 rfl) ?_
  refine lv_aload_n hx hb dX5_init_128 rfl (lv_at hl 1 rfl) ?_
  refine va_get (D := (dC, dI)) (ci := 5) (v := .ref q_5) (C := RX5) (T := TX5) (N := 17) hx hb hts (by decide +kernel) hown hK hP 0 rfl rfl 6 (by decide) (hts (.fieldLink RX5 22 "ProofBench$Proof" "named" "[LProofBench$Step;") (by decide +kernel)) (fun _ h9 => h9) rfl dX5_init_129 ?_
  refine va_alen hx hb hK hP 3 2 rfl rfl (v := 4) (show Int32.ofNat 4 = 4 from by decide) dX5_init_132 ?_
  refine lv_icmp_ge (tgt := 153) hx hb dX5_init_133 (by decide) (fun c9 => absurd c9 (by decide)) (fun _ => ?_)
  refine lv_aload_n hx hb dX5_init_136 rfl (lv_at hl 1 rfl) ?_
  refine va_get (D := (dC, dI)) (ci := 5) (v := .ref q_5) (C := RX5) (T := TX5) (N := 17) hx hb hts (by decide +kernel) hown hK hP 0 rfl rfl 6 (by decide) (hts (.fieldLink RX5 22 "ProofBench$Proof" "named" "[LProofBench$Step;") (by decide +kernel)) (fun _ h9 => h9) rfl dX5_init_137 ?_
  refine lv_iload hx hb dX5_init_140 (lv_at hl 0 rfl) ?_
  refine lv_aload_n hx hb dX5_init_142 rfl (lv_at hl 1 rfl) ?_
  refine va_get (D := (dC, dI)) (ci := 5) (v := .ref q_16) (C := RX5) (T := TX5) (N := 17) hx hb hts (by decide +kernel) hown hK hP 0 rfl rfl 7 (by decide) (hts (.fieldLink RX5 70 "ProofBench$Proof" "nothing" "LProofBench$Step;") (by decide +kernel)) (fun _ h9 => h9) rfl dX5_init_143 ?_
  refine va_astq (r := (RX8, TX8, 4)) hx hb hK hP hD hS 3 2 12 8 rfl rfl rfl rfl (show vp_in (2) 4 from by unfold vp_in; decide) dX5_init_146 (fun H locs hP hD hS => ?_)
  obtain ⟨f_24, hP, hD⟩ : ∃ f9 : Nat → Option Nat, va_P (dC, dI) vwCl [(h0, .inr (5, [.ref a_n, .ref a_f, .ref a_l, .ref q_15, .ref q_1, .ref q_3, .ref q_5, .ref q_16, .ref q_7, .ref q_10, .int 0, .int 0, .ref q_13, .int 0, .int 0, .long 0, .int 0])), (q_1, .inl (cA_2, 300, .inr (.inr (.inr (.inr (fun _ => none)))))), (q_3, .inl (cA_4, 40, .inr (.inr (.inr (.inr (fun _ => none)))))), (q_5, .inl (cA_6, 4, .inr (.inr (.inr (.inr (f9)))))), (q_7, .inr (6, [.ref q_8, .int 0])), (q_8, .inl (cA_9, 1210, .inl (fun _ => 0))), (q_10, .inr (6, [.ref q_11, .int 0])), (q_11, .inl (cA_12, 1210, .inl (fun _ => 0))), (q_13, .inl (cA_14, 20, .inr (.inr (.inr (.inr (fun _ => none)))))), (q_18, .inl (cA_19, 1, .inl (fun _ => 0))), (q_17, .inr (10, [.ref q_18, .int 0])), (q_20, .inl (cA_21, 0, .inr (.inr (.inr (.inr (fun _ => none)))))), (q_16, .inr (8, [.ref q_17, .ref q_20, .long 0, .int 0]))] H ∧ va_D A [(h0, .inr (5, [.ref a_n, .ref a_f, .ref a_l, .ref q_15, .ref q_1, .ref q_3, .ref q_5, .ref q_16, .ref q_7, .ref q_10, .int 0, .int 0, .ref q_13, .int 0, .int 0, .long 0, .int 0])), (q_1, .inl (cA_2, 300, .inr (.inr (.inr (.inr (fun _ => none)))))), (q_3, .inl (cA_4, 40, .inr (.inr (.inr (.inr (fun _ => none)))))), (q_5, .inl (cA_6, 4, .inr (.inr (.inr (.inr (f9)))))), (q_7, .inr (6, [.ref q_8, .int 0])), (q_8, .inl (cA_9, 1210, .inl (fun _ => 0))), (q_10, .inr (6, [.ref q_11, .int 0])), (q_11, .inl (cA_12, 1210, .inl (fun _ => 0))), (q_13, .inl (cA_14, 20, .inr (.inr (.inr (.inr (fun _ => none)))))), (q_18, .inl (cA_19, 1, .inl (fun _ => 0))), (q_17, .inr (10, [.ref q_18, .int 0])), (q_20, .inl (cA_21, 0, .inr (.inr (.inr (.inr (fun _ => none)))))), (q_16, .inr (8, [.ref q_17, .ref q_20, .long 0, .int 0]))] := ⟨_, hP, hD⟩
  refine lv_iinc (v := 3) (lv' := [(4, .int 3), (0, .ref h0), (1, .ref a_n), (2, .ref a_f), (3, .ref a_l)]) hx hb dX5_init_147 hl (k := 0) rfl (by decide) (by decide) rfl (fun ls hl => ?_)
  refine lv_goto (tgt := 126) hx hb dX5_init_150 (by decide) ?_
  refine lv_iload hx hb dX5_init_126 (lv_at hl 0 rfl) ?_
  refine lv_aload_n hx hb dX5_init_128 rfl (lv_at hl 1 rfl) ?_
  refine va_get (D := (dC, dI)) (ci := 5) (v := .ref q_5) (C := RX5) (T := TX5) (N := 17) hx hb hts (by decide +kernel) hown hK hP 0 rfl rfl 6 (by decide) (hts (.fieldLink RX5 22 "ProofBench$Proof" "named" "[LProofBench$Step;") (by decide +kernel)) (fun _ h9 => h9) rfl dX5_init_129 ?_
  refine va_alen hx hb hK hP 3 2 rfl rfl (v := 4) (show Int32.ofNat 4 = 4 from by decide) dX5_init_132 ?_
  refine lv_icmp_ge (tgt := 153) hx hb dX5_init_133 (by decide) (fun c9 => absurd c9 (by decide)) (fun _ => ?_)
  refine lv_aload_n hx hb dX5_init_136 rfl (lv_at hl 1 rfl) ?_
  refine va_get (D := (dC, dI)) (ci := 5) (v := .ref q_5) (C := RX5) (T := TX5) (N := 17) hx hb hts (by decide +kernel) hown hK hP 0 rfl rfl 6 (by decide) (hts (.fieldLink RX5 22 "ProofBench$Proof" "named" "[LProofBench$Step;") (by decide +kernel)) (fun _ h9 => h9) rfl dX5_init_137 ?_
  refine lv_iload hx hb dX5_init_140 (lv_at hl 0 rfl) ?_
  refine lv_aload_n hx hb dX5_init_142 rfl (lv_at hl 1 rfl) ?_
  refine va_get (D := (dC, dI)) (ci := 5) (v := .ref q_16) (C := RX5) (T := TX5) (N := 17) hx hb hts (by decide +kernel) hown hK hP 0 rfl rfl 7 (by decide) (hts (.fieldLink RX5 70 "ProofBench$Proof" "nothing" "LProofBench$Step;") (by decide +kernel)) (fun _ h9 => h9) rfl dX5_init_143 ?_
  refine va_astq (r := (RX8, TX8, 4)) hx hb hK hP hD hS 3 2 12 8 rfl rfl rfl rfl (show vp_in (3) 4 from by unfold vp_in; decide) dX5_init_146 (fun H locs hP hD hS => ?_)
  obtain ⟨f_25, hP, hD⟩ : ∃ f9 : Nat → Option Nat, va_P (dC, dI) vwCl [(h0, .inr (5, [.ref a_n, .ref a_f, .ref a_l, .ref q_15, .ref q_1, .ref q_3, .ref q_5, .ref q_16, .ref q_7, .ref q_10, .int 0, .int 0, .ref q_13, .int 0, .int 0, .long 0, .int 0])), (q_1, .inl (cA_2, 300, .inr (.inr (.inr (.inr (fun _ => none)))))), (q_3, .inl (cA_4, 40, .inr (.inr (.inr (.inr (fun _ => none)))))), (q_5, .inl (cA_6, 4, .inr (.inr (.inr (.inr (f9)))))), (q_7, .inr (6, [.ref q_8, .int 0])), (q_8, .inl (cA_9, 1210, .inl (fun _ => 0))), (q_10, .inr (6, [.ref q_11, .int 0])), (q_11, .inl (cA_12, 1210, .inl (fun _ => 0))), (q_13, .inl (cA_14, 20, .inr (.inr (.inr (.inr (fun _ => none)))))), (q_18, .inl (cA_19, 1, .inl (fun _ => 0))), (q_17, .inr (10, [.ref q_18, .int 0])), (q_20, .inl (cA_21, 0, .inr (.inr (.inr (.inr (fun _ => none)))))), (q_16, .inr (8, [.ref q_17, .ref q_20, .long 0, .int 0]))] H ∧ va_D A [(h0, .inr (5, [.ref a_n, .ref a_f, .ref a_l, .ref q_15, .ref q_1, .ref q_3, .ref q_5, .ref q_16, .ref q_7, .ref q_10, .int 0, .int 0, .ref q_13, .int 0, .int 0, .long 0, .int 0])), (q_1, .inl (cA_2, 300, .inr (.inr (.inr (.inr (fun _ => none)))))), (q_3, .inl (cA_4, 40, .inr (.inr (.inr (.inr (fun _ => none)))))), (q_5, .inl (cA_6, 4, .inr (.inr (.inr (.inr (f9)))))), (q_7, .inr (6, [.ref q_8, .int 0])), (q_8, .inl (cA_9, 1210, .inl (fun _ => 0))), (q_10, .inr (6, [.ref q_11, .int 0])), (q_11, .inl (cA_12, 1210, .inl (fun _ => 0))), (q_13, .inl (cA_14, 20, .inr (.inr (.inr (.inr (fun _ => none)))))), (q_18, .inl (cA_19, 1, .inl (fun _ => 0))), (q_17, .inr (10, [.ref q_18, .int 0])), (q_20, .inl (cA_21, 0, .inr (.inr (.inr (.inr (fun _ => none)))))), (q_16, .inr (8, [.ref q_17, .ref q_20, .long 0, .int 0]))] := ⟨_, hP, hD⟩
  refine lv_iinc (v := 4) (lv' := [(4, .int 4), (0, .ref h0), (1, .ref a_n), (2, .ref a_f), (3, .ref a_l)]) hx hb dX5_init_147 hl (k := 0) rfl (by decide) (by decide) rfl (fun ls hl => ?_)
  refine lv_goto (tgt := 126) hx hb dX5_init_150 (by decide) ?_
  refine lv_iload hx hb dX5_init_126 (lv_at hl 0 rfl) ?_
  refine lv_aload_n hx hb dX5_init_128 rfl (lv_at hl 1 rfl) ?_
  refine va_get (D := (dC, dI)) (ci := 5) (v := .ref q_5) (C := RX5) (T := TX5) (N := 17) hx hb hts (by decide +kernel) hown hK hP 0 rfl rfl 6 (by decide) (hts (.fieldLink RX5 22 "ProofBench$Proof" "named" "[LProofBench$Step;") (by decide +kernel)) (fun _ h9 => h9) rfl dX5_init_129 ?_
  refine va_alen hx hb hK hP 3 2 rfl rfl (v := 4) (show Int32.ofNat 4 = 4 from by decide) dX5_init_132 ?_
  refine lv_icmp_ge (tgt := 153) hx hb dX5_init_133 (by decide) (fun _ => ?_) (fun c9 => absurd c9 (by decide))
  refine lv_iconst (v := 0) hx hb dX5_init_153 (by decide) ?_
  refine lv_istore (lv' := [(4, .int 0), (0, .ref h0), (1, .ref a_n), (2, .ref a_f), (3, .ref a_l)]) hx hb dX5_init_154 hl (by decide) rfl (fun ls hl => ?_)
  refine lv_iload hx hb dX5_init_156 (lv_at hl 0 rfl) ?_
  refine lv_aload_n hx hb dX5_init_158 rfl (lv_at hl 1 rfl) ?_
  refine va_get (D := (dC, dI)) (ci := 5) (v := .ref q_13) (C := RX5) (T := TX5) (N := 17) hx hb hts (by decide +kernel) hown hK hP 0 rfl rfl 12 (by decide) (hts (.fieldLink RX5 39 "ProofBench$Proof" "kept" "[LProofBench$Thing;") (by decide +kernel)) (fun _ h9 => h9) rfl dX5_init_159 ?_
  refine va_alen hx hb hK hP 8 5 rfl rfl (v := 20) (show Int32.ofNat 20 = 20 from by decide) dX5_init_162 ?_
  refine lv_icmp_ge (tgt := 186) hx hb dX5_init_163 (by decide) (fun c9 => absurd c9 (by decide)) (fun _ => ?_)
  refine lv_aload_n hx hb dX5_init_166 rfl (lv_at hl 1 rfl) ?_
  refine va_get (D := (dC, dI)) (ci := 5) (v := .ref q_13) (C := RX5) (T := TX5) (N := 17) hx hb hts (by decide +kernel) hown hK hP 0 rfl rfl 12 (by decide) (hts (.fieldLink RX5 39 "ProofBench$Proof" "kept" "[LProofBench$Thing;") (by decide +kernel)) (fun _ h9 => h9) rfl dX5_init_167 ?_
  refine lv_iload hx hb dX5_init_170 (lv_at hl 0 rfl) ?_
  refine lv_aload_n hx hb dX5_init_172 rfl (lv_at hl 1 rfl) ?_
  refine va_get (D := (dC, dI)) (ci := 5) (v := .ref q_16) (C := RX5) (T := TX5) (N := 17) hx hb hts (by decide +kernel) hown hK hP 0 rfl rfl 7 (by decide) (hts (.fieldLink RX5 70 "ProofBench$Proof" "nothing" "LProofBench$Step;") (by decide +kernel)) (fun _ h9 => h9) rfl dX5_init_173 ?_
  refine va_get (D := (dC, dI)) (ci := 8) (v := .ref q_17) (C := RX8) (T := TX8) (N := 4) hx hb hts (by decide +kernel) hown hK hP 12 rfl rfl 0 (by decide) (hts (.fieldLink RX5 74 "ProofBench$Step" "shows" "LProofBench$Thing;") (by decide +kernel)) (fun _ h9 => h9) rfl dX5_init_176 ?_
  refine va_astq (r := (RX10, TX10, 2)) hx hb hK hP hD hS 8 5 10 10 rfl rfl rfl rfl (show vp_in (0) 20 from by unfold vp_in; decide) dX5_init_179 (fun H locs hP hD hS => ?_)
  obtain ⟨f_26, hP, hD⟩ : ∃ f9 : Nat → Option Nat, va_P (dC, dI) vwCl [(h0, .inr (5, [.ref a_n, .ref a_f, .ref a_l, .ref q_15, .ref q_1, .ref q_3, .ref q_5, .ref q_16, .ref q_7, .ref q_10, .int 0, .int 0, .ref q_13, .int 0, .int 0, .long 0, .int 0])), (q_1, .inl (cA_2, 300, .inr (.inr (.inr (.inr (fun _ => none)))))), (q_3, .inl (cA_4, 40, .inr (.inr (.inr (.inr (fun _ => none)))))), (q_5, .inl (cA_6, 4, .inr (.inr (.inr (.inr (f_25)))))), (q_7, .inr (6, [.ref q_8, .int 0])), (q_8, .inl (cA_9, 1210, .inl (fun _ => 0))), (q_10, .inr (6, [.ref q_11, .int 0])), (q_11, .inl (cA_12, 1210, .inl (fun _ => 0))), (q_13, .inl (cA_14, 20, .inr (.inr (.inr (.inr (f9)))))), (q_18, .inl (cA_19, 1, .inl (fun _ => 0))), (q_17, .inr (10, [.ref q_18, .int 0])), (q_20, .inl (cA_21, 0, .inr (.inr (.inr (.inr (fun _ => none)))))), (q_16, .inr (8, [.ref q_17, .ref q_20, .long 0, .int 0]))] H ∧ va_D A [(h0, .inr (5, [.ref a_n, .ref a_f, .ref a_l, .ref q_15, .ref q_1, .ref q_3, .ref q_5, .ref q_16, .ref q_7, .ref q_10, .int 0, .int 0, .ref q_13, .int 0, .int 0, .long 0, .int 0])), (q_1, .inl (cA_2, 300, .inr (.inr (.inr (.inr (fun _ => none)))))), (q_3, .inl (cA_4, 40, .inr (.inr (.inr (.inr (fun _ => none)))))), (q_5, .inl (cA_6, 4, .inr (.inr (.inr (.inr (f_25)))))), (q_7, .inr (6, [.ref q_8, .int 0])), (q_8, .inl (cA_9, 1210, .inl (fun _ => 0))), (q_10, .inr (6, [.ref q_11, .int 0])), (q_11, .inl (cA_12, 1210, .inl (fun _ => 0))), (q_13, .inl (cA_14, 20, .inr (.inr (.inr (.inr (f9)))))), (q_18, .inl (cA_19, 1, .inl (fun _ => 0))), (q_17, .inr (10, [.ref q_18, .int 0])), (q_20, .inl (cA_21, 0, .inr (.inr (.inr (.inr (fun _ => none)))))), (q_16, .inr (8, [.ref q_17, .ref q_20, .long 0, .int 0]))] := ⟨_, hP, hD⟩
  refine lv_iinc (v := 1) (lv' := [(4, .int 1), (0, .ref h0), (1, .ref a_n), (2, .ref a_f), (3, .ref a_l)]) hx hb dX5_init_180 hl (k := 0) rfl (by decide) (by decide) rfl (fun ls hl => ?_)
  refine lv_goto (tgt := 156) hx hb dX5_init_183 (by decide) ?_
  refine lv_iload hx hb dX5_init_156 (lv_at hl 0 rfl) ?_
  refine lv_aload_n hx hb dX5_init_158 rfl (lv_at hl 1 rfl) ?_
  refine va_get (D := (dC, dI)) (ci := 5) (v := .ref q_13) (C := RX5) (T := TX5) (N := 17) hx hb hts (by decide +kernel) hown hK hP 0 rfl rfl 12 (by decide) (hts (.fieldLink RX5 39 "ProofBench$Proof" "kept" "[LProofBench$Thing;") (by decide +kernel)) (fun _ h9 => h9) rfl dX5_init_159 ?_
  refine va_alen hx hb hK hP 8 5 rfl rfl (v := 20) (show Int32.ofNat 20 = 20 from by decide) dX5_init_162 ?_
  refine lv_icmp_ge (tgt := 186) hx hb dX5_init_163 (by decide) (fun c9 => absurd c9 (by decide)) (fun _ => ?_)
  refine lv_aload_n hx hb dX5_init_166 rfl (lv_at hl 1 rfl) ?_
  refine va_get (D := (dC, dI)) (ci := 5) (v := .ref q_13) (C := RX5) (T := TX5) (N := 17) hx hb hts (by decide +kernel) hown hK hP 0 rfl rfl 12 (by decide) (hts (.fieldLink RX5 39 "ProofBench$Proof" "kept" "[LProofBench$Thing;") (by decide +kernel)) (fun _ h9 => h9) rfl dX5_init_167 ?_
  refine lv_iload hx hb dX5_init_170 (lv_at hl 0 rfl) ?_
  refine lv_aload_n hx hb dX5_init_172 rfl (lv_at hl 1 rfl) ?_
  refine va_get (D := (dC, dI)) (ci := 5) (v := .ref q_16) (C := RX5) (T := TX5) (N := 17) hx hb hts (by decide +kernel) hown hK hP 0 rfl rfl 7 (by decide) (hts (.fieldLink RX5 70 "ProofBench$Proof" "nothing" "LProofBench$Step;") (by decide +kernel)) (fun _ h9 => h9) rfl dX5_init_173 ?_
  refine va_get (D := (dC, dI)) (ci := 8) (v := .ref q_17) (C := RX8) (T := TX8) (N := 4) hx hb hts (by decide +kernel) hown hK hP 12 rfl rfl 0 (by decide) (hts (.fieldLink RX5 74 "ProofBench$Step" "shows" "LProofBench$Thing;") (by decide +kernel)) (fun _ h9 => h9) rfl dX5_init_176 ?_
  refine va_astq (r := (RX10, TX10, 2)) hx hb hK hP hD hS 8 5 10 10 rfl rfl rfl rfl (show vp_in (1) 20 from by unfold vp_in; decide) dX5_init_179 (fun H locs hP hD hS => ?_)
  obtain ⟨f_27, hP, hD⟩ : ∃ f9 : Nat → Option Nat, va_P (dC, dI) vwCl [(h0, .inr (5, [.ref a_n, .ref a_f, .ref a_l, .ref q_15, .ref q_1, .ref q_3, .ref q_5, .ref q_16, .ref q_7, .ref q_10, .int 0, .int 0, .ref q_13, .int 0, .int 0, .long 0, .int 0])), (q_1, .inl (cA_2, 300, .inr (.inr (.inr (.inr (fun _ => none)))))), (q_3, .inl (cA_4, 40, .inr (.inr (.inr (.inr (fun _ => none)))))), (q_5, .inl (cA_6, 4, .inr (.inr (.inr (.inr (f_25)))))), (q_7, .inr (6, [.ref q_8, .int 0])), (q_8, .inl (cA_9, 1210, .inl (fun _ => 0))), (q_10, .inr (6, [.ref q_11, .int 0])), (q_11, .inl (cA_12, 1210, .inl (fun _ => 0))), (q_13, .inl (cA_14, 20, .inr (.inr (.inr (.inr (f9)))))), (q_18, .inl (cA_19, 1, .inl (fun _ => 0))), (q_17, .inr (10, [.ref q_18, .int 0])), (q_20, .inl (cA_21, 0, .inr (.inr (.inr (.inr (fun _ => none)))))), (q_16, .inr (8, [.ref q_17, .ref q_20, .long 0, .int 0]))] H ∧ va_D A [(h0, .inr (5, [.ref a_n, .ref a_f, .ref a_l, .ref q_15, .ref q_1, .ref q_3, .ref q_5, .ref q_16, .ref q_7, .ref q_10, .int 0, .int 0, .ref q_13, .int 0, .int 0, .long 0, .int 0])), (q_1, .inl (cA_2, 300, .inr (.inr (.inr (.inr (fun _ => none)))))), (q_3, .inl (cA_4, 40, .inr (.inr (.inr (.inr (fun _ => none)))))), (q_5, .inl (cA_6, 4, .inr (.inr (.inr (.inr (f_25)))))), (q_7, .inr (6, [.ref q_8, .int 0])), (q_8, .inl (cA_9, 1210, .inl (fun _ => 0))), (q_10, .inr (6, [.ref q_11, .int 0])), (q_11, .inl (cA_12, 1210, .inl (fun _ => 0))), (q_13, .inl (cA_14, 20, .inr (.inr (.inr (.inr (f9)))))), (q_18, .inl (cA_19, 1, .inl (fun _ => 0))), (q_17, .inr (10, [.ref q_18, .int 0])), (q_20, .inl (cA_21, 0, .inr (.inr (.inr (.inr (fun _ => none)))))), (q_16, .inr (8, [.ref q_17, .ref q_20, .long 0, .int 0]))] := ⟨_, hP, hD⟩
  refine lv_iinc (v := 2) (lv' := [(4, .int 2), (0, .ref h0), (1, .ref a_n), (2, .ref a_f), (3, .ref a_l)]) hx hb dX5_init_180 hl (k := 0) rfl (by decide) (by decide) rfl (fun ls hl => ?_)
  refine lv_goto (tgt := 156) hx hb dX5_init_183 (by decide) ?_
  refine lv_iload hx hb dX5_init_156 (lv_at hl 0 rfl) ?_
  refine lv_aload_n hx hb dX5_init_158 rfl (lv_at hl 1 rfl) ?_
  refine va_get (D := (dC, dI)) (ci := 5) (v := .ref q_13) (C := RX5) (T := TX5) (N := 17) hx hb hts (by decide +kernel) hown hK hP 0 rfl rfl 12 (by decide) (hts (.fieldLink RX5 39 "ProofBench$Proof" "kept" "[LProofBench$Thing;") (by decide +kernel)) (fun _ h9 => h9) rfl dX5_init_159 ?_
  refine va_alen hx hb hK hP 8 5 rfl rfl (v := 20) (show Int32.ofNat 20 = 20 from by decide) dX5_init_162 ?_
  refine lv_icmp_ge (tgt := 186) hx hb dX5_init_163 (by decide) (fun c9 => absurd c9 (by decide)) (fun _ => ?_)
  refine lv_aload_n hx hb dX5_init_166 rfl (lv_at hl 1 rfl) ?_
  refine va_get (D := (dC, dI)) (ci := 5) (v := .ref q_13) (C := RX5) (T := TX5) (N := 17) hx hb hts (by decide +kernel) hown hK hP 0 rfl rfl 12 (by decide) (hts (.fieldLink RX5 39 "ProofBench$Proof" "kept" "[LProofBench$Thing;") (by decide +kernel)) (fun _ h9 => h9) rfl dX5_init_167 ?_
  refine lv_iload hx hb dX5_init_170 (lv_at hl 0 rfl) ?_
  refine lv_aload_n hx hb dX5_init_172 rfl (lv_at hl 1 rfl) ?_
  refine va_get (D := (dC, dI)) (ci := 5) (v := .ref q_16) (C := RX5) (T := TX5) (N := 17) hx hb hts (by decide +kernel) hown hK hP 0 rfl rfl 7 (by decide) (hts (.fieldLink RX5 70 "ProofBench$Proof" "nothing" "LProofBench$Step;") (by decide +kernel)) (fun _ h9 => h9) rfl dX5_init_173 ?_
  refine va_get (D := (dC, dI)) (ci := 8) (v := .ref q_17) (C := RX8) (T := TX8) (N := 4) hx hb hts (by decide +kernel) hown hK hP 12 rfl rfl 0 (by decide) (hts (.fieldLink RX5 74 "ProofBench$Step" "shows" "LProofBench$Thing;") (by decide +kernel)) (fun _ h9 => h9) rfl dX5_init_176 ?_
  refine va_astq (r := (RX10, TX10, 2)) hx hb hK hP hD hS 8 5 10 10 rfl rfl rfl rfl (show vp_in (2) 20 from by unfold vp_in; decide) dX5_init_179 (fun H locs hP hD hS => ?_)
  obtain ⟨f_28, hP, hD⟩ : ∃ f9 : Nat → Option Nat, va_P (dC, dI) vwCl [(h0, .inr (5, [.ref a_n, .ref a_f, .ref a_l, .ref q_15, .ref q_1, .ref q_3, .ref q_5, .ref q_16, .ref q_7, .ref q_10, .int 0, .int 0, .ref q_13, .int 0, .int 0, .long 0, .int 0])), (q_1, .inl (cA_2, 300, .inr (.inr (.inr (.inr (fun _ => none)))))), (q_3, .inl (cA_4, 40, .inr (.inr (.inr (.inr (fun _ => none)))))), (q_5, .inl (cA_6, 4, .inr (.inr (.inr (.inr (f_25)))))), (q_7, .inr (6, [.ref q_8, .int 0])), (q_8, .inl (cA_9, 1210, .inl (fun _ => 0))), (q_10, .inr (6, [.ref q_11, .int 0])), (q_11, .inl (cA_12, 1210, .inl (fun _ => 0))), (q_13, .inl (cA_14, 20, .inr (.inr (.inr (.inr (f9)))))), (q_18, .inl (cA_19, 1, .inl (fun _ => 0))), (q_17, .inr (10, [.ref q_18, .int 0])), (q_20, .inl (cA_21, 0, .inr (.inr (.inr (.inr (fun _ => none)))))), (q_16, .inr (8, [.ref q_17, .ref q_20, .long 0, .int 0]))] H ∧ va_D A [(h0, .inr (5, [.ref a_n, .ref a_f, .ref a_l, .ref q_15, .ref q_1, .ref q_3, .ref q_5, .ref q_16, .ref q_7, .ref q_10, .int 0, .int 0, .ref q_13, .int 0, .int 0, .long 0, .int 0])), (q_1, .inl (cA_2, 300, .inr (.inr (.inr (.inr (fun _ => none)))))), (q_3, .inl (cA_4, 40, .inr (.inr (.inr (.inr (fun _ => none)))))), (q_5, .inl (cA_6, 4, .inr (.inr (.inr (.inr (f_25)))))), (q_7, .inr (6, [.ref q_8, .int 0])), (q_8, .inl (cA_9, 1210, .inl (fun _ => 0))), (q_10, .inr (6, [.ref q_11, .int 0])), (q_11, .inl (cA_12, 1210, .inl (fun _ => 0))), (q_13, .inl (cA_14, 20, .inr (.inr (.inr (.inr (f9)))))), (q_18, .inl (cA_19, 1, .inl (fun _ => 0))), (q_17, .inr (10, [.ref q_18, .int 0])), (q_20, .inl (cA_21, 0, .inr (.inr (.inr (.inr (fun _ => none)))))), (q_16, .inr (8, [.ref q_17, .ref q_20, .long 0, .int 0]))] := ⟨_, hP, hD⟩
  refine lv_iinc (v := 3) (lv' := [(4, .int 3), (0, .ref h0), (1, .ref a_n), (2, .ref a_f), (3, .ref a_l)]) hx hb dX5_init_180 hl (k := 0) rfl (by decide) (by decide) rfl (fun ls hl => ?_)
  refine lv_goto (tgt := 156) hx hb dX5_init_183 (by decide) ?_
  refine lv_iload hx hb dX5_init_156 (lv_at hl 0 rfl) ?_
  refine lv_aload_n hx hb dX5_init_158 rfl (lv_at hl 1 rfl) ?_
  refine va_get (D := (dC, dI)) (ci := 5) (v := .ref q_13) (C := RX5) (T := TX5) (N := 17) hx hb hts (by decide +kernel) hown hK hP 0 rfl rfl 12 (by decide) (hts (.fieldLink RX5 39 "ProofBench$Proof" "kept" "[LProofBench$Thing;") (by decide +kernel)) (fun _ h9 => h9) rfl dX5_init_159 ?_
  refine va_alen hx hb hK hP 8 5 rfl rfl (v := 20) (show Int32.ofNat 20 = 20 from by decide) dX5_init_162 ?_
  refine lv_icmp_ge (tgt := 186) hx hb dX5_init_163 (by decide) (fun c9 => absurd c9 (by decide)) (fun _ => ?_)
  refine lv_aload_n hx hb dX5_init_166 rfl (lv_at hl 1 rfl) ?_
  refine va_get (D := (dC, dI)) (ci := 5) (v := .ref q_13) (C := RX5) (T := TX5) (N := 17) hx hb hts (by decide +kernel) hown hK hP 0 rfl rfl 12 (by decide) (hts (.fieldLink RX5 39 "ProofBench$Proof" "kept" "[LProofBench$Thing;") (by decide +kernel)) (fun _ h9 => h9) rfl dX5_init_167 ?_
  refine lv_iload hx hb dX5_init_170 (lv_at hl 0 rfl) ?_
  refine lv_aload_n hx hb dX5_init_172 rfl (lv_at hl 1 rfl) ?_
  refine va_get (D := (dC, dI)) (ci := 5) (v := .ref q_16) (C := RX5) (T := TX5) (N := 17) hx hb hts (by decide +kernel) hown hK hP 0 rfl rfl 7 (by decide) (hts (.fieldLink RX5 70 "ProofBench$Proof" "nothing" "LProofBench$Step;") (by decide +kernel)) (fun _ h9 => h9) rfl dX5_init_173 ?_
  refine va_get (D := (dC, dI)) (ci := 8) (v := .ref q_17) (C := RX8) (T := TX8) (N := 4) hx hb hts (by decide +kernel) hown hK hP 12 rfl rfl 0 (by decide) (hts (.fieldLink RX5 74 "ProofBench$Step" "shows" "LProofBench$Thing;") (by decide +kernel)) (fun _ h9 => h9) rfl dX5_init_176 ?_
  refine va_astq (r := (RX10, TX10, 2)) hx hb hK hP hD hS 8 5 10 10 rfl rfl rfl rfl (show vp_in (3) 20 from by unfold vp_in; decide) dX5_init_179 (fun H locs hP hD hS => ?_)
  obtain ⟨f_29, hP, hD⟩ : ∃ f9 : Nat → Option Nat, va_P (dC, dI) vwCl [(h0, .inr (5, [.ref a_n, .ref a_f, .ref a_l, .ref q_15, .ref q_1, .ref q_3, .ref q_5, .ref q_16, .ref q_7, .ref q_10, .int 0, .int 0, .ref q_13, .int 0, .int 0, .long 0, .int 0])), (q_1, .inl (cA_2, 300, .inr (.inr (.inr (.inr (fun _ => none)))))), (q_3, .inl (cA_4, 40, .inr (.inr (.inr (.inr (fun _ => none)))))), (q_5, .inl (cA_6, 4, .inr (.inr (.inr (.inr (f_25)))))), (q_7, .inr (6, [.ref q_8, .int 0])), (q_8, .inl (cA_9, 1210, .inl (fun _ => 0))), (q_10, .inr (6, [.ref q_11, .int 0])), (q_11, .inl (cA_12, 1210, .inl (fun _ => 0))), (q_13, .inl (cA_14, 20, .inr (.inr (.inr (.inr (f9)))))), (q_18, .inl (cA_19, 1, .inl (fun _ => 0))), (q_17, .inr (10, [.ref q_18, .int 0])), (q_20, .inl (cA_21, 0, .inr (.inr (.inr (.inr (fun _ => none)))))), (q_16, .inr (8, [.ref q_17, .ref q_20, .long 0, .int 0]))] H ∧ va_D A [(h0, .inr (5, [.ref a_n, .ref a_f, .ref a_l, .ref q_15, .ref q_1, .ref q_3, .ref q_5, .ref q_16, .ref q_7, .ref q_10, .int 0, .int 0, .ref q_13, .int 0, .int 0, .long 0, .int 0])), (q_1, .inl (cA_2, 300, .inr (.inr (.inr (.inr (fun _ => none)))))), (q_3, .inl (cA_4, 40, .inr (.inr (.inr (.inr (fun _ => none)))))), (q_5, .inl (cA_6, 4, .inr (.inr (.inr (.inr (f_25)))))), (q_7, .inr (6, [.ref q_8, .int 0])), (q_8, .inl (cA_9, 1210, .inl (fun _ => 0))), (q_10, .inr (6, [.ref q_11, .int 0])), (q_11, .inl (cA_12, 1210, .inl (fun _ => 0))), (q_13, .inl (cA_14, 20, .inr (.inr (.inr (.inr (f9)))))), (q_18, .inl (cA_19, 1, .inl (fun _ => 0))), (q_17, .inr (10, [.ref q_18, .int 0])), (q_20, .inl (cA_21, 0, .inr (.inr (.inr (.inr (fun _ => none)))))), (q_16, .inr (8, [.ref q_17, .ref q_20, .long 0, .int 0]))] := ⟨_, hP, hD⟩
  refine lv_iinc (v := 4) (lv' := [(4, .int 4), (0, .ref h0), (1, .ref a_n), (2, .ref a_f), (3, .ref a_l)]) hx hb dX5_init_180 hl (k := 0) rfl (by decide) (by decide) rfl (fun ls hl => ?_)
  refine lv_goto (tgt := 156) hx hb dX5_init_183 (by decide) ?_
  refine lv_iload hx hb dX5_init_156 (lv_at hl 0 rfl) ?_
  refine lv_aload_n hx hb dX5_init_158 rfl (lv_at hl 1 rfl) ?_
  refine va_get (D := (dC, dI)) (ci := 5) (v := .ref q_13) (C := RX5) (T := TX5) (N := 17) hx hb hts (by decide +kernel) hown hK hP 0 rfl rfl 12 (by decide) (hts (.fieldLink RX5 39 "ProofBench$Proof" "kept" "[LProofBench$Thing;") (by decide +kernel)) (fun _ h9 => h9) rfl dX5_init_159 ?_
  refine va_alen hx hb hK hP 8 5 rfl rfl (v := 20) (show Int32.ofNat 20 = 20 from by decide) dX5_init_162 ?_
  refine lv_icmp_ge (tgt := 186) hx hb dX5_init_163 (by decide) (fun c9 => absurd c9 (by decide)) (fun _ => ?_)
  refine lv_aload_n hx hb dX5_init_166 rfl (lv_at hl 1 rfl) ?_
  refine va_get (D := (dC, dI)) (ci := 5) (v := .ref q_13) (C := RX5) (T := TX5) (N := 17) hx hb hts (by decide +kernel) hown hK hP 0 rfl rfl 12 (by decide) (hts (.fieldLink RX5 39 "ProofBench$Proof" "kept" "[LProofBench$Thing;") (by decide +kernel)) (fun _ h9 => h9) rfl dX5_init_167 ?_
  refine lv_iload hx hb dX5_init_170 (lv_at hl 0 rfl) ?_
  refine lv_aload_n hx hb dX5_init_172 rfl (lv_at hl 1 rfl) ?_
  refine va_get (D := (dC, dI)) (ci := 5) (v := .ref q_16) (C := RX5) (T := TX5) (N := 17) hx hb hts (by decide +kernel) hown hK hP 0 rfl rfl 7 (by decide) (hts (.fieldLink RX5 70 "ProofBench$Proof" "nothing" "LProofBench$Step;") (by decide +kernel)) (fun _ h9 => h9) rfl dX5_init_173 ?_
  refine va_get (D := (dC, dI)) (ci := 8) (v := .ref q_17) (C := RX8) (T := TX8) (N := 4) hx hb hts (by decide +kernel) hown hK hP 12 rfl rfl 0 (by decide) (hts (.fieldLink RX5 74 "ProofBench$Step" "shows" "LProofBench$Thing;") (by decide +kernel)) (fun _ h9 => h9) rfl dX5_init_176 ?_
  refine va_astq (r := (RX10, TX10, 2)) hx hb hK hP hD hS 8 5 10 10 rfl rfl rfl rfl (show vp_in (4) 20 from by unfold vp_in; decide) dX5_init_179 (fun H locs hP hD hS => ?_)
  obtain ⟨f_30, hP, hD⟩ : ∃ f9 : Nat → Option Nat, va_P (dC, dI) vwCl [(h0, .inr (5, [.ref a_n, .ref a_f, .ref a_l, .ref q_15, .ref q_1, .ref q_3, .ref q_5, .ref q_16, .ref q_7, .ref q_10, .int 0, .int 0, .ref q_13, .int 0, .int 0, .long 0, .int 0])), (q_1, .inl (cA_2, 300, .inr (.inr (.inr (.inr (fun _ => none)))))), (q_3, .inl (cA_4, 40, .inr (.inr (.inr (.inr (fun _ => none)))))), (q_5, .inl (cA_6, 4, .inr (.inr (.inr (.inr (f_25)))))), (q_7, .inr (6, [.ref q_8, .int 0])), (q_8, .inl (cA_9, 1210, .inl (fun _ => 0))), (q_10, .inr (6, [.ref q_11, .int 0])), (q_11, .inl (cA_12, 1210, .inl (fun _ => 0))), (q_13, .inl (cA_14, 20, .inr (.inr (.inr (.inr (f9)))))), (q_18, .inl (cA_19, 1, .inl (fun _ => 0))), (q_17, .inr (10, [.ref q_18, .int 0])), (q_20, .inl (cA_21, 0, .inr (.inr (.inr (.inr (fun _ => none)))))), (q_16, .inr (8, [.ref q_17, .ref q_20, .long 0, .int 0]))] H ∧ va_D A [(h0, .inr (5, [.ref a_n, .ref a_f, .ref a_l, .ref q_15, .ref q_1, .ref q_3, .ref q_5, .ref q_16, .ref q_7, .ref q_10, .int 0, .int 0, .ref q_13, .int 0, .int 0, .long 0, .int 0])), (q_1, .inl (cA_2, 300, .inr (.inr (.inr (.inr (fun _ => none)))))), (q_3, .inl (cA_4, 40, .inr (.inr (.inr (.inr (fun _ => none)))))), (q_5, .inl (cA_6, 4, .inr (.inr (.inr (.inr (f_25)))))), (q_7, .inr (6, [.ref q_8, .int 0])), (q_8, .inl (cA_9, 1210, .inl (fun _ => 0))), (q_10, .inr (6, [.ref q_11, .int 0])), (q_11, .inl (cA_12, 1210, .inl (fun _ => 0))), (q_13, .inl (cA_14, 20, .inr (.inr (.inr (.inr (f9)))))), (q_18, .inl (cA_19, 1, .inl (fun _ => 0))), (q_17, .inr (10, [.ref q_18, .int 0])), (q_20, .inl (cA_21, 0, .inr (.inr (.inr (.inr (fun _ => none)))))), (q_16, .inr (8, [.ref q_17, .ref q_20, .long 0, .int 0]))] := ⟨_, hP, hD⟩
  refine lv_iinc (v := 5) (lv' := [(4, .int 5), (0, .ref h0), (1, .ref a_n), (2, .ref a_f), (3, .ref a_l)]) hx hb dX5_init_180 hl (k := 0) rfl (by decide) (by decide) rfl (fun ls hl => ?_)
  refine lv_goto (tgt := 156) hx hb dX5_init_183 (by decide) ?_
  refine lv_iload hx hb dX5_init_156 (lv_at hl 0 rfl) ?_
  refine lv_aload_n hx hb dX5_init_158 rfl (lv_at hl 1 rfl) ?_
  refine va_get (D := (dC, dI)) (ci := 5) (v := .ref q_13) (C := RX5) (T := TX5) (N := 17) hx hb hts (by decide +kernel) hown hK hP 0 rfl rfl 12 (by decide) (hts (.fieldLink RX5 39 "ProofBench$Proof" "kept" "[LProofBench$Thing;") (by decide +kernel)) (fun _ h9 => h9) rfl dX5_init_159 ?_
  refine va_alen hx hb hK hP 8 5 rfl rfl (v := 20) (show Int32.ofNat 20 = 20 from by decide) dX5_init_162 ?_
  refine lv_icmp_ge (tgt := 186) hx hb dX5_init_163 (by decide) (fun c9 => absurd c9 (by decide)) (fun _ => ?_)
  refine lv_aload_n hx hb dX5_init_166 rfl (lv_at hl 1 rfl) ?_
  refine va_get (D := (dC, dI)) (ci := 5) (v := .ref q_13) (C := RX5) (T := TX5) (N := 17) hx hb hts (by decide +kernel) hown hK hP 0 rfl rfl 12 (by decide) (hts (.fieldLink RX5 39 "ProofBench$Proof" "kept" "[LProofBench$Thing;") (by decide +kernel)) (fun _ h9 => h9) rfl dX5_init_167 ?_
  refine lv_iload hx hb dX5_init_170 (lv_at hl 0 rfl) ?_
  refine lv_aload_n hx hb dX5_init_172 rfl (lv_at hl 1 rfl) ?_
  refine va_get (D := (dC, dI)) (ci := 5) (v := .ref q_16) (C := RX5) (T := TX5) (N := 17) hx hb hts (by decide +kernel) hown hK hP 0 rfl rfl 7 (by decide) (hts (.fieldLink RX5 70 "ProofBench$Proof" "nothing" "LProofBench$Step;") (by decide +kernel)) (fun _ h9 => h9) rfl dX5_init_173 ?_
  refine va_get (D := (dC, dI)) (ci := 8) (v := .ref q_17) (C := RX8) (T := TX8) (N := 4) hx hb hts (by decide +kernel) hown hK hP 12 rfl rfl 0 (by decide) (hts (.fieldLink RX5 74 "ProofBench$Step" "shows" "LProofBench$Thing;") (by decide +kernel)) (fun _ h9 => h9) rfl dX5_init_176 ?_
  refine va_astq (r := (RX10, TX10, 2)) hx hb hK hP hD hS 8 5 10 10 rfl rfl rfl rfl (show vp_in (5) 20 from by unfold vp_in; decide) dX5_init_179 (fun H locs hP hD hS => ?_)
  obtain ⟨f_31, hP, hD⟩ : ∃ f9 : Nat → Option Nat, va_P (dC, dI) vwCl [(h0, .inr (5, [.ref a_n, .ref a_f, .ref a_l, .ref q_15, .ref q_1, .ref q_3, .ref q_5, .ref q_16, .ref q_7, .ref q_10, .int 0, .int 0, .ref q_13, .int 0, .int 0, .long 0, .int 0])), (q_1, .inl (cA_2, 300, .inr (.inr (.inr (.inr (fun _ => none)))))), (q_3, .inl (cA_4, 40, .inr (.inr (.inr (.inr (fun _ => none)))))), (q_5, .inl (cA_6, 4, .inr (.inr (.inr (.inr (f_25)))))), (q_7, .inr (6, [.ref q_8, .int 0])), (q_8, .inl (cA_9, 1210, .inl (fun _ => 0))), (q_10, .inr (6, [.ref q_11, .int 0])), (q_11, .inl (cA_12, 1210, .inl (fun _ => 0))), (q_13, .inl (cA_14, 20, .inr (.inr (.inr (.inr (f9)))))), (q_18, .inl (cA_19, 1, .inl (fun _ => 0))), (q_17, .inr (10, [.ref q_18, .int 0])), (q_20, .inl (cA_21, 0, .inr (.inr (.inr (.inr (fun _ => none)))))), (q_16, .inr (8, [.ref q_17, .ref q_20, .long 0, .int 0]))] H ∧ va_D A [(h0, .inr (5, [.ref a_n, .ref a_f, .ref a_l, .ref q_15, .ref q_1, .ref q_3, .ref q_5, .ref q_16, .ref q_7, .ref q_10, .int 0, .int 0, .ref q_13, .int 0, .int 0, .long 0, .int 0])), (q_1, .inl (cA_2, 300, .inr (.inr (.inr (.inr (fun _ => none)))))), (q_3, .inl (cA_4, 40, .inr (.inr (.inr (.inr (fun _ => none)))))), (q_5, .inl (cA_6, 4, .inr (.inr (.inr (.inr (f_25)))))), (q_7, .inr (6, [.ref q_8, .int 0])), (q_8, .inl (cA_9, 1210, .inl (fun _ => 0))), (q_10, .inr (6, [.ref q_11, .int 0])), (q_11, .inl (cA_12, 1210, .inl (fun _ => 0))), (q_13, .inl (cA_14, 20, .inr (.inr (.inr (.inr (f9)))))), (q_18, .inl (cA_19, 1, .inl (fun _ => 0))), (q_17, .inr (10, [.ref q_18, .int 0])), (q_20, .inl (cA_21, 0, .inr (.inr (.inr (.inr (fun _ => none)))))), (q_16, .inr (8, [.ref q_17, .ref q_20, .long 0, .int 0]))] := ⟨_, hP, hD⟩
  refine lv_iinc (v := 6) (lv' := [(4, .int 6), (0, .ref h0), (1, .ref a_n), (2, .ref a_f), (3, .ref a_l)]) hx hb dX5_init_180 hl (k := 0) rfl (by decide) (by decide) rfl (fun ls hl => ?_)
  refine lv_goto (tgt := 156) hx hb dX5_init_183 (by decide) ?_
  refine lv_iload hx hb dX5_init_156 (lv_at hl 0 rfl) ?_
  refine lv_aload_n hx hb dX5_init_158 rfl (lv_at hl 1 rfl) ?_
  refine va_get (D := (dC, dI)) (ci := 5) (v := .ref q_13) (C := RX5) (T := TX5) (N := 17) hx hb hts (by decide +kernel) hown hK hP 0 rfl rfl 12 (by decide) (hts (.fieldLink RX5 39 "ProofBench$Proof" "kept" "[LProofBench$Thing;") (by decide +kernel)) (fun _ h9 => h9) rfl dX5_init_159 ?_
  refine va_alen hx hb hK hP 8 5 rfl rfl (v := 20) (show Int32.ofNat 20 = 20 from by decide) dX5_init_162 ?_
  refine lv_icmp_ge (tgt := 186) hx hb dX5_init_163 (by decide) (fun c9 => absurd c9 (by decide)) (fun _ => ?_)
  refine lv_aload_n hx hb dX5_init_166 rfl (lv_at hl 1 rfl) ?_
  refine va_get (D := (dC, dI)) (ci := 5) (v := .ref q_13) (C := RX5) (T := TX5) (N := 17) hx hb hts (by decide +kernel) hown hK hP 0 rfl rfl 12 (by decide) (hts (.fieldLink RX5 39 "ProofBench$Proof" "kept" "[LProofBench$Thing;") (by decide +kernel)) (fun _ h9 => h9) rfl dX5_init_167 ?_
  refine lv_iload hx hb dX5_init_170 (lv_at hl 0 rfl) ?_
  refine lv_aload_n hx hb dX5_init_172 rfl (lv_at hl 1 rfl) ?_
  refine va_get (D := (dC, dI)) (ci := 5) (v := .ref q_16) (C := RX5) (T := TX5) (N := 17) hx hb hts (by decide +kernel) hown hK hP 0 rfl rfl 7 (by decide) (hts (.fieldLink RX5 70 "ProofBench$Proof" "nothing" "LProofBench$Step;") (by decide +kernel)) (fun _ h9 => h9) rfl dX5_init_173 ?_
  refine va_get (D := (dC, dI)) (ci := 8) (v := .ref q_17) (C := RX8) (T := TX8) (N := 4) hx hb hts (by decide +kernel) hown hK hP 12 rfl rfl 0 (by decide) (hts (.fieldLink RX5 74 "ProofBench$Step" "shows" "LProofBench$Thing;") (by decide +kernel)) (fun _ h9 => h9) rfl dX5_init_176 ?_
  refine va_astq (r := (RX10, TX10, 2)) hx hb hK hP hD hS 8 5 10 10 rfl rfl rfl rfl (show vp_in (6) 20 from by unfold vp_in; decide) dX5_init_179 (fun H locs hP hD hS => ?_)
  obtain ⟨f_32, hP, hD⟩ : ∃ f9 : Nat → Option Nat, va_P (dC, dI) vwCl [(h0, .inr (5, [.ref a_n, .ref a_f, .ref a_l, .ref q_15, .ref q_1, .ref q_3, .ref q_5, .ref q_16, .ref q_7, .ref q_10, .int 0, .int 0, .ref q_13, .int 0, .int 0, .long 0, .int 0])), (q_1, .inl (cA_2, 300, .inr (.inr (.inr (.inr (fun _ => none)))))), (q_3, .inl (cA_4, 40, .inr (.inr (.inr (.inr (fun _ => none)))))), (q_5, .inl (cA_6, 4, .inr (.inr (.inr (.inr (f_25)))))), (q_7, .inr (6, [.ref q_8, .int 0])), (q_8, .inl (cA_9, 1210, .inl (fun _ => 0))), (q_10, .inr (6, [.ref q_11, .int 0])), (q_11, .inl (cA_12, 1210, .inl (fun _ => 0))), (q_13, .inl (cA_14, 20, .inr (.inr (.inr (.inr (f9)))))), (q_18, .inl (cA_19, 1, .inl (fun _ => 0))), (q_17, .inr (10, [.ref q_18, .int 0])), (q_20, .inl (cA_21, 0, .inr (.inr (.inr (.inr (fun _ => none)))))), (q_16, .inr (8, [.ref q_17, .ref q_20, .long 0, .int 0]))] H ∧ va_D A [(h0, .inr (5, [.ref a_n, .ref a_f, .ref a_l, .ref q_15, .ref q_1, .ref q_3, .ref q_5, .ref q_16, .ref q_7, .ref q_10, .int 0, .int 0, .ref q_13, .int 0, .int 0, .long 0, .int 0])), (q_1, .inl (cA_2, 300, .inr (.inr (.inr (.inr (fun _ => none)))))), (q_3, .inl (cA_4, 40, .inr (.inr (.inr (.inr (fun _ => none)))))), (q_5, .inl (cA_6, 4, .inr (.inr (.inr (.inr (f_25)))))), (q_7, .inr (6, [.ref q_8, .int 0])), (q_8, .inl (cA_9, 1210, .inl (fun _ => 0))), (q_10, .inr (6, [.ref q_11, .int 0])), (q_11, .inl (cA_12, 1210, .inl (fun _ => 0))), (q_13, .inl (cA_14, 20, .inr (.inr (.inr (.inr (f9)))))), (q_18, .inl (cA_19, 1, .inl (fun _ => 0))), (q_17, .inr (10, [.ref q_18, .int 0])), (q_20, .inl (cA_21, 0, .inr (.inr (.inr (.inr (fun _ => none)))))), (q_16, .inr (8, [.ref q_17, .ref q_20, .long 0, .int 0]))] := ⟨_, hP, hD⟩
  refine lv_iinc (v := 7) (lv' := [(4, .int 7), (0, .ref h0), (1, .ref a_n), (2, .ref a_f), (3, .ref a_l)]) hx hb dX5_init_180 hl (k := 0) rfl (by decide) (by decide) rfl (fun ls hl => ?_)
  refine lv_goto (tgt := 156) hx hb dX5_init_183 (by decide) ?_
  refine lv_iload hx hb dX5_init_156 (lv_at hl 0 rfl) ?_
  refine lv_aload_n hx hb dX5_init_158 rfl (lv_at hl 1 rfl) ?_
  refine va_get (D := (dC, dI)) (ci := 5) (v := .ref q_13) (C := RX5) (T := TX5) (N := 17) hx hb hts (by decide +kernel) hown hK hP 0 rfl rfl 12 (by decide) (hts (.fieldLink RX5 39 "ProofBench$Proof" "kept" "[LProofBench$Thing;") (by decide +kernel)) (fun _ h9 => h9) rfl dX5_init_159 ?_
  refine va_alen hx hb hK hP 8 5 rfl rfl (v := 20) (show Int32.ofNat 20 = 20 from by decide) dX5_init_162 ?_
  refine lv_icmp_ge (tgt := 186) hx hb dX5_init_163 (by decide) (fun c9 => absurd c9 (by decide)) (fun _ => ?_)
  refine lv_aload_n hx hb dX5_init_166 rfl (lv_at hl 1 rfl) ?_
  refine va_get (D := (dC, dI)) (ci := 5) (v := .ref q_13) (C := RX5) (T := TX5) (N := 17) hx hb hts (by decide +kernel) hown hK hP 0 rfl rfl 12 (by decide) (hts (.fieldLink RX5 39 "ProofBench$Proof" "kept" "[LProofBench$Thing;") (by decide +kernel)) (fun _ h9 => h9) rfl dX5_init_167 ?_
  refine lv_iload hx hb dX5_init_170 (lv_at hl 0 rfl) ?_
  refine lv_aload_n hx hb dX5_init_172 rfl (lv_at hl 1 rfl) ?_
  refine va_get (D := (dC, dI)) (ci := 5) (v := .ref q_16) (C := RX5) (T := TX5) (N := 17) hx hb hts (by decide +kernel) hown hK hP 0 rfl rfl 7 (by decide) (hts (.fieldLink RX5 70 "ProofBench$Proof" "nothing" "LProofBench$Step;") (by decide +kernel)) (fun _ h9 => h9) rfl dX5_init_173 ?_
  refine va_get (D := (dC, dI)) (ci := 8) (v := .ref q_17) (C := RX8) (T := TX8) (N := 4) hx hb hts (by decide +kernel) hown hK hP 12 rfl rfl 0 (by decide) (hts (.fieldLink RX5 74 "ProofBench$Step" "shows" "LProofBench$Thing;") (by decide +kernel)) (fun _ h9 => h9) rfl dX5_init_176 ?_
  refine va_astq (r := (RX10, TX10, 2)) hx hb hK hP hD hS 8 5 10 10 rfl rfl rfl rfl (show vp_in (7) 20 from by unfold vp_in; decide) dX5_init_179 (fun H locs hP hD hS => ?_)
  obtain ⟨f_33, hP, hD⟩ : ∃ f9 : Nat → Option Nat, va_P (dC, dI) vwCl [(h0, .inr (5, [.ref a_n, .ref a_f, .ref a_l, .ref q_15, .ref q_1, .ref q_3, .ref q_5, .ref q_16, .ref q_7, .ref q_10, .int 0, .int 0, .ref q_13, .int 0, .int 0, .long 0, .int 0])), (q_1, .inl (cA_2, 300, .inr (.inr (.inr (.inr (fun _ => none)))))), (q_3, .inl (cA_4, 40, .inr (.inr (.inr (.inr (fun _ => none)))))), (q_5, .inl (cA_6, 4, .inr (.inr (.inr (.inr (f_25)))))), (q_7, .inr (6, [.ref q_8, .int 0])), (q_8, .inl (cA_9, 1210, .inl (fun _ => 0))), (q_10, .inr (6, [.ref q_11, .int 0])), (q_11, .inl (cA_12, 1210, .inl (fun _ => 0))), (q_13, .inl (cA_14, 20, .inr (.inr (.inr (.inr (f9)))))), (q_18, .inl (cA_19, 1, .inl (fun _ => 0))), (q_17, .inr (10, [.ref q_18, .int 0])), (q_20, .inl (cA_21, 0, .inr (.inr (.inr (.inr (fun _ => none)))))), (q_16, .inr (8, [.ref q_17, .ref q_20, .long 0, .int 0]))] H ∧ va_D A [(h0, .inr (5, [.ref a_n, .ref a_f, .ref a_l, .ref q_15, .ref q_1, .ref q_3, .ref q_5, .ref q_16, .ref q_7, .ref q_10, .int 0, .int 0, .ref q_13, .int 0, .int 0, .long 0, .int 0])), (q_1, .inl (cA_2, 300, .inr (.inr (.inr (.inr (fun _ => none)))))), (q_3, .inl (cA_4, 40, .inr (.inr (.inr (.inr (fun _ => none)))))), (q_5, .inl (cA_6, 4, .inr (.inr (.inr (.inr (f_25)))))), (q_7, .inr (6, [.ref q_8, .int 0])), (q_8, .inl (cA_9, 1210, .inl (fun _ => 0))), (q_10, .inr (6, [.ref q_11, .int 0])), (q_11, .inl (cA_12, 1210, .inl (fun _ => 0))), (q_13, .inl (cA_14, 20, .inr (.inr (.inr (.inr (f9)))))), (q_18, .inl (cA_19, 1, .inl (fun _ => 0))), (q_17, .inr (10, [.ref q_18, .int 0])), (q_20, .inl (cA_21, 0, .inr (.inr (.inr (.inr (fun _ => none)))))), (q_16, .inr (8, [.ref q_17, .ref q_20, .long 0, .int 0]))] := ⟨_, hP, hD⟩
  refine lv_iinc (v := 8) (lv' := [(4, .int 8), (0, .ref h0), (1, .ref a_n), (2, .ref a_f), (3, .ref a_l)]) hx hb dX5_init_180 hl (k := 0) rfl (by decide) (by decide) rfl (fun ls hl => ?_)
  refine lv_goto (tgt := 156) hx hb dX5_init_183 (by decide) ?_
  refine lv_iload hx hb dX5_init_156 (lv_at hl 0 rfl) ?_
  refine lv_aload_n hx hb dX5_init_158 rfl (lv_at hl 1 rfl) ?_
  refine va_get (D := (dC, dI)) (ci := 5) (v := .ref q_13) (C := RX5) (T := TX5) (N := 17) hx hb hts (by decide +kernel) hown hK hP 0 rfl rfl 12 (by decide) (hts (.fieldLink RX5 39 "ProofBench$Proof" "kept" "[LProofBench$Thing;") (by decide +kernel)) (fun _ h9 => h9) rfl dX5_init_159 ?_
  refine va_alen hx hb hK hP 8 5 rfl rfl (v := 20) (show Int32.ofNat 20 = 20 from by decide) dX5_init_162 ?_
  refine lv_icmp_ge (tgt := 186) hx hb dX5_init_163 (by decide) (fun c9 => absurd c9 (by decide)) (fun _ => ?_)
  refine lv_aload_n hx hb dX5_init_166 rfl (lv_at hl 1 rfl) ?_
  refine va_get (D := (dC, dI)) (ci := 5) (v := .ref q_13) (C := RX5) (T := TX5) (N := 17) hx hb hts (by decide +kernel) hown hK hP 0 rfl rfl 12 (by decide) (hts (.fieldLink RX5 39 "ProofBench$Proof" "kept" "[LProofBench$Thing;") (by decide +kernel)) (fun _ h9 => h9) rfl dX5_init_167 ?_
  refine lv_iload hx hb dX5_init_170 (lv_at hl 0 rfl) ?_
  refine lv_aload_n hx hb dX5_init_172 rfl (lv_at hl 1 rfl) ?_
  refine va_get (D := (dC, dI)) (ci := 5) (v := .ref q_16) (C := RX5) (T := TX5) (N := 17) hx hb hts (by decide +kernel) hown hK hP 0 rfl rfl 7 (by decide) (hts (.fieldLink RX5 70 "ProofBench$Proof" "nothing" "LProofBench$Step;") (by decide +kernel)) (fun _ h9 => h9) rfl dX5_init_173 ?_
  refine va_get (D := (dC, dI)) (ci := 8) (v := .ref q_17) (C := RX8) (T := TX8) (N := 4) hx hb hts (by decide +kernel) hown hK hP 12 rfl rfl 0 (by decide) (hts (.fieldLink RX5 74 "ProofBench$Step" "shows" "LProofBench$Thing;") (by decide +kernel)) (fun _ h9 => h9) rfl dX5_init_176 ?_
  refine va_astq (r := (RX10, TX10, 2)) hx hb hK hP hD hS 8 5 10 10 rfl rfl rfl rfl (show vp_in (8) 20 from by unfold vp_in; decide) dX5_init_179 (fun H locs hP hD hS => ?_)
  obtain ⟨f_34, hP, hD⟩ : ∃ f9 : Nat → Option Nat, va_P (dC, dI) vwCl [(h0, .inr (5, [.ref a_n, .ref a_f, .ref a_l, .ref q_15, .ref q_1, .ref q_3, .ref q_5, .ref q_16, .ref q_7, .ref q_10, .int 0, .int 0, .ref q_13, .int 0, .int 0, .long 0, .int 0])), (q_1, .inl (cA_2, 300, .inr (.inr (.inr (.inr (fun _ => none)))))), (q_3, .inl (cA_4, 40, .inr (.inr (.inr (.inr (fun _ => none)))))), (q_5, .inl (cA_6, 4, .inr (.inr (.inr (.inr (f_25)))))), (q_7, .inr (6, [.ref q_8, .int 0])), (q_8, .inl (cA_9, 1210, .inl (fun _ => 0))), (q_10, .inr (6, [.ref q_11, .int 0])), (q_11, .inl (cA_12, 1210, .inl (fun _ => 0))), (q_13, .inl (cA_14, 20, .inr (.inr (.inr (.inr (f9)))))), (q_18, .inl (cA_19, 1, .inl (fun _ => 0))), (q_17, .inr (10, [.ref q_18, .int 0])), (q_20, .inl (cA_21, 0, .inr (.inr (.inr (.inr (fun _ => none)))))), (q_16, .inr (8, [.ref q_17, .ref q_20, .long 0, .int 0]))] H ∧ va_D A [(h0, .inr (5, [.ref a_n, .ref a_f, .ref a_l, .ref q_15, .ref q_1, .ref q_3, .ref q_5, .ref q_16, .ref q_7, .ref q_10, .int 0, .int 0, .ref q_13, .int 0, .int 0, .long 0, .int 0])), (q_1, .inl (cA_2, 300, .inr (.inr (.inr (.inr (fun _ => none)))))), (q_3, .inl (cA_4, 40, .inr (.inr (.inr (.inr (fun _ => none)))))), (q_5, .inl (cA_6, 4, .inr (.inr (.inr (.inr (f_25)))))), (q_7, .inr (6, [.ref q_8, .int 0])), (q_8, .inl (cA_9, 1210, .inl (fun _ => 0))), (q_10, .inr (6, [.ref q_11, .int 0])), (q_11, .inl (cA_12, 1210, .inl (fun _ => 0))), (q_13, .inl (cA_14, 20, .inr (.inr (.inr (.inr (f9)))))), (q_18, .inl (cA_19, 1, .inl (fun _ => 0))), (q_17, .inr (10, [.ref q_18, .int 0])), (q_20, .inl (cA_21, 0, .inr (.inr (.inr (.inr (fun _ => none)))))), (q_16, .inr (8, [.ref q_17, .ref q_20, .long 0, .int 0]))] := ⟨_, hP, hD⟩
  refine lv_iinc (v := 9) (lv' := [(4, .int 9), (0, .ref h0), (1, .ref a_n), (2, .ref a_f), (3, .ref a_l)]) hx hb dX5_init_180 hl (k := 0) rfl (by decide) (by decide) rfl (fun ls hl => ?_)
  refine lv_goto (tgt := 156) hx hb dX5_init_183 (by decide) ?_
  refine lv_iload hx hb dX5_init_156 (lv_at hl 0 rfl) ?_
  refine lv_aload_n hx hb dX5_init_158 rfl (lv_at hl 1 rfl) ?_
  refine va_get (D := (dC, dI)) (ci := 5) (v := .ref q_13) (C := RX5) (T := TX5) (N := 17) hx hb hts (by decide +kernel) hown hK hP 0 rfl rfl 12 (by decide) (hts (.fieldLink RX5 39 "ProofBench$Proof" "kept" "[LProofBench$Thing;") (by decide +kernel)) (fun _ h9 => h9) rfl dX5_init_159 ?_
  refine va_alen hx hb hK hP 8 5 rfl rfl (v := 20) (show Int32.ofNat 20 = 20 from by decide) dX5_init_162 ?_
  refine lv_icmp_ge (tgt := 186) hx hb dX5_init_163 (by decide) (fun c9 => absurd c9 (by decide)) (fun _ => ?_)
  refine lv_aload_n hx hb dX5_init_166 rfl (lv_at hl 1 rfl) ?_
  refine va_get (D := (dC, dI)) (ci := 5) (v := .ref q_13) (C := RX5) (T := TX5) (N := 17) hx hb hts (by decide +kernel) hown hK hP 0 rfl rfl 12 (by decide) (hts (.fieldLink RX5 39 "ProofBench$Proof" "kept" "[LProofBench$Thing;") (by decide +kernel)) (fun _ h9 => h9) rfl dX5_init_167 ?_
  refine lv_iload hx hb dX5_init_170 (lv_at hl 0 rfl) ?_
  refine lv_aload_n hx hb dX5_init_172 rfl (lv_at hl 1 rfl) ?_
  refine va_get (D := (dC, dI)) (ci := 5) (v := .ref q_16) (C := RX5) (T := TX5) (N := 17) hx hb hts (by decide +kernel) hown hK hP 0 rfl rfl 7 (by decide) (hts (.fieldLink RX5 70 "ProofBench$Proof" "nothing" "LProofBench$Step;") (by decide +kernel)) (fun _ h9 => h9) rfl dX5_init_173 ?_
  refine va_get (D := (dC, dI)) (ci := 8) (v := .ref q_17) (C := RX8) (T := TX8) (N := 4) hx hb hts (by decide +kernel) hown hK hP 12 rfl rfl 0 (by decide) (hts (.fieldLink RX5 74 "ProofBench$Step" "shows" "LProofBench$Thing;") (by decide +kernel)) (fun _ h9 => h9) rfl dX5_init_176 ?_
  refine va_astq (r := (RX10, TX10, 2)) hx hb hK hP hD hS 8 5 10 10 rfl rfl rfl rfl (show vp_in (9) 20 from by unfold vp_in; decide) dX5_init_179 (fun H locs hP hD hS => ?_)
  obtain ⟨f_35, hP, hD⟩ : ∃ f9 : Nat → Option Nat, va_P (dC, dI) vwCl [(h0, .inr (5, [.ref a_n, .ref a_f, .ref a_l, .ref q_15, .ref q_1, .ref q_3, .ref q_5, .ref q_16, .ref q_7, .ref q_10, .int 0, .int 0, .ref q_13, .int 0, .int 0, .long 0, .int 0])), (q_1, .inl (cA_2, 300, .inr (.inr (.inr (.inr (fun _ => none)))))), (q_3, .inl (cA_4, 40, .inr (.inr (.inr (.inr (fun _ => none)))))), (q_5, .inl (cA_6, 4, .inr (.inr (.inr (.inr (f_25)))))), (q_7, .inr (6, [.ref q_8, .int 0])), (q_8, .inl (cA_9, 1210, .inl (fun _ => 0))), (q_10, .inr (6, [.ref q_11, .int 0])), (q_11, .inl (cA_12, 1210, .inl (fun _ => 0))), (q_13, .inl (cA_14, 20, .inr (.inr (.inr (.inr (f9)))))), (q_18, .inl (cA_19, 1, .inl (fun _ => 0))), (q_17, .inr (10, [.ref q_18, .int 0])), (q_20, .inl (cA_21, 0, .inr (.inr (.inr (.inr (fun _ => none)))))), (q_16, .inr (8, [.ref q_17, .ref q_20, .long 0, .int 0]))] H ∧ va_D A [(h0, .inr (5, [.ref a_n, .ref a_f, .ref a_l, .ref q_15, .ref q_1, .ref q_3, .ref q_5, .ref q_16, .ref q_7, .ref q_10, .int 0, .int 0, .ref q_13, .int 0, .int 0, .long 0, .int 0])), (q_1, .inl (cA_2, 300, .inr (.inr (.inr (.inr (fun _ => none)))))), (q_3, .inl (cA_4, 40, .inr (.inr (.inr (.inr (fun _ => none)))))), (q_5, .inl (cA_6, 4, .inr (.inr (.inr (.inr (f_25)))))), (q_7, .inr (6, [.ref q_8, .int 0])), (q_8, .inl (cA_9, 1210, .inl (fun _ => 0))), (q_10, .inr (6, [.ref q_11, .int 0])), (q_11, .inl (cA_12, 1210, .inl (fun _ => 0))), (q_13, .inl (cA_14, 20, .inr (.inr (.inr (.inr (f9)))))), (q_18, .inl (cA_19, 1, .inl (fun _ => 0))), (q_17, .inr (10, [.ref q_18, .int 0])), (q_20, .inl (cA_21, 0, .inr (.inr (.inr (.inr (fun _ => none)))))), (q_16, .inr (8, [.ref q_17, .ref q_20, .long 0, .int 0]))] := ⟨_, hP, hD⟩
  refine lv_iinc (v := 10) (lv' := [(4, .int 10), (0, .ref h0), (1, .ref a_n), (2, .ref a_f), (3, .ref a_l)]) hx hb dX5_init_180 hl (k := 0) rfl (by decide) (by decide) rfl (fun ls hl => ?_)
  refine lv_goto (tgt := 156) hx hb dX5_init_183 (by decide) ?_
  refine lv_iload hx hb dX5_init_156 (lv_at hl 0 rfl) ?_
  refine lv_aload_n hx hb dX5_init_158 rfl (lv_at hl 1 rfl) ?_
  refine va_get (D := (dC, dI)) (ci := 5) (v := .ref q_13) (C := RX5) (T := TX5) (N := 17) hx hb hts (by decide +kernel) hown hK hP 0 rfl rfl 12 (by decide) (hts (.fieldLink RX5 39 "ProofBench$Proof" "kept" "[LProofBench$Thing;") (by decide +kernel)) (fun _ h9 => h9) rfl dX5_init_159 ?_
  refine va_alen hx hb hK hP 8 5 rfl rfl (v := 20) (show Int32.ofNat 20 = 20 from by decide) dX5_init_162 ?_
  refine lv_icmp_ge (tgt := 186) hx hb dX5_init_163 (by decide) (fun c9 => absurd c9 (by decide)) (fun _ => ?_)
  refine lv_aload_n hx hb dX5_init_166 rfl (lv_at hl 1 rfl) ?_
  refine va_get (D := (dC, dI)) (ci := 5) (v := .ref q_13) (C := RX5) (T := TX5) (N := 17) hx hb hts (by decide +kernel) hown hK hP 0 rfl rfl 12 (by decide) (hts (.fieldLink RX5 39 "ProofBench$Proof" "kept" "[LProofBench$Thing;") (by decide +kernel)) (fun _ h9 => h9) rfl dX5_init_167 ?_
  refine lv_iload hx hb dX5_init_170 (lv_at hl 0 rfl) ?_
  refine lv_aload_n hx hb dX5_init_172 rfl (lv_at hl 1 rfl) ?_
  refine va_get (D := (dC, dI)) (ci := 5) (v := .ref q_16) (C := RX5) (T := TX5) (N := 17) hx hb hts (by decide +kernel) hown hK hP 0 rfl rfl 7 (by decide) (hts (.fieldLink RX5 70 "ProofBench$Proof" "nothing" "LProofBench$Step;") (by decide +kernel)) (fun _ h9 => h9) rfl dX5_init_173 ?_
  refine va_get (D := (dC, dI)) (ci := 8) (v := .ref q_17) (C := RX8) (T := TX8) (N := 4) hx hb hts (by decide +kernel) hown hK hP 12 rfl rfl 0 (by decide) (hts (.fieldLink RX5 74 "ProofBench$Step" "shows" "LProofBench$Thing;") (by decide +kernel)) (fun _ h9 => h9) rfl dX5_init_176 ?_
  refine va_astq (r := (RX10, TX10, 2)) hx hb hK hP hD hS 8 5 10 10 rfl rfl rfl rfl (show vp_in (10) 20 from by unfold vp_in; decide) dX5_init_179 (fun H locs hP hD hS => ?_)
  obtain ⟨f_36, hP, hD⟩ : ∃ f9 : Nat → Option Nat, va_P (dC, dI) vwCl [(h0, .inr (5, [.ref a_n, .ref a_f, .ref a_l, .ref q_15, .ref q_1, .ref q_3, .ref q_5, .ref q_16, .ref q_7, .ref q_10, .int 0, .int 0, .ref q_13, .int 0, .int 0, .long 0, .int 0])), (q_1, .inl (cA_2, 300, .inr (.inr (.inr (.inr (fun _ => none)))))), (q_3, .inl (cA_4, 40, .inr (.inr (.inr (.inr (fun _ => none)))))), (q_5, .inl (cA_6, 4, .inr (.inr (.inr (.inr (f_25)))))), (q_7, .inr (6, [.ref q_8, .int 0])), (q_8, .inl (cA_9, 1210, .inl (fun _ => 0))), (q_10, .inr (6, [.ref q_11, .int 0])), (q_11, .inl (cA_12, 1210, .inl (fun _ => 0))), (q_13, .inl (cA_14, 20, .inr (.inr (.inr (.inr (f9)))))), (q_18, .inl (cA_19, 1, .inl (fun _ => 0))), (q_17, .inr (10, [.ref q_18, .int 0])), (q_20, .inl (cA_21, 0, .inr (.inr (.inr (.inr (fun _ => none)))))), (q_16, .inr (8, [.ref q_17, .ref q_20, .long 0, .int 0]))] H ∧ va_D A [(h0, .inr (5, [.ref a_n, .ref a_f, .ref a_l, .ref q_15, .ref q_1, .ref q_3, .ref q_5, .ref q_16, .ref q_7, .ref q_10, .int 0, .int 0, .ref q_13, .int 0, .int 0, .long 0, .int 0])), (q_1, .inl (cA_2, 300, .inr (.inr (.inr (.inr (fun _ => none)))))), (q_3, .inl (cA_4, 40, .inr (.inr (.inr (.inr (fun _ => none)))))), (q_5, .inl (cA_6, 4, .inr (.inr (.inr (.inr (f_25)))))), (q_7, .inr (6, [.ref q_8, .int 0])), (q_8, .inl (cA_9, 1210, .inl (fun _ => 0))), (q_10, .inr (6, [.ref q_11, .int 0])), (q_11, .inl (cA_12, 1210, .inl (fun _ => 0))), (q_13, .inl (cA_14, 20, .inr (.inr (.inr (.inr (f9)))))), (q_18, .inl (cA_19, 1, .inl (fun _ => 0))), (q_17, .inr (10, [.ref q_18, .int 0])), (q_20, .inl (cA_21, 0, .inr (.inr (.inr (.inr (fun _ => none)))))), (q_16, .inr (8, [.ref q_17, .ref q_20, .long 0, .int 0]))] := ⟨_, hP, hD⟩
  refine lv_iinc (v := 11) (lv' := [(4, .int 11), (0, .ref h0), (1, .ref a_n), (2, .ref a_f), (3, .ref a_l)]) hx hb dX5_init_180 hl (k := 0) rfl (by decide) (by decide) rfl (fun ls hl => ?_)
  refine lv_goto (tgt := 156) hx hb dX5_init_183 (by decide) ?_
  refine lv_iload hx hb dX5_init_156 (lv_at hl 0 rfl) ?_
  refine lv_aload_n hx hb dX5_init_158 rfl (lv_at hl 1 rfl) ?_
  refine va_get (D := (dC, dI)) (ci := 5) (v := .ref q_13) (C := RX5) (T := TX5) (N := 17) hx hb hts (by decide +kernel) hown hK hP 0 rfl rfl 12 (by decide) (hts (.fieldLink RX5 39 "ProofBench$Proof" "kept" "[LProofBench$Thing;") (by decide +kernel)) (fun _ h9 => h9) rfl dX5_init_159 ?_
  refine va_alen hx hb hK hP 8 5 rfl rfl (v := 20) (show Int32.ofNat 20 = 20 from by decide) dX5_init_162 ?_
  refine lv_icmp_ge (tgt := 186) hx hb dX5_init_163 (by decide) (fun c9 => absurd c9 (by decide)) (fun _ => ?_)
  refine lv_aload_n hx hb dX5_init_166 rfl (lv_at hl 1 rfl) ?_
  refine va_get (D := (dC, dI)) (ci := 5) (v := .ref q_13) (C := RX5) (T := TX5) (N := 17) hx hb hts (by decide +kernel) hown hK hP 0 rfl rfl 12 (by decide) (hts (.fieldLink RX5 39 "ProofBench$Proof" "kept" "[LProofBench$Thing;") (by decide +kernel)) (fun _ h9 => h9) rfl dX5_init_167 ?_
  refine lv_iload hx hb dX5_init_170 (lv_at hl 0 rfl) ?_
  refine lv_aload_n hx hb dX5_init_172 rfl (lv_at hl 1 rfl) ?_
  refine va_get (D := (dC, dI)) (ci := 5) (v := .ref q_16) (C := RX5) (T := TX5) (N := 17) hx hb hts (by decide +kernel) hown hK hP 0 rfl rfl 7 (by decide) (hts (.fieldLink RX5 70 "ProofBench$Proof" "nothing" "LProofBench$Step;") (by decide +kernel)) (fun _ h9 => h9) rfl dX5_init_173 ?_
  refine va_get (D := (dC, dI)) (ci := 8) (v := .ref q_17) (C := RX8) (T := TX8) (N := 4) hx hb hts (by decide +kernel) hown hK hP 12 rfl rfl 0 (by decide) (hts (.fieldLink RX5 74 "ProofBench$Step" "shows" "LProofBench$Thing;") (by decide +kernel)) (fun _ h9 => h9) rfl dX5_init_176 ?_
  refine va_astq (r := (RX10, TX10, 2)) hx hb hK hP hD hS 8 5 10 10 rfl rfl rfl rfl (show vp_in (11) 20 from by unfold vp_in; decide) dX5_init_179 (fun H locs hP hD hS => ?_)
  obtain ⟨f_37, hP, hD⟩ : ∃ f9 : Nat → Option Nat, va_P (dC, dI) vwCl [(h0, .inr (5, [.ref a_n, .ref a_f, .ref a_l, .ref q_15, .ref q_1, .ref q_3, .ref q_5, .ref q_16, .ref q_7, .ref q_10, .int 0, .int 0, .ref q_13, .int 0, .int 0, .long 0, .int 0])), (q_1, .inl (cA_2, 300, .inr (.inr (.inr (.inr (fun _ => none)))))), (q_3, .inl (cA_4, 40, .inr (.inr (.inr (.inr (fun _ => none)))))), (q_5, .inl (cA_6, 4, .inr (.inr (.inr (.inr (f_25)))))), (q_7, .inr (6, [.ref q_8, .int 0])), (q_8, .inl (cA_9, 1210, .inl (fun _ => 0))), (q_10, .inr (6, [.ref q_11, .int 0])), (q_11, .inl (cA_12, 1210, .inl (fun _ => 0))), (q_13, .inl (cA_14, 20, .inr (.inr (.inr (.inr (f9)))))), (q_18, .inl (cA_19, 1, .inl (fun _ => 0))), (q_17, .inr (10, [.ref q_18, .int 0])), (q_20, .inl (cA_21, 0, .inr (.inr (.inr (.inr (fun _ => none)))))), (q_16, .inr (8, [.ref q_17, .ref q_20, .long 0, .int 0]))] H ∧ va_D A [(h0, .inr (5, [.ref a_n, .ref a_f, .ref a_l, .ref q_15, .ref q_1, .ref q_3, .ref q_5, .ref q_16, .ref q_7, .ref q_10, .int 0, .int 0, .ref q_13, .int 0, .int 0, .long 0, .int 0])), (q_1, .inl (cA_2, 300, .inr (.inr (.inr (.inr (fun _ => none)))))), (q_3, .inl (cA_4, 40, .inr (.inr (.inr (.inr (fun _ => none)))))), (q_5, .inl (cA_6, 4, .inr (.inr (.inr (.inr (f_25)))))), (q_7, .inr (6, [.ref q_8, .int 0])), (q_8, .inl (cA_9, 1210, .inl (fun _ => 0))), (q_10, .inr (6, [.ref q_11, .int 0])), (q_11, .inl (cA_12, 1210, .inl (fun _ => 0))), (q_13, .inl (cA_14, 20, .inr (.inr (.inr (.inr (f9)))))), (q_18, .inl (cA_19, 1, .inl (fun _ => 0))), (q_17, .inr (10, [.ref q_18, .int 0])), (q_20, .inl (cA_21, 0, .inr (.inr (.inr (.inr (fun _ => none)))))), (q_16, .inr (8, [.ref q_17, .ref q_20, .long 0, .int 0]))] := ⟨_, hP, hD⟩
  refine lv_iinc (v := 12) (lv' := [(4, .int 12), (0, .ref h0), (1, .ref a_n), (2, .ref a_f), (3, .ref a_l)]) hx hb dX5_init_180 hl (k := 0) rfl (by decide) (by decide) rfl (fun ls hl => ?_)
  refine lv_goto (tgt := 156) hx hb dX5_init_183 (by decide) ?_
  refine lv_iload hx hb dX5_init_156 (lv_at hl 0 rfl) ?_
  refine lv_aload_n hx hb dX5_init_158 rfl (lv_at hl 1 rfl) ?_
  refine va_get (D := (dC, dI)) (ci := 5) (v := .ref q_13) (C := RX5) (T := TX5) (N := 17) hx hb hts (by decide +kernel) hown hK hP 0 rfl rfl 12 (by decide) (hts (.fieldLink RX5 39 "ProofBench$Proof" "kept" "[LProofBench$Thing;") (by decide +kernel)) (fun _ h9 => h9) rfl dX5_init_159 ?_
  refine va_alen hx hb hK hP 8 5 rfl rfl (v := 20) (show Int32.ofNat 20 = 20 from by decide) dX5_init_162 ?_
  refine lv_icmp_ge (tgt := 186) hx hb dX5_init_163 (by decide) (fun c9 => absurd c9 (by decide)) (fun _ => ?_)
  refine lv_aload_n hx hb dX5_init_166 rfl (lv_at hl 1 rfl) ?_
  refine va_get (D := (dC, dI)) (ci := 5) (v := .ref q_13) (C := RX5) (T := TX5) (N := 17) hx hb hts (by decide +kernel) hown hK hP 0 rfl rfl 12 (by decide) (hts (.fieldLink RX5 39 "ProofBench$Proof" "kept" "[LProofBench$Thing;") (by decide +kernel)) (fun _ h9 => h9) rfl dX5_init_167 ?_
  refine lv_iload hx hb dX5_init_170 (lv_at hl 0 rfl) ?_
  refine lv_aload_n hx hb dX5_init_172 rfl (lv_at hl 1 rfl) ?_
  refine va_get (D := (dC, dI)) (ci := 5) (v := .ref q_16) (C := RX5) (T := TX5) (N := 17) hx hb hts (by decide +kernel) hown hK hP 0 rfl rfl 7 (by decide) (hts (.fieldLink RX5 70 "ProofBench$Proof" "nothing" "LProofBench$Step;") (by decide +kernel)) (fun _ h9 => h9) rfl dX5_init_173 ?_
  refine va_get (D := (dC, dI)) (ci := 8) (v := .ref q_17) (C := RX8) (T := TX8) (N := 4) hx hb hts (by decide +kernel) hown hK hP 12 rfl rfl 0 (by decide) (hts (.fieldLink RX5 74 "ProofBench$Step" "shows" "LProofBench$Thing;") (by decide +kernel)) (fun _ h9 => h9) rfl dX5_init_176 ?_
  refine va_astq (r := (RX10, TX10, 2)) hx hb hK hP hD hS 8 5 10 10 rfl rfl rfl rfl (show vp_in (12) 20 from by unfold vp_in; decide) dX5_init_179 (fun H locs hP hD hS => ?_)
  obtain ⟨f_38, hP, hD⟩ : ∃ f9 : Nat → Option Nat, va_P (dC, dI) vwCl [(h0, .inr (5, [.ref a_n, .ref a_f, .ref a_l, .ref q_15, .ref q_1, .ref q_3, .ref q_5, .ref q_16, .ref q_7, .ref q_10, .int 0, .int 0, .ref q_13, .int 0, .int 0, .long 0, .int 0])), (q_1, .inl (cA_2, 300, .inr (.inr (.inr (.inr (fun _ => none)))))), (q_3, .inl (cA_4, 40, .inr (.inr (.inr (.inr (fun _ => none)))))), (q_5, .inl (cA_6, 4, .inr (.inr (.inr (.inr (f_25)))))), (q_7, .inr (6, [.ref q_8, .int 0])), (q_8, .inl (cA_9, 1210, .inl (fun _ => 0))), (q_10, .inr (6, [.ref q_11, .int 0])), (q_11, .inl (cA_12, 1210, .inl (fun _ => 0))), (q_13, .inl (cA_14, 20, .inr (.inr (.inr (.inr (f9)))))), (q_18, .inl (cA_19, 1, .inl (fun _ => 0))), (q_17, .inr (10, [.ref q_18, .int 0])), (q_20, .inl (cA_21, 0, .inr (.inr (.inr (.inr (fun _ => none)))))), (q_16, .inr (8, [.ref q_17, .ref q_20, .long 0, .int 0]))] H ∧ va_D A [(h0, .inr (5, [.ref a_n, .ref a_f, .ref a_l, .ref q_15, .ref q_1, .ref q_3, .ref q_5, .ref q_16, .ref q_7, .ref q_10, .int 0, .int 0, .ref q_13, .int 0, .int 0, .long 0, .int 0])), (q_1, .inl (cA_2, 300, .inr (.inr (.inr (.inr (fun _ => none)))))), (q_3, .inl (cA_4, 40, .inr (.inr (.inr (.inr (fun _ => none)))))), (q_5, .inl (cA_6, 4, .inr (.inr (.inr (.inr (f_25)))))), (q_7, .inr (6, [.ref q_8, .int 0])), (q_8, .inl (cA_9, 1210, .inl (fun _ => 0))), (q_10, .inr (6, [.ref q_11, .int 0])), (q_11, .inl (cA_12, 1210, .inl (fun _ => 0))), (q_13, .inl (cA_14, 20, .inr (.inr (.inr (.inr (f9)))))), (q_18, .inl (cA_19, 1, .inl (fun _ => 0))), (q_17, .inr (10, [.ref q_18, .int 0])), (q_20, .inl (cA_21, 0, .inr (.inr (.inr (.inr (fun _ => none)))))), (q_16, .inr (8, [.ref q_17, .ref q_20, .long 0, .int 0]))] := ⟨_, hP, hD⟩
  refine lv_iinc (v := 13) (lv' := [(4, .int 13), (0, .ref h0), (1, .ref a_n), (2, .ref a_f), (3, .ref a_l)]) hx hb dX5_init_180 hl (k := 0) rfl (by decide) (by decide) rfl (fun ls hl => ?_)
  refine lv_goto (tgt := 156) hx hb dX5_init_183 (by decide) ?_
  refine lv_iload hx hb dX5_init_156 (lv_at hl 0 rfl) ?_
  refine lv_aload_n hx hb dX5_init_158 rfl (lv_at hl 1 rfl) ?_
  refine va_get (D := (dC, dI)) (ci := 5) (v := .ref q_13) (C := RX5) (T := TX5) (N := 17) hx hb hts (by decide +kernel) hown hK hP 0 rfl rfl 12 (by decide) (hts (.fieldLink RX5 39 "ProofBench$Proof" "kept" "[LProofBench$Thing;") (by decide +kernel)) (fun _ h9 => h9) rfl dX5_init_159 ?_
  refine va_alen hx hb hK hP 8 5 rfl rfl (v := 20) (show Int32.ofNat 20 = 20 from by decide) dX5_init_162 ?_
  refine lv_icmp_ge (tgt := 186) hx hb dX5_init_163 (by decide) (fun c9 => absurd c9 (by decide)) (fun _ => ?_)
  refine lv_aload_n hx hb dX5_init_166 rfl (lv_at hl 1 rfl) ?_
  refine va_get (D := (dC, dI)) (ci := 5) (v := .ref q_13) (C := RX5) (T := TX5) (N := 17) hx hb hts (by decide +kernel) hown hK hP 0 rfl rfl 12 (by decide) (hts (.fieldLink RX5 39 "ProofBench$Proof" "kept" "[LProofBench$Thing;") (by decide +kernel)) (fun _ h9 => h9) rfl dX5_init_167 ?_
  refine lv_iload hx hb dX5_init_170 (lv_at hl 0 rfl) ?_
  refine lv_aload_n hx hb dX5_init_172 rfl (lv_at hl 1 rfl) ?_
  refine va_get (D := (dC, dI)) (ci := 5) (v := .ref q_16) (C := RX5) (T := TX5) (N := 17) hx hb hts (by decide +kernel) hown hK hP 0 rfl rfl 7 (by decide) (hts (.fieldLink RX5 70 "ProofBench$Proof" "nothing" "LProofBench$Step;") (by decide +kernel)) (fun _ h9 => h9) rfl dX5_init_173 ?_
  refine va_get (D := (dC, dI)) (ci := 8) (v := .ref q_17) (C := RX8) (T := TX8) (N := 4) hx hb hts (by decide +kernel) hown hK hP 12 rfl rfl 0 (by decide) (hts (.fieldLink RX5 74 "ProofBench$Step" "shows" "LProofBench$Thing;") (by decide +kernel)) (fun _ h9 => h9) rfl dX5_init_176 ?_
  refine va_astq (r := (RX10, TX10, 2)) hx hb hK hP hD hS 8 5 10 10 rfl rfl rfl rfl (show vp_in (13) 20 from by unfold vp_in; decide) dX5_init_179 (fun H locs hP hD hS => ?_)
  obtain ⟨f_39, hP, hD⟩ : ∃ f9 : Nat → Option Nat, va_P (dC, dI) vwCl [(h0, .inr (5, [.ref a_n, .ref a_f, .ref a_l, .ref q_15, .ref q_1, .ref q_3, .ref q_5, .ref q_16, .ref q_7, .ref q_10, .int 0, .int 0, .ref q_13, .int 0, .int 0, .long 0, .int 0])), (q_1, .inl (cA_2, 300, .inr (.inr (.inr (.inr (fun _ => none)))))), (q_3, .inl (cA_4, 40, .inr (.inr (.inr (.inr (fun _ => none)))))), (q_5, .inl (cA_6, 4, .inr (.inr (.inr (.inr (f_25)))))), (q_7, .inr (6, [.ref q_8, .int 0])), (q_8, .inl (cA_9, 1210, .inl (fun _ => 0))), (q_10, .inr (6, [.ref q_11, .int 0])), (q_11, .inl (cA_12, 1210, .inl (fun _ => 0))), (q_13, .inl (cA_14, 20, .inr (.inr (.inr (.inr (f9)))))), (q_18, .inl (cA_19, 1, .inl (fun _ => 0))), (q_17, .inr (10, [.ref q_18, .int 0])), (q_20, .inl (cA_21, 0, .inr (.inr (.inr (.inr (fun _ => none)))))), (q_16, .inr (8, [.ref q_17, .ref q_20, .long 0, .int 0]))] H ∧ va_D A [(h0, .inr (5, [.ref a_n, .ref a_f, .ref a_l, .ref q_15, .ref q_1, .ref q_3, .ref q_5, .ref q_16, .ref q_7, .ref q_10, .int 0, .int 0, .ref q_13, .int 0, .int 0, .long 0, .int 0])), (q_1, .inl (cA_2, 300, .inr (.inr (.inr (.inr (fun _ => none)))))), (q_3, .inl (cA_4, 40, .inr (.inr (.inr (.inr (fun _ => none)))))), (q_5, .inl (cA_6, 4, .inr (.inr (.inr (.inr (f_25)))))), (q_7, .inr (6, [.ref q_8, .int 0])), (q_8, .inl (cA_9, 1210, .inl (fun _ => 0))), (q_10, .inr (6, [.ref q_11, .int 0])), (q_11, .inl (cA_12, 1210, .inl (fun _ => 0))), (q_13, .inl (cA_14, 20, .inr (.inr (.inr (.inr (f9)))))), (q_18, .inl (cA_19, 1, .inl (fun _ => 0))), (q_17, .inr (10, [.ref q_18, .int 0])), (q_20, .inl (cA_21, 0, .inr (.inr (.inr (.inr (fun _ => none)))))), (q_16, .inr (8, [.ref q_17, .ref q_20, .long 0, .int 0]))] := ⟨_, hP, hD⟩
  refine lv_iinc (v := 14) (lv' := [(4, .int 14), (0, .ref h0), (1, .ref a_n), (2, .ref a_f), (3, .ref a_l)]) hx hb dX5_init_180 hl (k := 0) rfl (by decide) (by decide) rfl (fun ls hl => ?_)
  refine lv_goto (tgt := 156) hx hb dX5_init_183 (by decide) ?_
  refine lv_iload hx hb dX5_init_156 (lv_at hl 0 rfl) ?_
  refine lv_aload_n hx hb dX5_init_158 rfl (lv_at hl 1 rfl) ?_
  refine va_get (D := (dC, dI)) (ci := 5) (v := .ref q_13) (C := RX5) (T := TX5) (N := 17) hx hb hts (by decide +kernel) hown hK hP 0 rfl rfl 12 (by decide) (hts (.fieldLink RX5 39 "ProofBench$Proof" "kept" "[LProofBench$Thing;") (by decide +kernel)) (fun _ h9 => h9) rfl dX5_init_159 ?_
  refine va_alen hx hb hK hP 8 5 rfl rfl (v := 20) (show Int32.ofNat 20 = 20 from by decide) dX5_init_162 ?_
  refine lv_icmp_ge (tgt := 186) hx hb dX5_init_163 (by decide) (fun c9 => absurd c9 (by decide)) (fun _ => ?_)
  refine lv_aload_n hx hb dX5_init_166 rfl (lv_at hl 1 rfl) ?_
  refine va_get (D := (dC, dI)) (ci := 5) (v := .ref q_13) (C := RX5) (T := TX5) (N := 17) hx hb hts (by decide +kernel) hown hK hP 0 rfl rfl 12 (by decide) (hts (.fieldLink RX5 39 "ProofBench$Proof" "kept" "[LProofBench$Thing;") (by decide +kernel)) (fun _ h9 => h9) rfl dX5_init_167 ?_
  refine lv_iload hx hb dX5_init_170 (lv_at hl 0 rfl) ?_
  refine lv_aload_n hx hb dX5_init_172 rfl (lv_at hl 1 rfl) ?_
  refine va_get (D := (dC, dI)) (ci := 5) (v := .ref q_16) (C := RX5) (T := TX5) (N := 17) hx hb hts (by decide +kernel) hown hK hP 0 rfl rfl 7 (by decide) (hts (.fieldLink RX5 70 "ProofBench$Proof" "nothing" "LProofBench$Step;") (by decide +kernel)) (fun _ h9 => h9) rfl dX5_init_173 ?_
  refine va_get (D := (dC, dI)) (ci := 8) (v := .ref q_17) (C := RX8) (T := TX8) (N := 4) hx hb hts (by decide +kernel) hown hK hP 12 rfl rfl 0 (by decide) (hts (.fieldLink RX5 74 "ProofBench$Step" "shows" "LProofBench$Thing;") (by decide +kernel)) (fun _ h9 => h9) rfl dX5_init_176 ?_
  refine va_astq (r := (RX10, TX10, 2)) hx hb hK hP hD hS 8 5 10 10 rfl rfl rfl rfl (show vp_in (14) 20 from by unfold vp_in; decide) dX5_init_179 (fun H locs hP hD hS => ?_)
  obtain ⟨f_40, hP, hD⟩ : ∃ f9 : Nat → Option Nat, va_P (dC, dI) vwCl [(h0, .inr (5, [.ref a_n, .ref a_f, .ref a_l, .ref q_15, .ref q_1, .ref q_3, .ref q_5, .ref q_16, .ref q_7, .ref q_10, .int 0, .int 0, .ref q_13, .int 0, .int 0, .long 0, .int 0])), (q_1, .inl (cA_2, 300, .inr (.inr (.inr (.inr (fun _ => none)))))), (q_3, .inl (cA_4, 40, .inr (.inr (.inr (.inr (fun _ => none)))))), (q_5, .inl (cA_6, 4, .inr (.inr (.inr (.inr (f_25)))))), (q_7, .inr (6, [.ref q_8, .int 0])), (q_8, .inl (cA_9, 1210, .inl (fun _ => 0))), (q_10, .inr (6, [.ref q_11, .int 0])), (q_11, .inl (cA_12, 1210, .inl (fun _ => 0))), (q_13, .inl (cA_14, 20, .inr (.inr (.inr (.inr (f9)))))), (q_18, .inl (cA_19, 1, .inl (fun _ => 0))), (q_17, .inr (10, [.ref q_18, .int 0])), (q_20, .inl (cA_21, 0, .inr (.inr (.inr (.inr (fun _ => none)))))), (q_16, .inr (8, [.ref q_17, .ref q_20, .long 0, .int 0]))] H ∧ va_D A [(h0, .inr (5, [.ref a_n, .ref a_f, .ref a_l, .ref q_15, .ref q_1, .ref q_3, .ref q_5, .ref q_16, .ref q_7, .ref q_10, .int 0, .int 0, .ref q_13, .int 0, .int 0, .long 0, .int 0])), (q_1, .inl (cA_2, 300, .inr (.inr (.inr (.inr (fun _ => none)))))), (q_3, .inl (cA_4, 40, .inr (.inr (.inr (.inr (fun _ => none)))))), (q_5, .inl (cA_6, 4, .inr (.inr (.inr (.inr (f_25)))))), (q_7, .inr (6, [.ref q_8, .int 0])), (q_8, .inl (cA_9, 1210, .inl (fun _ => 0))), (q_10, .inr (6, [.ref q_11, .int 0])), (q_11, .inl (cA_12, 1210, .inl (fun _ => 0))), (q_13, .inl (cA_14, 20, .inr (.inr (.inr (.inr (f9)))))), (q_18, .inl (cA_19, 1, .inl (fun _ => 0))), (q_17, .inr (10, [.ref q_18, .int 0])), (q_20, .inl (cA_21, 0, .inr (.inr (.inr (.inr (fun _ => none)))))), (q_16, .inr (8, [.ref q_17, .ref q_20, .long 0, .int 0]))] := ⟨_, hP, hD⟩
  refine lv_iinc (v := 15) (lv' := [(4, .int 15), (0, .ref h0), (1, .ref a_n), (2, .ref a_f), (3, .ref a_l)]) hx hb dX5_init_180 hl (k := 0) rfl (by decide) (by decide) rfl (fun ls hl => ?_)
  refine lv_goto (tgt := 156) hx hb dX5_init_183 (by decide) ?_
  refine lv_iload hx hb dX5_init_156 (lv_at hl 0 rfl) ?_
  refine lv_aload_n hx hb dX5_init_158 rfl (lv_at hl 1 rfl) ?_
  refine va_get (D := (dC, dI)) (ci := 5) (v := .ref q_13) (C := RX5) (T := TX5) (N := 17) hx hb hts (by decide +kernel) hown hK hP 0 rfl rfl 12 (by decide) (hts (.fieldLink RX5 39 "ProofBench$Proof" "kept" "[LProofBench$Thing;") (by decide +kernel)) (fun _ h9 => h9) rfl dX5_init_159 ?_
  refine va_alen hx hb hK hP 8 5 rfl rfl (v := 20) (show Int32.ofNat 20 = 20 from by decide) dX5_init_162 ?_
  refine lv_icmp_ge (tgt := 186) hx hb dX5_init_163 (by decide) (fun c9 => absurd c9 (by decide)) (fun _ => ?_)
  refine lv_aload_n hx hb dX5_init_166 rfl (lv_at hl 1 rfl) ?_
  refine va_get (D := (dC, dI)) (ci := 5) (v := .ref q_13) (C := RX5) (T := TX5) (N := 17) hx hb hts (by decide +kernel) hown hK hP 0 rfl rfl 12 (by decide) (hts (.fieldLink RX5 39 "ProofBench$Proof" "kept" "[LProofBench$Thing;") (by decide +kernel)) (fun _ h9 => h9) rfl dX5_init_167 ?_
  refine lv_iload hx hb dX5_init_170 (lv_at hl 0 rfl) ?_
  refine lv_aload_n hx hb dX5_init_172 rfl (lv_at hl 1 rfl) ?_
  refine va_get (D := (dC, dI)) (ci := 5) (v := .ref q_16) (C := RX5) (T := TX5) (N := 17) hx hb hts (by decide +kernel) hown hK hP 0 rfl rfl 7 (by decide) (hts (.fieldLink RX5 70 "ProofBench$Proof" "nothing" "LProofBench$Step;") (by decide +kernel)) (fun _ h9 => h9) rfl dX5_init_173 ?_
  refine va_get (D := (dC, dI)) (ci := 8) (v := .ref q_17) (C := RX8) (T := TX8) (N := 4) hx hb hts (by decide +kernel) hown hK hP 12 rfl rfl 0 (by decide) (hts (.fieldLink RX5 74 "ProofBench$Step" "shows" "LProofBench$Thing;") (by decide +kernel)) (fun _ h9 => h9) rfl dX5_init_176 ?_
  refine va_astq (r := (RX10, TX10, 2)) hx hb hK hP hD hS 8 5 10 10 rfl rfl rfl rfl (show vp_in (15) 20 from by unfold vp_in; decide) dX5_init_179 (fun H locs hP hD hS => ?_)
  obtain ⟨f_41, hP, hD⟩ : ∃ f9 : Nat → Option Nat, va_P (dC, dI) vwCl [(h0, .inr (5, [.ref a_n, .ref a_f, .ref a_l, .ref q_15, .ref q_1, .ref q_3, .ref q_5, .ref q_16, .ref q_7, .ref q_10, .int 0, .int 0, .ref q_13, .int 0, .int 0, .long 0, .int 0])), (q_1, .inl (cA_2, 300, .inr (.inr (.inr (.inr (fun _ => none)))))), (q_3, .inl (cA_4, 40, .inr (.inr (.inr (.inr (fun _ => none)))))), (q_5, .inl (cA_6, 4, .inr (.inr (.inr (.inr (f_25)))))), (q_7, .inr (6, [.ref q_8, .int 0])), (q_8, .inl (cA_9, 1210, .inl (fun _ => 0))), (q_10, .inr (6, [.ref q_11, .int 0])), (q_11, .inl (cA_12, 1210, .inl (fun _ => 0))), (q_13, .inl (cA_14, 20, .inr (.inr (.inr (.inr (f9)))))), (q_18, .inl (cA_19, 1, .inl (fun _ => 0))), (q_17, .inr (10, [.ref q_18, .int 0])), (q_20, .inl (cA_21, 0, .inr (.inr (.inr (.inr (fun _ => none)))))), (q_16, .inr (8, [.ref q_17, .ref q_20, .long 0, .int 0]))] H ∧ va_D A [(h0, .inr (5, [.ref a_n, .ref a_f, .ref a_l, .ref q_15, .ref q_1, .ref q_3, .ref q_5, .ref q_16, .ref q_7, .ref q_10, .int 0, .int 0, .ref q_13, .int 0, .int 0, .long 0, .int 0])), (q_1, .inl (cA_2, 300, .inr (.inr (.inr (.inr (fun _ => none)))))), (q_3, .inl (cA_4, 40, .inr (.inr (.inr (.inr (fun _ => none)))))), (q_5, .inl (cA_6, 4, .inr (.inr (.inr (.inr (f_25)))))), (q_7, .inr (6, [.ref q_8, .int 0])), (q_8, .inl (cA_9, 1210, .inl (fun _ => 0))), (q_10, .inr (6, [.ref q_11, .int 0])), (q_11, .inl (cA_12, 1210, .inl (fun _ => 0))), (q_13, .inl (cA_14, 20, .inr (.inr (.inr (.inr (f9)))))), (q_18, .inl (cA_19, 1, .inl (fun _ => 0))), (q_17, .inr (10, [.ref q_18, .int 0])), (q_20, .inl (cA_21, 0, .inr (.inr (.inr (.inr (fun _ => none)))))), (q_16, .inr (8, [.ref q_17, .ref q_20, .long 0, .int 0]))] := ⟨_, hP, hD⟩
  refine lv_iinc (v := 16) (lv' := [(4, .int 16), (0, .ref h0), (1, .ref a_n), (2, .ref a_f), (3, .ref a_l)]) hx hb dX5_init_180 hl (k := 0) rfl (by decide) (by decide) rfl (fun ls hl => ?_)
  refine lv_goto (tgt := 156) hx hb dX5_init_183 (by decide) ?_
  refine lv_iload hx hb dX5_init_156 (lv_at hl 0 rfl) ?_
  refine lv_aload_n hx hb dX5_init_158 rfl (lv_at hl 1 rfl) ?_
  refine va_get (D := (dC, dI)) (ci := 5) (v := .ref q_13) (C := RX5) (T := TX5) (N := 17) hx hb hts (by decide +kernel) hown hK hP 0 rfl rfl 12 (by decide) (hts (.fieldLink RX5 39 "ProofBench$Proof" "kept" "[LProofBench$Thing;") (by decide +kernel)) (fun _ h9 => h9) rfl dX5_init_159 ?_
  refine va_alen hx hb hK hP 8 5 rfl rfl (v := 20) (show Int32.ofNat 20 = 20 from by decide) dX5_init_162 ?_
  refine lv_icmp_ge (tgt := 186) hx hb dX5_init_163 (by decide) (fun c9 => absurd c9 (by decide)) (fun _ => ?_)
  refine lv_aload_n hx hb dX5_init_166 rfl (lv_at hl 1 rfl) ?_
  refine va_get (D := (dC, dI)) (ci := 5) (v := .ref q_13) (C := RX5) (T := TX5) (N := 17) hx hb hts (by decide +kernel) hown hK hP 0 rfl rfl 12 (by decide) (hts (.fieldLink RX5 39 "ProofBench$Proof" "kept" "[LProofBench$Thing;") (by decide +kernel)) (fun _ h9 => h9) rfl dX5_init_167 ?_
  refine lv_iload hx hb dX5_init_170 (lv_at hl 0 rfl) ?_
  refine lv_aload_n hx hb dX5_init_172 rfl (lv_at hl 1 rfl) ?_
  refine va_get (D := (dC, dI)) (ci := 5) (v := .ref q_16) (C := RX5) (T := TX5) (N := 17) hx hb hts (by decide +kernel) hown hK hP 0 rfl rfl 7 (by decide) (hts (.fieldLink RX5 70 "ProofBench$Proof" "nothing" "LProofBench$Step;") (by decide +kernel)) (fun _ h9 => h9) rfl dX5_init_173 ?_
  refine va_get (D := (dC, dI)) (ci := 8) (v := .ref q_17) (C := RX8) (T := TX8) (N := 4) hx hb hts (by decide +kernel) hown hK hP 12 rfl rfl 0 (by decide) (hts (.fieldLink RX5 74 "ProofBench$Step" "shows" "LProofBench$Thing;") (by decide +kernel)) (fun _ h9 => h9) rfl dX5_init_176 ?_
  refine va_astq (r := (RX10, TX10, 2)) hx hb hK hP hD hS 8 5 10 10 rfl rfl rfl rfl (show vp_in (16) 20 from by unfold vp_in; decide) dX5_init_179 (fun H locs hP hD hS => ?_)
  obtain ⟨f_42, hP, hD⟩ : ∃ f9 : Nat → Option Nat, va_P (dC, dI) vwCl [(h0, .inr (5, [.ref a_n, .ref a_f, .ref a_l, .ref q_15, .ref q_1, .ref q_3, .ref q_5, .ref q_16, .ref q_7, .ref q_10, .int 0, .int 0, .ref q_13, .int 0, .int 0, .long 0, .int 0])), (q_1, .inl (cA_2, 300, .inr (.inr (.inr (.inr (fun _ => none)))))), (q_3, .inl (cA_4, 40, .inr (.inr (.inr (.inr (fun _ => none)))))), (q_5, .inl (cA_6, 4, .inr (.inr (.inr (.inr (f_25)))))), (q_7, .inr (6, [.ref q_8, .int 0])), (q_8, .inl (cA_9, 1210, .inl (fun _ => 0))), (q_10, .inr (6, [.ref q_11, .int 0])), (q_11, .inl (cA_12, 1210, .inl (fun _ => 0))), (q_13, .inl (cA_14, 20, .inr (.inr (.inr (.inr (f9)))))), (q_18, .inl (cA_19, 1, .inl (fun _ => 0))), (q_17, .inr (10, [.ref q_18, .int 0])), (q_20, .inl (cA_21, 0, .inr (.inr (.inr (.inr (fun _ => none)))))), (q_16, .inr (8, [.ref q_17, .ref q_20, .long 0, .int 0]))] H ∧ va_D A [(h0, .inr (5, [.ref a_n, .ref a_f, .ref a_l, .ref q_15, .ref q_1, .ref q_3, .ref q_5, .ref q_16, .ref q_7, .ref q_10, .int 0, .int 0, .ref q_13, .int 0, .int 0, .long 0, .int 0])), (q_1, .inl (cA_2, 300, .inr (.inr (.inr (.inr (fun _ => none)))))), (q_3, .inl (cA_4, 40, .inr (.inr (.inr (.inr (fun _ => none)))))), (q_5, .inl (cA_6, 4, .inr (.inr (.inr (.inr (f_25)))))), (q_7, .inr (6, [.ref q_8, .int 0])), (q_8, .inl (cA_9, 1210, .inl (fun _ => 0))), (q_10, .inr (6, [.ref q_11, .int 0])), (q_11, .inl (cA_12, 1210, .inl (fun _ => 0))), (q_13, .inl (cA_14, 20, .inr (.inr (.inr (.inr (f9)))))), (q_18, .inl (cA_19, 1, .inl (fun _ => 0))), (q_17, .inr (10, [.ref q_18, .int 0])), (q_20, .inl (cA_21, 0, .inr (.inr (.inr (.inr (fun _ => none)))))), (q_16, .inr (8, [.ref q_17, .ref q_20, .long 0, .int 0]))] := ⟨_, hP, hD⟩
  refine lv_iinc (v := 17) (lv' := [(4, .int 17), (0, .ref h0), (1, .ref a_n), (2, .ref a_f), (3, .ref a_l)]) hx hb dX5_init_180 hl (k := 0) rfl (by decide) (by decide) rfl (fun ls hl => ?_)
  refine lv_goto (tgt := 156) hx hb dX5_init_183 (by decide) ?_
  refine lv_iload hx hb dX5_init_156 (lv_at hl 0 rfl) ?_
  refine lv_aload_n hx hb dX5_init_158 rfl (lv_at hl 1 rfl) ?_
  refine va_get (D := (dC, dI)) (ci := 5) (v := .ref q_13) (C := RX5) (T := TX5) (N := 17) hx hb hts (by decide +kernel) hown hK hP 0 rfl rfl 12 (by decide) (hts (.fieldLink RX5 39 "ProofBench$Proof" "kept" "[LProofBench$Thing;") (by decide +kernel)) (fun _ h9 => h9) rfl dX5_init_159 ?_
  refine va_alen hx hb hK hP 8 5 rfl rfl (v := 20) (show Int32.ofNat 20 = 20 from by decide) dX5_init_162 ?_
  refine lv_icmp_ge (tgt := 186) hx hb dX5_init_163 (by decide) (fun c9 => absurd c9 (by decide)) (fun _ => ?_)
  refine lv_aload_n hx hb dX5_init_166 rfl (lv_at hl 1 rfl) ?_
  refine va_get (D := (dC, dI)) (ci := 5) (v := .ref q_13) (C := RX5) (T := TX5) (N := 17) hx hb hts (by decide +kernel) hown hK hP 0 rfl rfl 12 (by decide) (hts (.fieldLink RX5 39 "ProofBench$Proof" "kept" "[LProofBench$Thing;") (by decide +kernel)) (fun _ h9 => h9) rfl dX5_init_167 ?_
  refine lv_iload hx hb dX5_init_170 (lv_at hl 0 rfl) ?_
  refine lv_aload_n hx hb dX5_init_172 rfl (lv_at hl 1 rfl) ?_
  refine va_get (D := (dC, dI)) (ci := 5) (v := .ref q_16) (C := RX5) (T := TX5) (N := 17) hx hb hts (by decide +kernel) hown hK hP 0 rfl rfl 7 (by decide) (hts (.fieldLink RX5 70 "ProofBench$Proof" "nothing" "LProofBench$Step;") (by decide +kernel)) (fun _ h9 => h9) rfl dX5_init_173 ?_
  refine va_get (D := (dC, dI)) (ci := 8) (v := .ref q_17) (C := RX8) (T := TX8) (N := 4) hx hb hts (by decide +kernel) hown hK hP 12 rfl rfl 0 (by decide) (hts (.fieldLink RX5 74 "ProofBench$Step" "shows" "LProofBench$Thing;") (by decide +kernel)) (fun _ h9 => h9) rfl dX5_init_176 ?_
  refine va_astq (r := (RX10, TX10, 2)) hx hb hK hP hD hS 8 5 10 10 rfl rfl rfl rfl (show vp_in (17) 20 from by unfold vp_in; decide) dX5_init_179 (fun H locs hP hD hS => ?_)
  obtain ⟨f_43, hP, hD⟩ : ∃ f9 : Nat → Option Nat, va_P (dC, dI) vwCl [(h0, .inr (5, [.ref a_n, .ref a_f, .ref a_l, .ref q_15, .ref q_1, .ref q_3, .ref q_5, .ref q_16, .ref q_7, .ref q_10, .int 0, .int 0, .ref q_13, .int 0, .int 0, .long 0, .int 0])), (q_1, .inl (cA_2, 300, .inr (.inr (.inr (.inr (fun _ => none)))))), (q_3, .inl (cA_4, 40, .inr (.inr (.inr (.inr (fun _ => none)))))), (q_5, .inl (cA_6, 4, .inr (.inr (.inr (.inr (f_25)))))), (q_7, .inr (6, [.ref q_8, .int 0])), (q_8, .inl (cA_9, 1210, .inl (fun _ => 0))), (q_10, .inr (6, [.ref q_11, .int 0])), (q_11, .inl (cA_12, 1210, .inl (fun _ => 0))), (q_13, .inl (cA_14, 20, .inr (.inr (.inr (.inr (f9)))))), (q_18, .inl (cA_19, 1, .inl (fun _ => 0))), (q_17, .inr (10, [.ref q_18, .int 0])), (q_20, .inl (cA_21, 0, .inr (.inr (.inr (.inr (fun _ => none)))))), (q_16, .inr (8, [.ref q_17, .ref q_20, .long 0, .int 0]))] H ∧ va_D A [(h0, .inr (5, [.ref a_n, .ref a_f, .ref a_l, .ref q_15, .ref q_1, .ref q_3, .ref q_5, .ref q_16, .ref q_7, .ref q_10, .int 0, .int 0, .ref q_13, .int 0, .int 0, .long 0, .int 0])), (q_1, .inl (cA_2, 300, .inr (.inr (.inr (.inr (fun _ => none)))))), (q_3, .inl (cA_4, 40, .inr (.inr (.inr (.inr (fun _ => none)))))), (q_5, .inl (cA_6, 4, .inr (.inr (.inr (.inr (f_25)))))), (q_7, .inr (6, [.ref q_8, .int 0])), (q_8, .inl (cA_9, 1210, .inl (fun _ => 0))), (q_10, .inr (6, [.ref q_11, .int 0])), (q_11, .inl (cA_12, 1210, .inl (fun _ => 0))), (q_13, .inl (cA_14, 20, .inr (.inr (.inr (.inr (f9)))))), (q_18, .inl (cA_19, 1, .inl (fun _ => 0))), (q_17, .inr (10, [.ref q_18, .int 0])), (q_20, .inl (cA_21, 0, .inr (.inr (.inr (.inr (fun _ => none)))))), (q_16, .inr (8, [.ref q_17, .ref q_20, .long 0, .int 0]))] := ⟨_, hP, hD⟩
  refine lv_iinc (v := 18) (lv' := [(4, .int 18), (0, .ref h0), (1, .ref a_n), (2, .ref a_f), (3, .ref a_l)]) hx hb dX5_init_180 hl (k := 0) rfl (by decide) (by decide) rfl (fun ls hl => ?_)
  refine lv_goto (tgt := 156) hx hb dX5_init_183 (by decide) ?_
  refine lv_iload hx hb dX5_init_156 (lv_at hl 0 rfl) ?_
  refine lv_aload_n hx hb dX5_init_158 rfl (lv_at hl 1 rfl) ?_
  refine va_get (D := (dC, dI)) (ci := 5) (v := .ref q_13) (C := RX5) (T := TX5) (N := 17) hx hb hts (by decide +kernel) hown hK hP 0 rfl rfl 12 (by decide) (hts (.fieldLink RX5 39 "ProofBench$Proof" "kept" "[LProofBench$Thing;") (by decide +kernel)) (fun _ h9 => h9) rfl dX5_init_159 ?_
  refine va_alen hx hb hK hP 8 5 rfl rfl (v := 20) (show Int32.ofNat 20 = 20 from by decide) dX5_init_162 ?_
  refine lv_icmp_ge (tgt := 186) hx hb dX5_init_163 (by decide) (fun c9 => absurd c9 (by decide)) (fun _ => ?_)
  refine lv_aload_n hx hb dX5_init_166 rfl (lv_at hl 1 rfl) ?_
  refine va_get (D := (dC, dI)) (ci := 5) (v := .ref q_13) (C := RX5) (T := TX5) (N := 17) hx hb hts (by decide +kernel) hown hK hP 0 rfl rfl 12 (by decide) (hts (.fieldLink RX5 39 "ProofBench$Proof" "kept" "[LProofBench$Thing;") (by decide +kernel)) (fun _ h9 => h9) rfl dX5_init_167 ?_
  refine lv_iload hx hb dX5_init_170 (lv_at hl 0 rfl) ?_
  refine lv_aload_n hx hb dX5_init_172 rfl (lv_at hl 1 rfl) ?_
  refine va_get (D := (dC, dI)) (ci := 5) (v := .ref q_16) (C := RX5) (T := TX5) (N := 17) hx hb hts (by decide +kernel) hown hK hP 0 rfl rfl 7 (by decide) (hts (.fieldLink RX5 70 "ProofBench$Proof" "nothing" "LProofBench$Step;") (by decide +kernel)) (fun _ h9 => h9) rfl dX5_init_173 ?_
  refine va_get (D := (dC, dI)) (ci := 8) (v := .ref q_17) (C := RX8) (T := TX8) (N := 4) hx hb hts (by decide +kernel) hown hK hP 12 rfl rfl 0 (by decide) (hts (.fieldLink RX5 74 "ProofBench$Step" "shows" "LProofBench$Thing;") (by decide +kernel)) (fun _ h9 => h9) rfl dX5_init_176 ?_
  refine va_astq (r := (RX10, TX10, 2)) hx hb hK hP hD hS 8 5 10 10 rfl rfl rfl rfl (show vp_in (18) 20 from by unfold vp_in; decide) dX5_init_179 (fun H locs hP hD hS => ?_)
  obtain ⟨f_44, hP, hD⟩ : ∃ f9 : Nat → Option Nat, va_P (dC, dI) vwCl [(h0, .inr (5, [.ref a_n, .ref a_f, .ref a_l, .ref q_15, .ref q_1, .ref q_3, .ref q_5, .ref q_16, .ref q_7, .ref q_10, .int 0, .int 0, .ref q_13, .int 0, .int 0, .long 0, .int 0])), (q_1, .inl (cA_2, 300, .inr (.inr (.inr (.inr (fun _ => none)))))), (q_3, .inl (cA_4, 40, .inr (.inr (.inr (.inr (fun _ => none)))))), (q_5, .inl (cA_6, 4, .inr (.inr (.inr (.inr (f_25)))))), (q_7, .inr (6, [.ref q_8, .int 0])), (q_8, .inl (cA_9, 1210, .inl (fun _ => 0))), (q_10, .inr (6, [.ref q_11, .int 0])), (q_11, .inl (cA_12, 1210, .inl (fun _ => 0))), (q_13, .inl (cA_14, 20, .inr (.inr (.inr (.inr (f9)))))), (q_18, .inl (cA_19, 1, .inl (fun _ => 0))), (q_17, .inr (10, [.ref q_18, .int 0])), (q_20, .inl (cA_21, 0, .inr (.inr (.inr (.inr (fun _ => none)))))), (q_16, .inr (8, [.ref q_17, .ref q_20, .long 0, .int 0]))] H ∧ va_D A [(h0, .inr (5, [.ref a_n, .ref a_f, .ref a_l, .ref q_15, .ref q_1, .ref q_3, .ref q_5, .ref q_16, .ref q_7, .ref q_10, .int 0, .int 0, .ref q_13, .int 0, .int 0, .long 0, .int 0])), (q_1, .inl (cA_2, 300, .inr (.inr (.inr (.inr (fun _ => none)))))), (q_3, .inl (cA_4, 40, .inr (.inr (.inr (.inr (fun _ => none)))))), (q_5, .inl (cA_6, 4, .inr (.inr (.inr (.inr (f_25)))))), (q_7, .inr (6, [.ref q_8, .int 0])), (q_8, .inl (cA_9, 1210, .inl (fun _ => 0))), (q_10, .inr (6, [.ref q_11, .int 0])), (q_11, .inl (cA_12, 1210, .inl (fun _ => 0))), (q_13, .inl (cA_14, 20, .inr (.inr (.inr (.inr (f9)))))), (q_18, .inl (cA_19, 1, .inl (fun _ => 0))), (q_17, .inr (10, [.ref q_18, .int 0])), (q_20, .inl (cA_21, 0, .inr (.inr (.inr (.inr (fun _ => none)))))), (q_16, .inr (8, [.ref q_17, .ref q_20, .long 0, .int 0]))] := ⟨_, hP, hD⟩
  refine lv_iinc (v := 19) (lv' := [(4, .int 19), (0, .ref h0), (1, .ref a_n), (2, .ref a_f), (3, .ref a_l)]) hx hb dX5_init_180 hl (k := 0) rfl (by decide) (by decide) rfl (fun ls hl => ?_)
  refine lv_goto (tgt := 156) hx hb dX5_init_183 (by decide) ?_
  refine lv_iload hx hb dX5_init_156 (lv_at hl 0 rfl) ?_
  refine lv_aload_n hx hb dX5_init_158 rfl (lv_at hl 1 rfl) ?_
  refine va_get (D := (dC, dI)) (ci := 5) (v := .ref q_13) (C := RX5) (T := TX5) (N := 17) hx hb hts (by decide +kernel) hown hK hP 0 rfl rfl 12 (by decide) (hts (.fieldLink RX5 39 "ProofBench$Proof" "kept" "[LProofBench$Thing;") (by decide +kernel)) (fun _ h9 => h9) rfl dX5_init_159 ?_
  refine va_alen hx hb hK hP 8 5 rfl rfl (v := 20) (show Int32.ofNat 20 = 20 from by decide) dX5_init_162 ?_
  refine lv_icmp_ge (tgt := 186) hx hb dX5_init_163 (by decide) (fun c9 => absurd c9 (by decide)) (fun _ => ?_)
  refine lv_aload_n hx hb dX5_init_166 rfl (lv_at hl 1 rfl) ?_
  refine va_get (D := (dC, dI)) (ci := 5) (v := .ref q_13) (C := RX5) (T := TX5) (N := 17) hx hb hts (by decide +kernel) hown hK hP 0 rfl rfl 12 (by decide) (hts (.fieldLink RX5 39 "ProofBench$Proof" "kept" "[LProofBench$Thing;") (by decide +kernel)) (fun _ h9 => h9) rfl dX5_init_167 ?_
  refine lv_iload hx hb dX5_init_170 (lv_at hl 0 rfl) ?_
  refine lv_aload_n hx hb dX5_init_172 rfl (lv_at hl 1 rfl) ?_
  refine va_get (D := (dC, dI)) (ci := 5) (v := .ref q_16) (C := RX5) (T := TX5) (N := 17) hx hb hts (by decide +kernel) hown hK hP 0 rfl rfl 7 (by decide) (hts (.fieldLink RX5 70 "ProofBench$Proof" "nothing" "LProofBench$Step;") (by decide +kernel)) (fun _ h9 => h9) rfl dX5_init_173 ?_
  refine va_get (D := (dC, dI)) (ci := 8) (v := .ref q_17) (C := RX8) (T := TX8) (N := 4) hx hb hts (by decide +kernel) hown hK hP 12 rfl rfl 0 (by decide) (hts (.fieldLink RX5 74 "ProofBench$Step" "shows" "LProofBench$Thing;") (by decide +kernel)) (fun _ h9 => h9) rfl dX5_init_176 ?_
  refine va_astq (r := (RX10, TX10, 2)) hx hb hK hP hD hS 8 5 10 10 rfl rfl rfl rfl (show vp_in (19) 20 from by unfold vp_in; decide) dX5_init_179 (fun H locs hP hD hS => ?_)
  obtain ⟨f_45, hP, hD⟩ : ∃ f9 : Nat → Option Nat, va_P (dC, dI) vwCl [(h0, .inr (5, [.ref a_n, .ref a_f, .ref a_l, .ref q_15, .ref q_1, .ref q_3, .ref q_5, .ref q_16, .ref q_7, .ref q_10, .int 0, .int 0, .ref q_13, .int 0, .int 0, .long 0, .int 0])), (q_1, .inl (cA_2, 300, .inr (.inr (.inr (.inr (fun _ => none)))))), (q_3, .inl (cA_4, 40, .inr (.inr (.inr (.inr (fun _ => none)))))), (q_5, .inl (cA_6, 4, .inr (.inr (.inr (.inr (f_25)))))), (q_7, .inr (6, [.ref q_8, .int 0])), (q_8, .inl (cA_9, 1210, .inl (fun _ => 0))), (q_10, .inr (6, [.ref q_11, .int 0])), (q_11, .inl (cA_12, 1210, .inl (fun _ => 0))), (q_13, .inl (cA_14, 20, .inr (.inr (.inr (.inr (f9)))))), (q_18, .inl (cA_19, 1, .inl (fun _ => 0))), (q_17, .inr (10, [.ref q_18, .int 0])), (q_20, .inl (cA_21, 0, .inr (.inr (.inr (.inr (fun _ => none)))))), (q_16, .inr (8, [.ref q_17, .ref q_20, .long 0, .int 0]))] H ∧ va_D A [(h0, .inr (5, [.ref a_n, .ref a_f, .ref a_l, .ref q_15, .ref q_1, .ref q_3, .ref q_5, .ref q_16, .ref q_7, .ref q_10, .int 0, .int 0, .ref q_13, .int 0, .int 0, .long 0, .int 0])), (q_1, .inl (cA_2, 300, .inr (.inr (.inr (.inr (fun _ => none)))))), (q_3, .inl (cA_4, 40, .inr (.inr (.inr (.inr (fun _ => none)))))), (q_5, .inl (cA_6, 4, .inr (.inr (.inr (.inr (f_25)))))), (q_7, .inr (6, [.ref q_8, .int 0])), (q_8, .inl (cA_9, 1210, .inl (fun _ => 0))), (q_10, .inr (6, [.ref q_11, .int 0])), (q_11, .inl (cA_12, 1210, .inl (fun _ => 0))), (q_13, .inl (cA_14, 20, .inr (.inr (.inr (.inr (f9)))))), (q_18, .inl (cA_19, 1, .inl (fun _ => 0))), (q_17, .inr (10, [.ref q_18, .int 0])), (q_20, .inl (cA_21, 0, .inr (.inr (.inr (.inr (fun _ => none)))))), (q_16, .inr (8, [.ref q_17, .ref q_20, .long 0, .int 0]))] := ⟨_, hP, hD⟩
  refine lv_iinc (v := 20) (lv' := [(4, .int 20), (0, .ref h0), (1, .ref a_n), (2, .ref a_f), (3, .ref a_l)]) hx hb dX5_init_180 hl (k := 0) rfl (by decide) (by decide) rfl (fun ls hl => ?_)
  refine lv_goto (tgt := 156) hx hb dX5_init_183 (by decide) ?_
  refine lv_iload hx hb dX5_init_156 (lv_at hl 0 rfl) ?_
  refine lv_aload_n hx hb dX5_init_158 rfl (lv_at hl 1 rfl) ?_
  refine va_get (D := (dC, dI)) (ci := 5) (v := .ref q_13) (C := RX5) (T := TX5) (N := 17) hx hb hts (by decide +kernel) hown hK hP 0 rfl rfl 12 (by decide) (hts (.fieldLink RX5 39 "ProofBench$Proof" "kept" "[LProofBench$Thing;") (by decide +kernel)) (fun _ h9 => h9) rfl dX5_init_159 ?_
  refine va_alen hx hb hK hP 8 5 rfl rfl (v := 20) (show Int32.ofNat 20 = 20 from by decide) dX5_init_162 ?_
  refine lv_icmp_ge (tgt := 186) hx hb dX5_init_163 (by decide) (fun _ => ?_) (fun c9 => absurd c9 (by decide))
  have hP9 := hP.sub (ws' := [(h0, .inr (5, [.ref a_n, .ref a_f, .ref a_l, .ref q_15, .ref q_1, .ref q_3, .ref q_5, .ref q_16, .ref q_7, .ref q_10, .int 0, .int 0, .ref q_13, .int 0, .int 0, .long 0, .int 0]))]) [0] rfl
  have hD9 := hD.sub (ws' := [(h0, .inr (5, [.ref a_n, .ref a_f, .ref a_l, .ref q_15, .ref q_1, .ref q_3, .ref q_5, .ref q_16, .ref q_7, .ref q_10, .int 0, .int 0, .ref q_13, .int 0, .int 0, .long 0, .int 0]))]) [0] (by decide) rfl
  have hK9 := hK.sub (tys' := []) [] rfl
  refine W.widen (k := 22) (n := 4413) (by omega) (by omega) ?_
  exact W.vret hx hb hr (fun t ht hW => ⟨⟨(), rfl, trivial, q_15, q_1, q_3, q_5, q_16, q_7, q_10, q_13, by rw [ht]; exact hP9, va_K.moved hW.alike hK9, hD9⟩, hS.F ht⟩) hS.2.2 dX5_init_186
end
section
abbrev cJ0_length_8abf5 : ByteArray := prog_19_method_54_code
def yJ0_length_8abf5 : MethodName := ⟨RJ0, "length", "()I"⟩
abbrev cJ0_charAt_5068e : ByteArray := prog_19_method_56_code
def yJ0_charAt_5068e : MethodName := ⟨RJ0, "charAt", "(I)C"⟩
abbrev cJ0_coder_7d493 : ByteArray := prog_19_method_152_code
def yJ0_coder_7d493 : MethodName := ⟨RJ0, "coder", "()B"⟩
abbrev cJ0_isLatin1_aae02 : ByteArray := prog_19_method_154_code
def yJ0_isLatin1_aae02 : MethodName := ⟨RJ0, "isLatin1", "()Z"⟩
abbrev cJ0_checkIndex_df160 : ByteArray := prog_19_method_155_code
def yJ0_checkIndex_df160 : MethodName := ⟨RJ0, "checkIndex", "(II)V"⟩
abbrev cJ1_charAt_3b067 : ByteArray := prog_20_method_2_code
def yJ1_charAt_3b067 : MethodName := ⟨RJ1, "charAt", "([BI)C"⟩
abbrev cJ3_checkIndex_8e157 : ByteArray := prog_24_method_11_code
def yJ3_checkIndex_8e157 : MethodName := ⟨RJ3, "checkIndex", "(IILjava/util/function/BiFunction;)I"⟩
def wsJ0_coder_7d493 : List Cond := .code yJ0_coder_7d493 cJ0_coder_7d493 1 (some .byte) :: ([.fieldLink RJ0 38 "java/lang/String" "COMPACT_STRINGS" "Z", .fieldLink RJ0 15 "java/lang/String" "coder" "B"])
def wsJ0_length_8abf5 : List Cond := .code yJ0_length_8abf5 cJ0_length_8abf5 1 (some .int) :: ([.fieldLink RJ0 9 "java/lang/String" "value" "[B", .methodLink RJ0 335 yJ0_coder_7d493, .instanceMethod yJ0_coder_7d493, .selects RJ0 yJ0_coder_7d493 yJ0_coder_7d493, .initialized RJ0, .code yJ0_coder_7d493 cJ0_coder_7d493 1 (some .byte), .fieldLink RJ0 38 "java/lang/String" "COMPACT_STRINGS" "Z", .fieldLink RJ0 15 "java/lang/String" "coder" "B"])
def wsJ0_isLatin1_aae02 : List Cond := .code yJ0_isLatin1_aae02 cJ0_isLatin1_aae02 1 (some .boolean) :: ([.fieldLink RJ0 38 "java/lang/String" "COMPACT_STRINGS" "Z", .fieldLink RJ0 15 "java/lang/String" "coder" "B"])
def wsJ3_checkIndex_8e157 : List Cond := .code yJ3_checkIndex_8e157 cJ3_checkIndex_8e157 3 (some .int) :: ([])
def wsJ0_checkIndex_df160 : List Cond := .code yJ0_checkIndex_df160 cJ0_checkIndex_df160 2 none :: ([.fieldLink RJ0 1053 "jdk/internal/util/Preconditions" "SIOOBE_FORMATTER" "Ljava/util/function/BiFunction;", .methodLink RJ0 1059 yJ3_checkIndex_8e157, .static yJ3_checkIndex_8e157, .initialized RJ3, .code yJ3_checkIndex_8e157 cJ3_checkIndex_8e157 3 (some .int)])
def wsJ1_charAt_3b067 : List Cond := .code yJ1_charAt_3b067 cJ1_charAt_3b067 2 (some .char) :: ([.methodLink RJ1 9 yJ0_checkIndex_df160, .static yJ0_checkIndex_df160, .initialized RJ0, .code yJ0_checkIndex_df160 cJ0_checkIndex_df160 2 none, .fieldLink RJ0 1053 "jdk/internal/util/Preconditions" "SIOOBE_FORMATTER" "Ljava/util/function/BiFunction;", .methodLink RJ0 1059 yJ3_checkIndex_8e157, .static yJ3_checkIndex_8e157, .initialized RJ3, .code yJ3_checkIndex_8e157 cJ3_checkIndex_8e157 3 (some .int)])
def yJ2_charAt_3b067 : MethodName := ⟨RJ2, "charAt", "([BI)C"⟩
abbrev cJ2_charAt_3b067 : ByteArray := prog_21_method_83_code
def wsJ0_charAt_5068e_r1 : List Cond := [Cond.fieldLink RJ0 9 "java/lang/String" "value" "[B", Cond.methodLink RJ0 492 yJ0_isLatin1_aae02, Cond.instanceMethod yJ0_isLatin1_aae02, Cond.selects RJ0 yJ0_isLatin1_aae02 yJ0_isLatin1_aae02, Cond.initialized RJ0, Cond.code yJ0_isLatin1_aae02 cJ0_isLatin1_aae02 1 (some .boolean), Cond.fieldLink RJ0 38 "java/lang/String" "COMPACT_STRINGS" "Z", Cond.fieldLink RJ0 15 "java/lang/String" "coder" "B", Cond.methodLink RJ0 495 yJ1_charAt_3b067, Cond.static yJ1_charAt_3b067, Cond.initialized RJ1, Cond.code yJ1_charAt_3b067 cJ1_charAt_3b067 2 (some .char), Cond.methodLink RJ1 9 yJ0_checkIndex_df160, Cond.static yJ0_checkIndex_df160, Cond.code yJ0_checkIndex_df160 cJ0_checkIndex_df160 2 none, Cond.fieldLink RJ0 1053 "jdk/internal/util/Preconditions" "SIOOBE_FORMATTER" "Ljava/util/function/BiFunction;", Cond.methodLink RJ0 1059 yJ3_checkIndex_8e157, Cond.static yJ3_checkIndex_8e157, Cond.initialized RJ3, Cond.code yJ3_checkIndex_8e157 cJ3_checkIndex_8e157 3 (some .int), Cond.methodLink RJ0 498 yJ2_charAt_3b067, Cond.static yJ2_charAt_3b067, Cond.initialized RJ2, Cond.code yJ2_charAt_3b067 cJ2_charAt_3b067 2 (some .char)]
def yJ2_checkIndex_2214a : MethodName := ⟨RJ2, "checkIndex", "(I[B)V"⟩
abbrev cJ2_checkIndex_2214a : ByteArray := prog_21_method_91_code
def yJ2_length_9d52b : MethodName := ⟨RJ2, "length", "([B)I"⟩
abbrev cJ2_length_9d52b : ByteArray := prog_21_method_6_code
def yJ2_getChar_3b067 : MethodName := ⟨RJ2, "getChar", "([BI)C"⟩
abbrev cJ2_getChar_3b067 : ByteArray := prog_21_method_5_code
def wsJ0_charAt_5068e_r2 : List Cond := [Cond.methodLink RJ2 67 yJ2_checkIndex_2214a, Cond.static yJ2_checkIndex_2214a, Cond.code yJ2_checkIndex_2214a cJ2_checkIndex_2214a 2 none, Cond.methodLink RJ2 48 yJ2_length_9d52b, Cond.static yJ2_length_9d52b, Cond.code yJ2_length_9d52b cJ2_length_9d52b 1 (some .int), Cond.methodLink RJ2 414 yJ0_checkIndex_df160, Cond.methodLink RJ2 71 yJ2_getChar_3b067, Cond.static yJ2_getChar_3b067, Cond.code yJ2_getChar_3b067 cJ2_getChar_3b067 2 (some .char), Cond.fieldLink RJ2 44 "java/lang/StringUTF16" "$assertionsDisabled" "Z", Cond.fieldLink RJ2 59 "java/lang/StringUTF16" "HI_BYTE_SHIFT" "I", Cond.fieldLink RJ2 63 "java/lang/StringUTF16" "LO_BYTE_SHIFT" "I"]
def wsJ0_charAt_5068e : List Cond := .code yJ0_charAt_5068e cJ0_charAt_5068e 2 (some .char) :: ((wsJ0_charAt_5068e_r1 ++ wsJ0_charAt_5068e_r2))
theorem dJ0_length_8abf5_0 : decode cJ0_length_8abf5 0 = .ok (.aload_n 0, 1) := by decide +kernel
theorem dJ0_length_8abf5_1 : decode cJ0_length_8abf5 1 = .ok (.getfield 9, 3) := by decide +kernel
theorem dJ0_length_8abf5_4 : decode cJ0_length_8abf5 4 = .ok (.arraylength, 1) := by decide +kernel
theorem dJ0_length_8abf5_5 : decode cJ0_length_8abf5 5 = .ok (.aload_n 0, 1) := by decide +kernel
theorem dJ0_length_8abf5_6 : decode cJ0_length_8abf5 6 = .ok (.invokevirtual 335, 3) := by decide +kernel
theorem dJ0_length_8abf5_9 : decode cJ0_length_8abf5 9 = .ok (.ishr, 1) := by decide +kernel
theorem dJ0_length_8abf5_10 : decode cJ0_length_8abf5 10 = .ok (.ireturn, 1) := by decide +kernel
theorem dJ0_charAt_5068e_0 : decode cJ0_charAt_5068e 0 = .ok (.aload_n 0, 1) := by decide +kernel
theorem dJ0_charAt_5068e_1 : decode cJ0_charAt_5068e 1 = .ok (.invokevirtual 492, 3) := by decide +kernel
theorem dJ0_charAt_5068e_4 : decode cJ0_charAt_5068e 4 = .ok (.ifCond .eq 12, 3) := by decide +kernel
theorem dJ0_charAt_5068e_7 : decode cJ0_charAt_5068e 7 = .ok (.aload_n 0, 1) := by decide +kernel
theorem dJ0_charAt_5068e_8 : decode cJ0_charAt_5068e 8 = .ok (.getfield 9, 3) := by decide +kernel
theorem dJ0_charAt_5068e_11 : decode cJ0_charAt_5068e 11 = .ok (.iload_n 1, 1) := by decide +kernel
theorem dJ0_charAt_5068e_12 : decode cJ0_charAt_5068e 12 = .ok (.invokestatic 495, 3) := by decide +kernel
theorem dJ0_charAt_5068e_15 : decode cJ0_charAt_5068e 15 = .ok (.ireturn, 1) := by decide +kernel
theorem dJ0_charAt_5068e_16 : decode cJ0_charAt_5068e 16 = .ok (.aload_n 0, 1) := by decide +kernel
theorem dJ0_charAt_5068e_17 : decode cJ0_charAt_5068e 17 = .ok (.getfield 9, 3) := by decide +kernel
theorem dJ0_charAt_5068e_20 : decode cJ0_charAt_5068e 20 = .ok (.iload_n 1, 1) := by decide +kernel
theorem dJ0_charAt_5068e_21 : decode cJ0_charAt_5068e 21 = .ok (.invokestatic 498, 3) := by decide +kernel
theorem dJ0_charAt_5068e_24 : decode cJ0_charAt_5068e 24 = .ok (.ireturn, 1) := by decide +kernel
theorem dJ0_coder_7d493_0 : decode cJ0_coder_7d493 0 = .ok (.getstatic 38, 3) := by decide +kernel
theorem dJ0_coder_7d493_3 : decode cJ0_coder_7d493 3 = .ok (.ifCond .eq 10, 3) := by decide +kernel
theorem dJ0_coder_7d493_6 : decode cJ0_coder_7d493 6 = .ok (.aload_n 0, 1) := by decide +kernel
theorem dJ0_coder_7d493_7 : decode cJ0_coder_7d493 7 = .ok (.getfield 15, 3) := by decide +kernel
theorem dJ0_coder_7d493_10 : decode cJ0_coder_7d493 10 = .ok (.goto 4, 3) := by decide +kernel
theorem dJ0_coder_7d493_13 : decode cJ0_coder_7d493 13 = .ok (.iconst 1, 1) := by decide +kernel
theorem dJ0_coder_7d493_14 : decode cJ0_coder_7d493 14 = .ok (.ireturn, 1) := by decide +kernel
theorem dJ0_isLatin1_aae02_0 : decode cJ0_isLatin1_aae02 0 = .ok (.getstatic 38, 3) := by decide +kernel
theorem dJ0_isLatin1_aae02_3 : decode cJ0_isLatin1_aae02 3 = .ok (.ifCond .eq 14, 3) := by decide +kernel
theorem dJ0_isLatin1_aae02_6 : decode cJ0_isLatin1_aae02 6 = .ok (.aload_n 0, 1) := by decide +kernel
theorem dJ0_isLatin1_aae02_7 : decode cJ0_isLatin1_aae02 7 = .ok (.getfield 15, 3) := by decide +kernel
theorem dJ0_isLatin1_aae02_10 : decode cJ0_isLatin1_aae02 10 = .ok (.ifCond .ne 7, 3) := by decide +kernel
theorem dJ0_isLatin1_aae02_13 : decode cJ0_isLatin1_aae02 13 = .ok (.iconst 1, 1) := by decide +kernel
theorem dJ0_isLatin1_aae02_14 : decode cJ0_isLatin1_aae02 14 = .ok (.goto 4, 3) := by decide +kernel
theorem dJ0_isLatin1_aae02_17 : decode cJ0_isLatin1_aae02 17 = .ok (.iconst 0, 1) := by decide +kernel
theorem dJ0_isLatin1_aae02_18 : decode cJ0_isLatin1_aae02 18 = .ok (.ireturn, 1) := by decide +kernel
theorem dJ0_checkIndex_df160_0 : decode cJ0_checkIndex_df160 0 = .ok (.iload_n 0, 1) := by decide +kernel
theorem dJ0_checkIndex_df160_1 : decode cJ0_checkIndex_df160 1 = .ok (.iload_n 1, 1) := by decide +kernel
theorem dJ0_checkIndex_df160_2 : decode cJ0_checkIndex_df160 2 = .ok (.getstatic 1053, 3) := by decide +kernel
theorem dJ0_checkIndex_df160_5 : decode cJ0_checkIndex_df160 5 = .ok (.invokestatic 1059, 3) := by decide +kernel
theorem dJ0_checkIndex_df160_8 : decode cJ0_checkIndex_df160 8 = .ok (.pop, 1) := by decide +kernel
theorem dJ0_checkIndex_df160_9 : decode cJ0_checkIndex_df160 9 = .ok (.return_, 1) := by decide +kernel
theorem dJ1_charAt_3b067_0 : decode cJ1_charAt_3b067 0 = .ok (.iload_n 1, 1) := by decide +kernel
theorem dJ1_charAt_3b067_1 : decode cJ1_charAt_3b067 1 = .ok (.aload_n 0, 1) := by decide +kernel
theorem dJ1_charAt_3b067_2 : decode cJ1_charAt_3b067 2 = .ok (.arraylength, 1) := by decide +kernel
theorem dJ1_charAt_3b067_3 : decode cJ1_charAt_3b067 3 = .ok (.invokestatic 9, 3) := by decide +kernel
theorem dJ1_charAt_3b067_6 : decode cJ1_charAt_3b067 6 = .ok (.aload_n 0, 1) := by decide +kernel
theorem dJ1_charAt_3b067_7 : decode cJ1_charAt_3b067 7 = .ok (.iload_n 1, 1) := by decide +kernel
theorem dJ1_charAt_3b067_8 : decode cJ1_charAt_3b067 8 = .ok (.baload, 1) := by decide +kernel
theorem dJ1_charAt_3b067_9 : decode cJ1_charAt_3b067 9 = .ok (.sipush 255, 3) := by decide +kernel
theorem dJ1_charAt_3b067_12 : decode cJ1_charAt_3b067 12 = .ok (.iand, 1) := by decide +kernel
theorem dJ1_charAt_3b067_13 : decode cJ1_charAt_3b067 13 = .ok (.i2c, 1) := by decide +kernel
theorem dJ1_charAt_3b067_14 : decode cJ1_charAt_3b067 14 = .ok (.ireturn, 1) := by decide +kernel
theorem dJ3_checkIndex_8e157_0 : decode cJ3_checkIndex_8e157 0 = .ok (.iload_n 0, 1) := by decide +kernel
theorem dJ3_checkIndex_8e157_1 : decode cJ3_checkIndex_8e157 1 = .ok (.ifCond .lt 8, 3) := by decide +kernel
theorem dJ3_checkIndex_8e157_4 : decode cJ3_checkIndex_8e157 4 = .ok (.iload_n 0, 1) := by decide +kernel
theorem dJ3_checkIndex_8e157_5 : decode cJ3_checkIndex_8e157 5 = .ok (.iload_n 1, 1) := by decide +kernel
theorem dJ3_checkIndex_8e157_6 : decode cJ3_checkIndex_8e157 6 = .ok (.if_icmp .lt 10, 3) := by decide +kernel
theorem dJ3_checkIndex_8e157_9 : decode cJ3_checkIndex_8e157 9 = .ok (.aload_n 2, 1) := by decide +kernel
theorem dJ3_checkIndex_8e157_10 : decode cJ3_checkIndex_8e157 10 = .ok (.iload_n 0, 1) := by decide +kernel
theorem dJ3_checkIndex_8e157_11 : decode cJ3_checkIndex_8e157 11 = .ok (.iload_n 1, 1) := by decide +kernel
theorem dJ3_checkIndex_8e157_12 : decode cJ3_checkIndex_8e157 12 = .ok (.invokestatic 95, 3) := by decide +kernel
theorem dJ3_checkIndex_8e157_15 : decode cJ3_checkIndex_8e157 15 = .ok (.athrow, 1) := by decide +kernel
theorem dJ3_checkIndex_8e157_16 : decode cJ3_checkIndex_8e157 16 = .ok (.iload_n 0, 1) := by decide +kernel
theorem dJ3_checkIndex_8e157_17 : decode cJ3_checkIndex_8e157 17 = .ok (.ireturn, 1) := by decide +kernel
set_option maxRecDepth 20000 in
theorem ggJ0_length_8abf5_J0_coder_7d493 : GoodIn wsJ0_length_8abf5 wsJ0_coder_7d493 := goodIn_r _ [6, 7, 8] (by decide +kernel) (by decide +kernel)
set_option maxRecDepth 20000 in
theorem gJ0_length_8abf5_J0_coder_7d493 : GoodIn wsJ0_length_8abf5 (wsV RJ0 335 RJ0 yJ0_coder_7d493 wsJ0_coder_7d493) := goodIn_app (goodIn_of _ (by decide +kernel)) ggJ0_length_8abf5_J0_coder_7d493
set_option maxRecDepth 20000 in
theorem ggJ0_charAt_5068e_J0_isLatin1_aae02 : GoodIn wsJ0_charAt_5068e wsJ0_isLatin1_aae02 := goodIn_r _ [6, 7, 8] (by decide +kernel) (by decide +kernel)
set_option maxRecDepth 20000 in
theorem gJ0_charAt_5068e_J0_isLatin1_aae02 : GoodIn wsJ0_charAt_5068e (wsV RJ0 492 RJ0 yJ0_isLatin1_aae02 wsJ0_isLatin1_aae02) := goodIn_app (goodIn_of _ (by decide +kernel)) ggJ0_charAt_5068e_J0_isLatin1_aae02
set_option maxRecDepth 20000 in
theorem ggJ0_charAt_5068e_J1_charAt_3b067 : GoodIn wsJ0_charAt_5068e wsJ1_charAt_3b067 := goodIn_r _ [12, 13, 14, 5, 15, 16, 17, 18, 19, 20] (by decide +kernel) (by decide +kernel)
set_option maxRecDepth 20000 in
theorem gJ0_charAt_5068e_J1_charAt_3b067 : GoodIn wsJ0_charAt_5068e (va_wsS RJ0 495 yJ1_charAt_3b067 wsJ1_charAt_3b067) := goodIn_app (goodIn_of _ (by decide +kernel)) ggJ0_charAt_5068e_J1_charAt_3b067
set_option maxRecDepth 20000 in
theorem ggJ0_checkIndex_df160_J3_checkIndex_8e157 : GoodIn wsJ0_checkIndex_df160 wsJ3_checkIndex_8e157 := goodIn_r _ [5] (by decide +kernel) (by decide +kernel)
set_option maxRecDepth 20000 in
theorem gJ0_checkIndex_df160_J3_checkIndex_8e157 : GoodIn wsJ0_checkIndex_df160 (va_wsS RJ0 1059 yJ3_checkIndex_8e157 wsJ3_checkIndex_8e157) := goodIn_app (goodIn_of _ (by decide +kernel)) ggJ0_checkIndex_df160_J3_checkIndex_8e157
set_option maxRecDepth 20000 in
theorem ggJ1_charAt_3b067_J0_checkIndex_df160 : GoodIn wsJ1_charAt_3b067 wsJ0_checkIndex_df160 := goodIn_r _ [4, 5, 6, 7, 8, 9] (by decide +kernel) (by decide +kernel)
set_option maxRecDepth 20000 in
theorem gJ1_charAt_3b067_J0_checkIndex_df160 : GoodIn wsJ1_charAt_3b067 (va_wsS RJ1 9 yJ0_checkIndex_df160 wsJ0_checkIndex_df160) := goodIn_app (goodIn_of _ (by decide +kernel)) ggJ1_charAt_3b067_J0_checkIndex_df160
/-- a String constant that nobody writes: its cell, coder 0, its bytes; and the statics that its methods read -/
def st_S (a v n : Nat) (f : Nat → Int32) (A : Nat → Prop) (U : State) (H : Heap) : Prop := va_O "java/lang/String" a A U H ∧ va_OF "java/lang/String" "coder" "B" (.int 0) a A U H ∧ va_OF "java/lang/String" "value" "[B" (.ref v) a A U H ∧ va_T .byte v n (fun j => .int (f j)) A U H ∧ va_Z "java/lang/String" "COMPACT_STRINGS" "Z" (.int 1) A U H ∧ va_Zq "jdk/internal/util/Preconditions" "SIOOBE_FORMATTER" "Ljava/util/function/BiFunction;" A U H
theorem st_S.moved {a v n : Nat} {f : Nat → Int32} {A : Nat → Prop} {u U : State} {H : Heap} (hvm : u.vm.Alike U.vm) (h : st_S a v n f A u H) : st_S a v n f A U H := ⟨va_O.moved hvm h.1, va_OF.moved hvm h.2.1, va_OF.moved hvm h.2.2.1, va_T.moved hvm h.2.2.2.1, va_Z.moved hvm h.2.2.2.2.1, va_Zq.moved hvm h.2.2.2.2.2⟩
theorem st_S.kept {a v n : Nat} {f : Nat → Int32} {A : Nat → Prop} {U : State} {H H1 : Heap} (h : st_S a v n f A U H) (hq : ∀ a : Nat, a < H.size → ¬ A a → H1[a]? = H[a]?) : st_S a v n f A U H1 := ⟨h.1.kept hq, h.2.1.kept hq, h.2.2.1.kept hq, h.2.2.2.1.kept hq, h.2.2.2.2.1.kept hq, h.2.2.2.2.2.kept hq⟩
theorem st_S.narrow {a v n : Nat} {f : Nat → Int32} {A B : Nat → Prop} {U : State} {H : Heap} (h : st_S a v n f A U H) (hAB : ∀ q, B q → A q) : st_S a v n f B U H := ⟨h.1.narrow hAB, h.2.1.narrow hAB, h.2.2.1.narrow hAB, h.2.2.2.1.narrow hAB, h.2.2.2.2.1.narrow hAB, h.2.2.2.2.2.narrow hAB⟩
theorem st_S.recv {a v n : Nat} {f : Nat → Int32} {A : Nat → Prop} {s : State} {H : Heap} {locs : List Loc} (h : st_S a v n f A s s.heap) (hS : va_S A s.heap H locs) : ∃ cell : Cell, H[a]? = some cell ∧ cell.vm.isStatics = false ∧ s.vm.findClass "java/lang/String" = some cell.cls := by
  obtain ⟨cell, h1, h2, h3, -⟩ := h.1.kept hS.2.1
  exact ⟨cell, h1, h2, h3⟩
set_option maxHeartbeats 1000000 in
set_option maxRecDepth 100000 in
/-- coder() is 0 -/
theorem c_coder (l : Launch) (dC : Nat → ClassId) (dI : Nat → Nat → Nat) (sz : Nat) (a v n : Nat) (f : Nat → Int32) : Met l yJ0_coder_7d493 wsJ0_coder_7d493 ({ frames := 0, cells := 0, slots := 0, locals := 0 }) (va_Pc [.ref a] (fun U => U.heap.size = sz ∧ va_P (dC, dI) vwCl [] U.heap ∧ va_K (dC, dI) vwCl [] U ∧ va_D (fun _ => True) [] ∧ st_S a v n f (va_A [] sz) U U.heap)) (va_Qi (fun (r : Int32) (_ : Unit) => r = 0) (fun _ t => va_P (dC, dI) vwCl [] t.heap ∧ va_K (dC, dI) vwCl [] t ∧ va_D (va_A [] sz) []) (va_A [] sz)) (0) (0) (va_A [] sz) := by
  refine Met.ofW (cc := cJ0_coder_7d493) (maxL := 1) (ret := (some .byte)) (by decide) rfl ?_
  intro p e s m args below meth c s₁ B hml hv
  obtain ⟨rfl, hsz, hP, hK, hD0, hst⟩ := hv
  have hx := B.exec
  have hb := B.bytes
  have hr := B.returns
  have hts := atoms_spec (ws := wsJ0_coder_7d493) B.pre
  have hown : s.vm.findClass RJ0 = some m.cls := findClass_of_methodNamed B.named
  have hlocks := B.notSynchronized
  subst hsz
  have hD := hD0.self (sz := s.heap.size)
  generalize hAe : va_A [] s.heap.size = A at hD hst ⊢
  have hA : ∀ q : Nat, s.heap.size ≤ q → A q := fun q h => by rw [← hAe]; exact Or.inr h
  have hS : va_S A s.heap s.heap [] := va_S.rf
  have hl := lv_entry ([.ref a]) (n := 1) (Nat.le_of_ble_eq_true rfl)
  rw [lg_entry_eq]
  generalize (lg_sl ([.ref a]) ++ List.replicate (1 - (lg_sl ([.ref a])).length) Slot.unset).toArray = ls at hl ⊢
  have hl : lv_has ls 1 [(0, .ref a)] := hl
  refine va_gets hx hb hst.2.2.2.2.1 hS hown (hts (.fieldLink RJ0 38 "java/lang/String" "COMPACT_STRINGS" "Z") (by decide +kernel)) (fun _ h9 => h9) dJ0_coder_7d493_0 ?_
  refine lv_if_eq (tgt := 13) hx hb dJ0_coder_7d493_3 (by decide) (fun c9 => absurd c9 (by decide)) (fun _ => ?_)
  refine lv_aload_n hx hb dJ0_coder_7d493_6 rfl (lv_at hl 0 rfl) ?_
  refine vk_getf hx hb hst.2.1 hS hown (hts (.fieldLink RJ0 15 "java/lang/String" "coder" "B") (by decide +kernel)) (fun _ h9 => h9) dJ0_coder_7d493_7 ?_
  refine lv_goto (tgt := 14) hx hb dJ0_coder_7d493_10 (by decide) ?_
  have hP9 := hP.sub (ws' := []) [] rfl
  have hD9 := hD.sub (ws' := []) [] (by decide) rfl
  have hK9 := hK.sub (tys' := []) [] rfl
  refine W.widen (k := 0) (n := 0) (by omega) (by omega) ?_
  exact W.zret (v := 0) hx hb hr (rfl) (fun t ht hW => ⟨⟨0, (), rfl, rfl, by rw [ht]; exact hP9, va_K.moved hW.alike hK9, hD9⟩, hS.F ht⟩) hS.2.2 dJ0_coder_7d493_14
set_option maxHeartbeats 1000000 in
set_option maxRecDepth 100000 in
/-- isLatin1() is 1 -/
theorem c_isLatin1 (l : Launch) (dC : Nat → ClassId) (dI : Nat → Nat → Nat) (sz : Nat) (a v n : Nat) (f : Nat → Int32) : Met l yJ0_isLatin1_aae02 wsJ0_isLatin1_aae02 ({ frames := 0, cells := 0, slots := 0, locals := 0 }) (va_Pc [.ref a] (fun U => U.heap.size = sz ∧ va_P (dC, dI) vwCl [] U.heap ∧ va_K (dC, dI) vwCl [] U ∧ va_D (fun _ => True) [] ∧ st_S a v n f (va_A [] sz) U U.heap)) (va_Qi (fun (r : Int32) (_ : Unit) => r = 1) (fun _ t => va_P (dC, dI) vwCl [] t.heap ∧ va_K (dC, dI) vwCl [] t ∧ va_D (va_A [] sz) []) (va_A [] sz)) (0) (0) (va_A [] sz) := by
  refine Met.ofW (cc := cJ0_isLatin1_aae02) (maxL := 1) (ret := (some .boolean)) (by decide) rfl ?_
  intro p e s m args below meth c s₁ B hml hv
  obtain ⟨rfl, hsz, hP, hK, hD0, hst⟩ := hv
  have hx := B.exec
  have hb := B.bytes
  have hr := B.returns
  have hts := atoms_spec (ws := wsJ0_isLatin1_aae02) B.pre
  have hown : s.vm.findClass RJ0 = some m.cls := findClass_of_methodNamed B.named
  have hlocks := B.notSynchronized
  subst hsz
  have hD := hD0.self (sz := s.heap.size)
  generalize hAe : va_A [] s.heap.size = A at hD hst ⊢
  have hA : ∀ q : Nat, s.heap.size ≤ q → A q := fun q h => by rw [← hAe]; exact Or.inr h
  have hS : va_S A s.heap s.heap [] := va_S.rf
  have hl := lv_entry ([.ref a]) (n := 1) (Nat.le_of_ble_eq_true rfl)
  rw [lg_entry_eq]
  generalize (lg_sl ([.ref a]) ++ List.replicate (1 - (lg_sl ([.ref a])).length) Slot.unset).toArray = ls at hl ⊢
  have hl : lv_has ls 1 [(0, .ref a)] := hl
  refine va_gets hx hb hst.2.2.2.2.1 hS hown (hts (.fieldLink RJ0 38 "java/lang/String" "COMPACT_STRINGS" "Z") (by decide +kernel)) (fun _ h9 => h9) dJ0_isLatin1_aae02_0 ?_
  refine lv_if_eq (tgt := 17) hx hb dJ0_isLatin1_aae02_3 (by decide) (fun c9 => absurd c9 (by decide)) (fun _ => ?_)
  refine lv_aload_n hx hb dJ0_isLatin1_aae02_6 rfl (lv_at hl 0 rfl) ?_
  refine vk_getf hx hb hst.2.1 hS hown (hts (.fieldLink RJ0 15 "java/lang/String" "coder" "B") (by decide +kernel)) (fun _ h9 => h9) dJ0_isLatin1_aae02_7 ?_
  refine lv_if_ne (tgt := 17) hx hb dJ0_isLatin1_aae02_10 (by decide) (fun c9 => absurd c9 (by decide)) (fun _ => ?_)
  refine lv_iconst (v := 1) hx hb dJ0_isLatin1_aae02_13 (by decide) ?_
  refine lv_goto (tgt := 18) hx hb dJ0_isLatin1_aae02_14 (by decide) ?_
  have hP9 := hP.sub (ws' := []) [] rfl
  have hD9 := hD.sub (ws' := []) [] (by decide) rfl
  have hK9 := hK.sub (tys' := []) [] rfl
  refine W.widen (k := 0) (n := 0) (by omega) (by omega) ?_
  exact W.zret (v := 1) hx hb hr (rfl) (fun t ht hW => ⟨⟨1, (), rfl, rfl, by rw [ht]; exact hP9, va_K.moved hW.alike hK9, hD9⟩, hS.F ht⟩) hS.2.2 dJ0_isLatin1_aae02_18
set_option maxHeartbeats 1000000 in
set_option maxRecDepth 100000 in
/-- length() is n -/
theorem c_length (l : Launch) (dC : Nat → ClassId) (dI : Nat → Nat → Nat) (sz : Nat) (a v n : Nat) (f : Nat → Int32) : Met l yJ0_length_8abf5 wsJ0_length_8abf5 ({ frames := 1, cells := 0, slots := 0, locals := 20 }) (va_Pc [.ref a] (fun U => U.heap.size = sz ∧ va_P (dC, dI) vwCl [] U.heap ∧ va_K (dC, dI) vwCl [] U ∧ va_D (fun _ => True) [] ∧ st_S a v n f (va_A [] sz) U U.heap)) (va_Qi (fun (r : Int32) (_ : Unit) => r = nI n) (fun _ t => va_P (dC, dI) vwCl [] t.heap ∧ va_K (dC, dI) vwCl [] t ∧ va_D (va_A [] sz) []) (va_A [] sz)) (0) (0) (va_A [] sz) := by
  refine Met.ofW (cc := cJ0_length_8abf5) (maxL := 1) (ret := (some .int)) (by decide) rfl ?_
  intro p e s m args below meth c s₁ B hml hv
  obtain ⟨rfl, hsz, hP, hK, hD0, hst⟩ := hv
  have hx := B.exec
  have hb := B.bytes
  have hr := B.returns
  have hts := atoms_spec (ws := wsJ0_length_8abf5) B.pre
  have hown : s.vm.findClass RJ0 = some m.cls := findClass_of_methodNamed B.named
  have hlocks := B.notSynchronized
  subst hsz
  have hD := hD0.self (sz := s.heap.size)
  generalize hAe : va_A [] s.heap.size = A at hD hst ⊢
  have hA : ∀ q : Nat, s.heap.size ≤ q → A q := fun q h => by rw [← hAe]; exact Or.inr h
  have hS : va_S A s.heap s.heap [] := va_S.rf
  have hl := lv_entry ([.ref a]) (n := 1) (Nat.le_of_ble_eq_true rfl)
  rw [lg_entry_eq]
  generalize (lg_sl ([.ref a]) ++ List.replicate (1 - (lg_sl ([.ref a])).length) Slot.unset).toArray = ls at hl ⊢
  have hl : lv_has ls 1 [(0, .ref a)] := hl
  refine lv_aload_n hx hb dJ0_length_8abf5_0 rfl (lv_at hl 0 rfl) ?_
  refine vk_getf hx hb hst.2.2.1 hS hown (hts (.fieldLink RJ0 9 "java/lang/String" "value" "[B") (by decide +kernel)) (fun _ h9 => h9) dJ0_length_8abf5_1 ?_
  refine va_tlen hx hb hst.2.2.2.1 hS (v := nI n) rfl dJ0_length_8abf5_4 ?_
  refine lv_aload_n hx hb dJ0_length_8abf5_5 rfl (lv_at hl 0 rfl) ?_
  have hPc := hP.sub (ws' := []) [] rfl
  have hDc := hD.sub (ws' := []) [] (by decide) rfl
  have hKc := hK.sub (tys' := []) [] rfl
  have hFc := va_free (wc := []) hD hS hA [] rfl
  refine va_calli (va_runV (As := []) (rest := [.int (nI n)]) ⟨hx, hb, hml, hown, hts⟩ (c_coder l dC dI s.heap.size a v n f) (cwV 0 hts gJ0_length_8abf5_J0_coder_7d493 rfl rfl rfl (by decide +kernel) ⟨Nat.le_of_ble_eq_true rfl, Nat.le_of_ble_eq_true rfl⟩) ⟨fun a U g mk q => by obtain ⟨q0, q1, qP, qK, qD, qE0⟩ := q; exact ⟨q0, q1, qP, va_K.moved (u := U) (U := U.calling g mk a) (Vm.Alike.refl U.vm) qK, qD, st_S.moved (u := U) (U := U.calling g mk a) (Vm.Alike.refl U.vm) qE0⟩, hst.recv hS, fun U hU hW => ⟨rfl, by rw [hU], by rw [hU]; exact hPc, va_K.moved hW.alike hKc, hDc.weaken (fun _ _ _ _ => trivial), by rw [hU]; exact st_S.moved hW.alike ((hst.kept hS.2.1).narrow hFc)⟩⟩ rfl rfl hl.1 rfl (lv_room (Nat.le_of_ble_eq_true rfl)) dJ0_length_8abf5_6 ⟨(show 0 + 0 ≤ 0 by omega), (show 0 + 0 ≤ 0 by omega)⟩) hS (fun q _ h => hFc q h) hFc (fun r0 u t H1 locs ht hvm hw hB hz1 hk1 hS => ?_)
  obtain ⟨hP1, hK1, hD1⟩ := hB
  rw [ht] at hP1
  have hK1 := va_K.moved hvm.symm hK1
  obtain ⟨hP, hD⟩ := va_join (wr := []) (w1 := []) hP hD [] [] rfl rfl (by decide) (by decide) hk1 hFc hP1 hD1
  have hK := (hK.sub (tys' := []) [] rfl).app hK1
  generalize H1 = H at hP hS ⊢
  have hP : va_P (dC, dI) vwCl [] H := hP
  have hD : va_D A [] := hD
  have hK : va_K (dC, dI) vwCl [] s := hK
  refine W.widen (k := 0) (n := 0) (by omega) (by omega) ?_
  subst hw
  refine lv_ishr hx hb dJ0_length_8abf5_9 ?_
  have hP9 := hP.sub (ws' := []) [] rfl
  have hD9 := hD.sub (ws' := []) [] (by decide) rfl
  have hK9 := hK.sub (tys' := []) [] rfl
  refine W.widen (k := 0) (n := 0) (by omega) (by omega) ?_
  exact W.iret (v := (nI n >>> ((0 : Int32) &&& 31))) hx hb hr (fun t ht hW => ⟨⟨(nI n >>> ((0 : Int32) &&& 31)), (), rfl, sb_shr0 _, by rw [ht]; exact hP9, va_K.moved hW.alike hK9, hD9⟩, hS.F ht⟩) hS.2.2 dJ0_length_8abf5_10
set_option maxHeartbeats 1000000 in
set_option maxRecDepth 100000 in
/-- checkIndex of Preconditions, in range -/
theorem c_pcheck (l : Launch) (dC : Nat → ClassId) (dI : Nat → Nat → Nat) (sz : Nat) (a v n : Nat) (f : Nat → Int32) (k N : Nat) (hk : k < N) (hN : N < 2 ^ 31) : Met l yJ3_checkIndex_8e157 wsJ3_checkIndex_8e157 ({ frames := 0, cells := 0, slots := 0, locals := 0 }) (va_Pc [.int (nI k), .int (nI N), .null] (fun U => U.heap.size = sz ∧ va_P (dC, dI) vwCl [] U.heap ∧ va_K (dC, dI) vwCl [] U ∧ va_D (fun _ => True) [] ∧ st_S a v n f (va_A [] sz) U U.heap)) (va_Qi (fun (r : Int32) (_ : Unit) => r = nI k) (fun _ t => va_P (dC, dI) vwCl [] t.heap ∧ va_K (dC, dI) vwCl [] t ∧ va_D (va_A [] sz) []) (va_A [] sz)) (0) (0) (va_A [] sz) := by
  refine Met.ofW (cc := cJ3_checkIndex_8e157) (maxL := 3) (ret := (some .int)) (by decide) rfl ?_
  intro p e s m args below meth c s₁ B hml hv
  obtain ⟨rfl, hsz, hP, hK, hD0, hst⟩ := hv
  have hx := B.exec
  have hb := B.bytes
  have hr := B.returns
  have hts := atoms_spec (ws := wsJ3_checkIndex_8e157) B.pre
  have hown : s.vm.findClass RJ3 = some m.cls := findClass_of_methodNamed B.named
  have hlocks := B.notSynchronized
  subst hsz
  have hD := hD0.self (sz := s.heap.size)
  generalize hAe : va_A [] s.heap.size = A at hD hst ⊢
  have hA : ∀ q : Nat, s.heap.size ≤ q → A q := fun q h => by rw [← hAe]; exact Or.inr h
  have hS : va_S A s.heap s.heap [] := va_S.rf
  have hl := lv_entry ([.int (nI k), .int (nI N), .null]) (n := 3) (Nat.le_of_ble_eq_true rfl)
  rw [lg_entry_eq]
  generalize (lg_sl ([.int (nI k), .int (nI N), .null]) ++ List.replicate (3 - (lg_sl ([.int (nI k), .int (nI N), .null])).length) Slot.unset).toArray = ls at hl ⊢
  have hl : lv_has ls 3 [(0, .int (nI k)), (1, .int (nI N)), (2, .null)] := hl
  refine lv_iload_n hx hb dJ3_checkIndex_8e157_0 rfl (lv_at hl 0 rfl) ?_
  refine lv_if_lt (tgt := 9) hx hb dJ3_checkIndex_8e157_1 (by decide) (fun c9 => absurd c9 (nI_pos (by omega))) (fun _ => ?_)
  refine lv_iload_n hx hb dJ3_checkIndex_8e157_4 rfl (lv_at hl 0 rfl) ?_
  refine lv_iload_n hx hb dJ3_checkIndex_8e157_5 rfl (lv_at hl 1 rfl) ?_
  refine lv_icmp_lt (tgt := 16) hx hb dJ3_checkIndex_8e157_6 (by decide) (fun _ => ?_) (fun c9 => absurd (nI_lt hk (by omega)) c9)
  refine lv_iload_n hx hb dJ3_checkIndex_8e157_16 rfl (lv_at hl 0 rfl) ?_
  have hP9 := hP.sub (ws' := []) [] rfl
  have hD9 := hD.sub (ws' := []) [] (by decide) rfl
  have hK9 := hK.sub (tys' := []) [] rfl
  refine W.widen (k := 0) (n := 0) (by omega) (by omega) ?_
  exact W.iret (v := (nI k)) hx hb hr (fun t ht hW => ⟨⟨(nI k), (), rfl, rfl, by rw [ht]; exact hP9, va_K.moved hW.alike hK9, hD9⟩, hS.F ht⟩) hS.2.2 dJ3_checkIndex_8e157_17
set_option maxHeartbeats 1000000 in
set_option maxRecDepth 100000 in
/-- checkIndex of Preconditions, in range -/
theorem c_pcheck_r (l : Launch) (dC : Nat → ClassId) (dI : Nat → Nat → Nat) (sz : Nat) (a v n : Nat) (f : Nat → Int32) (k N o : Nat) (hk : k < N) (hN : N < 2 ^ 31) : Met l yJ3_checkIndex_8e157 wsJ3_checkIndex_8e157 ({ frames := 0, cells := 0, slots := 0, locals := 0 }) (va_Pc [.int (nI k), .int (nI N), .ref o] (fun U => U.heap.size = sz ∧ va_P (dC, dI) vwCl [] U.heap ∧ va_K (dC, dI) vwCl [] U ∧ va_D (fun _ => True) [] ∧ st_S a v n f (va_A [] sz) U U.heap)) (va_Qi (fun (r : Int32) (_ : Unit) => r = nI k) (fun _ t => va_P (dC, dI) vwCl [] t.heap ∧ va_K (dC, dI) vwCl [] t ∧ va_D (va_A [] sz) []) (va_A [] sz)) (0) (0) (va_A [] sz) := by
  refine Met.ofW (cc := cJ3_checkIndex_8e157) (maxL := 3) (ret := (some .int)) (by decide) rfl ?_
  intro p e s m args below meth c s₁ B hml hv
  obtain ⟨rfl, hsz, hP, hK, hD0, hst⟩ := hv
  have hx := B.exec
  have hb := B.bytes
  have hr := B.returns
  have hts := atoms_spec (ws := wsJ3_checkIndex_8e157) B.pre
  have hown : s.vm.findClass RJ3 = some m.cls := findClass_of_methodNamed B.named
  have hlocks := B.notSynchronized
  subst hsz
  have hD := hD0.self (sz := s.heap.size)
  generalize hAe : va_A [] s.heap.size = A at hD hst ⊢
  have hA : ∀ q : Nat, s.heap.size ≤ q → A q := fun q h => by rw [← hAe]; exact Or.inr h
  have hS : va_S A s.heap s.heap [] := va_S.rf
  have hl := lv_entry ([.int (nI k), .int (nI N), .ref o]) (n := 3) (Nat.le_of_ble_eq_true rfl)
  rw [lg_entry_eq]
  generalize (lg_sl ([.int (nI k), .int (nI N), .ref o]) ++ List.replicate (3 - (lg_sl ([.int (nI k), .int (nI N), .ref o])).length) Slot.unset).toArray = ls at hl ⊢
  have hl : lv_has ls 3 [(0, .int (nI k)), (1, .int (nI N)), (2, .ref o)] := hl
  refine lv_iload_n hx hb dJ3_checkIndex_8e157_0 rfl (lv_at hl 0 rfl) ?_
  refine lv_if_lt (tgt := 9) hx hb dJ3_checkIndex_8e157_1 (by decide) (fun c9 => absurd c9 (nI_pos (by omega))) (fun _ => ?_)
  refine lv_iload_n hx hb dJ3_checkIndex_8e157_4 rfl (lv_at hl 0 rfl) ?_
  refine lv_iload_n hx hb dJ3_checkIndex_8e157_5 rfl (lv_at hl 1 rfl) ?_
  refine lv_icmp_lt (tgt := 16) hx hb dJ3_checkIndex_8e157_6 (by decide) (fun _ => ?_) (fun c9 => absurd (nI_lt hk (by omega)) c9)
  refine lv_iload_n hx hb dJ3_checkIndex_8e157_16 rfl (lv_at hl 0 rfl) ?_
  have hP9 := hP.sub (ws' := []) [] rfl
  have hD9 := hD.sub (ws' := []) [] (by decide) rfl
  have hK9 := hK.sub (tys' := []) [] rfl
  refine W.widen (k := 0) (n := 0) (by omega) (by omega) ?_
  exact W.iret (v := (nI k)) hx hb hr (fun t ht hW => ⟨⟨(nI k), (), rfl, rfl, by rw [ht]; exact hP9, va_K.moved hW.alike hK9, hD9⟩, hS.F ht⟩) hS.2.2 dJ3_checkIndex_8e157_17
set_option maxHeartbeats 1000000 in
set_option maxRecDepth 100000 in
/-- String.checkIndex, in range -/
theorem c_scheck (l : Launch) (dC : Nat → ClassId) (dI : Nat → Nat → Nat) (sz : Nat) (a v n : Nat) (f : Nat → Int32) (k N : Nat) (hk : k < N) (hN : N < 2 ^ 31) : Met l yJ0_checkIndex_df160 wsJ0_checkIndex_df160 ({ frames := 1, cells := 0, slots := 0, locals := 22 }) (va_Pc [.int (nI k), .int (nI N)] (fun U => U.heap.size = sz ∧ va_P (dC, dI) vwCl [] U.heap ∧ va_K (dC, dI) vwCl [] U ∧ va_D (fun _ => True) [] ∧ st_S a v n f (va_A [] sz) U U.heap)) (va_Qv (fun _ : Unit => True) (fun _ t => va_P (dC, dI) vwCl [] t.heap ∧ va_K (dC, dI) vwCl [] t ∧ va_D (va_A [] sz) []) (va_A [] sz)) (0) (0) (va_A [] sz) := by
  refine Met.ofW (cc := cJ0_checkIndex_df160) (maxL := 2) (ret := none) (by decide) rfl ?_
  intro p e s m args below meth c s₁ B hml hv
  obtain ⟨rfl, hsz, hP, hK, hD0, hst⟩ := hv
  have hx := B.exec
  have hb := B.bytes
  have hr := B.returns
  have hts := atoms_spec (ws := wsJ0_checkIndex_df160) B.pre
  have hown : s.vm.findClass RJ0 = some m.cls := findClass_of_methodNamed B.named
  have hlocks := B.notSynchronized
  subst hsz
  have hD := hD0.self (sz := s.heap.size)
  generalize hAe : va_A [] s.heap.size = A at hD hst ⊢
  have hA : ∀ q : Nat, s.heap.size ≤ q → A q := fun q h => by rw [← hAe]; exact Or.inr h
  have hS : va_S A s.heap s.heap [] := va_S.rf
  have hl := lv_entry ([.int (nI k), .int (nI N)]) (n := 2) (Nat.le_of_ble_eq_true rfl)
  rw [lg_entry_eq]
  generalize (lg_sl ([.int (nI k), .int (nI N)]) ++ List.replicate (2 - (lg_sl ([.int (nI k), .int (nI N)])).length) Slot.unset).toArray = ls at hl ⊢
  have hl : lv_has ls 2 [(0, .int (nI k)), (1, .int (nI N))] := hl
  refine lv_iload_n hx hb dJ0_checkIndex_df160_0 rfl (lv_at hl 0 rfl) ?_
  refine lv_iload_n hx hb dJ0_checkIndex_df160_1 rfl (lv_at hl 1 rfl) ?_
  rcases hst.2.2.2.2.2 with hZ | ⟨o, hZ⟩
  · skip
    refine va_gets hx hb hZ hS hown (hts (.fieldLink RJ0 1053 "jdk/internal/util/Preconditions" "SIOOBE_FORMATTER" "Ljava/util/function/BiFunction;") (by decide +kernel)) (fun _ h9 => h9) dJ0_checkIndex_df160_2 ?_
    have hPc := hP.sub (ws' := []) [] rfl
    have hDc := hD.sub (ws' := []) [] (by decide) rfl
    have hKc := hK.sub (tys' := []) [] rfl
    have hFc := va_free (wc := []) hD hS hA [] rfl
    refine va_calli (va_runS (As := [.int (nI k), .int (nI N), .null]) (rest := []) ⟨hx, hb, hml, hown, hts⟩ (c_pcheck l dC dI s.heap.size a v n f k N hk hN) (va_cwS 3 hts gJ0_checkIndex_df160_J3_checkIndex_8e157 rfl rfl rfl (by decide +kernel) ⟨Nat.le_of_ble_eq_true rfl, Nat.le_of_ble_eq_true rfl⟩) ⟨fun a U g mk q => by obtain ⟨q0, q1, qP, qK, qD, qE0⟩ := q; exact ⟨q0, q1, qP, va_K.moved (u := U) (U := U.calling g mk a) (Vm.Alike.refl U.vm) qK, qD, st_S.moved (u := U) (U := U.calling g mk a) (Vm.Alike.refl U.vm) qE0⟩, fun U hU hW => ⟨rfl, by rw [hU], by rw [hU]; exact hPc, va_K.moved hW.alike hKc, hDc.weaken (fun _ _ _ _ => trivial), by rw [hU]; exact st_S.moved hW.alike ((hst.kept hS.2.1).narrow hFc)⟩⟩ rfl rfl hl.1 rfl (lv_room (Nat.le_of_ble_eq_true rfl)) dJ0_checkIndex_df160_5 ⟨(show 0 + 0 ≤ 0 by omega), (show 0 + 0 ≤ 0 by omega)⟩) hS (fun q _ h => hFc q h) hFc (fun r0 u t H1 locs ht hvm hw hB hz1 hk1 hS => ?_)
    obtain ⟨hP1, hK1, hD1⟩ := hB
    rw [ht] at hP1
    have hK1 := va_K.moved hvm.symm hK1
    obtain ⟨hP, hD⟩ := va_join (wr := []) (w1 := []) hP hD [] [] rfl rfl (by decide) (by decide) hk1 hFc hP1 hD1
    have hK := (hK.sub (tys' := []) [] rfl).app hK1
    generalize H1 = H at hP hS ⊢
    have hP : va_P (dC, dI) vwCl [] H := hP
    have hD : va_D A [] := hD
    have hK : va_K (dC, dI) vwCl [] s := hK
    refine W.widen (k := 0) (n := 0) (by omega) (by omega) ?_
    refine lv_pop hx hb dJ0_checkIndex_df160_8 rfl ?_
    have hP9 := hP.sub (ws' := []) [] rfl
    have hD9 := hD.sub (ws' := []) [] (by decide) rfl
    have hK9 := hK.sub (tys' := []) [] rfl
    refine W.widen (k := 0) (n := 0) (by omega) (by omega) ?_
    exact W.vret hx hb hr (fun t ht hW => ⟨⟨(), rfl, trivial, by rw [ht]; exact hP9, va_K.moved hW.alike hK9, hD9⟩, hS.F ht⟩) hS.2.2 dJ0_checkIndex_df160_9
  · skip
    refine va_gets hx hb hZ hS hown (hts (.fieldLink RJ0 1053 "jdk/internal/util/Preconditions" "SIOOBE_FORMATTER" "Ljava/util/function/BiFunction;") (by decide +kernel)) (fun _ h9 => h9) dJ0_checkIndex_df160_2 ?_
    have hPc := hP.sub (ws' := []) [] rfl
    have hDc := hD.sub (ws' := []) [] (by decide) rfl
    have hKc := hK.sub (tys' := []) [] rfl
    have hFc := va_free (wc := []) hD hS hA [] rfl
    refine va_calli (va_runS (As := [.int (nI k), .int (nI N), .ref o]) (rest := []) ⟨hx, hb, hml, hown, hts⟩ (c_pcheck_r l dC dI s.heap.size a v n f k N o hk hN) (va_cwS 3 hts gJ0_checkIndex_df160_J3_checkIndex_8e157 rfl rfl rfl (by decide +kernel) ⟨Nat.le_of_ble_eq_true rfl, Nat.le_of_ble_eq_true rfl⟩) ⟨fun a U g mk q => by obtain ⟨q0, q1, qP, qK, qD, qE0⟩ := q; exact ⟨q0, q1, qP, va_K.moved (u := U) (U := U.calling g mk a) (Vm.Alike.refl U.vm) qK, qD, st_S.moved (u := U) (U := U.calling g mk a) (Vm.Alike.refl U.vm) qE0⟩, fun U hU hW => ⟨rfl, by rw [hU], by rw [hU]; exact hPc, va_K.moved hW.alike hKc, hDc.weaken (fun _ _ _ _ => trivial), by rw [hU]; exact st_S.moved hW.alike ((hst.kept hS.2.1).narrow hFc)⟩⟩ rfl rfl hl.1 rfl (lv_room (Nat.le_of_ble_eq_true rfl)) dJ0_checkIndex_df160_5 ⟨(show 0 + 0 ≤ 0 by omega), (show 0 + 0 ≤ 0 by omega)⟩) hS (fun q _ h => hFc q h) hFc (fun r0 u t H1 locs ht hvm hw hB hz1 hk1 hS => ?_)
    obtain ⟨hP1, hK1, hD1⟩ := hB
    rw [ht] at hP1
    have hK1 := va_K.moved hvm.symm hK1
    obtain ⟨hP, hD⟩ := va_join (wr := []) (w1 := []) hP hD [] [] rfl rfl (by decide) (by decide) hk1 hFc hP1 hD1
    have hK := (hK.sub (tys' := []) [] rfl).app hK1
    generalize H1 = H at hP hS ⊢
    have hP : va_P (dC, dI) vwCl [] H := hP
    have hD : va_D A [] := hD
    have hK : va_K (dC, dI) vwCl [] s := hK
    refine W.widen (k := 0) (n := 0) (by omega) (by omega) ?_
    refine lv_pop hx hb dJ0_checkIndex_df160_8 rfl ?_
    have hP9 := hP.sub (ws' := []) [] rfl
    have hD9 := hD.sub (ws' := []) [] (by decide) rfl
    have hK9 := hK.sub (tys' := []) [] rfl
    refine W.widen (k := 0) (n := 0) (by omega) (by omega) ?_
    exact W.vret hx hb hr (fun t ht hW => ⟨⟨(), rfl, trivial, by rw [ht]; exact hP9, va_K.moved hW.alike hK9, hD9⟩, hS.F ht⟩) hS.2.2 dJ0_checkIndex_df160_9
set_option maxHeartbeats 1000000 in
set_option maxRecDepth 100000 in
/-- StringLatin1.charAt, in range -/
theorem c_lcharAt (l : Launch) (dC : Nat → ClassId) (dI : Nat → Nat → Nat) (sz : Nat) (a v n : Nat) (f : Nat → Int32) (k : Nat) (hk : k < n) (hn : n < 2 ^ 31) : Met l yJ1_charAt_3b067 wsJ1_charAt_3b067 ({ frames := 2, cells := 0, slots := 0, locals := 43 }) (va_Pc [.ref v, .int (nI k)] (fun U => U.heap.size = sz ∧ va_P (dC, dI) vwCl [] U.heap ∧ va_K (dC, dI) vwCl [] U ∧ va_D (fun _ => True) [] ∧ st_S a v n f (va_A [] sz) U U.heap)) (va_Qi (fun (r : Int32) (_ : Unit) => narrow .char (.int r) = .int r) (fun _ t => va_P (dC, dI) vwCl [] t.heap ∧ va_K (dC, dI) vwCl [] t ∧ va_D (va_A [] sz) []) (va_A [] sz)) (0) (0) (va_A [] sz) := by
  refine Met.ofW (cc := cJ1_charAt_3b067) (maxL := 2) (ret := (some .char)) (by decide) rfl ?_
  intro p e s m args below meth c s₁ B hml hv
  obtain ⟨rfl, hsz, hP, hK, hD0, hst⟩ := hv
  have hx := B.exec
  have hb := B.bytes
  have hr := B.returns
  have hts := atoms_spec (ws := wsJ1_charAt_3b067) B.pre
  have hown : s.vm.findClass RJ1 = some m.cls := findClass_of_methodNamed B.named
  have hlocks := B.notSynchronized
  subst hsz
  have hD := hD0.self (sz := s.heap.size)
  generalize hAe : va_A [] s.heap.size = A at hD hst ⊢
  have hA : ∀ q : Nat, s.heap.size ≤ q → A q := fun q h => by rw [← hAe]; exact Or.inr h
  have hS : va_S A s.heap s.heap [] := va_S.rf
  have hl := lv_entry ([.ref v, .int (nI k)]) (n := 2) (Nat.le_of_ble_eq_true rfl)
  rw [lg_entry_eq]
  generalize (lg_sl ([.ref v, .int (nI k)]) ++ List.replicate (2 - (lg_sl ([.ref v, .int (nI k)])).length) Slot.unset).toArray = ls at hl ⊢
  have hl : lv_has ls 2 [(0, .ref v), (1, .int (nI k))] := hl
  refine lv_iload_n hx hb dJ1_charAt_3b067_0 rfl (lv_at hl 1 rfl) ?_
  refine lv_aload_n hx hb dJ1_charAt_3b067_1 rfl (lv_at hl 0 rfl) ?_
  refine va_tlen hx hb hst.2.2.2.1 hS (v := nI n) rfl dJ1_charAt_3b067_2 ?_
  have hPc := hP.sub (ws' := []) [] rfl
  have hDc := hD.sub (ws' := []) [] (by decide) rfl
  have hKc := hK.sub (tys' := []) [] rfl
  have hFc := va_free (wc := []) hD hS hA [] rfl
  refine va_callv (va_runS (As := [.int (nI k), .int (nI n)]) (rest := []) ⟨hx, hb, hml, hown, hts⟩ (c_scheck l dC dI s.heap.size a v n f k n hk hn) (va_cwS 2 hts gJ1_charAt_3b067_J0_checkIndex_df160 rfl rfl rfl (by decide +kernel) ⟨Nat.le_of_ble_eq_true rfl, Nat.le_of_ble_eq_true rfl⟩) ⟨fun a U g mk q => by obtain ⟨q0, q1, qP, qK, qD, qE0⟩ := q; exact ⟨q0, q1, qP, va_K.moved (u := U) (U := U.calling g mk a) (Vm.Alike.refl U.vm) qK, qD, st_S.moved (u := U) (U := U.calling g mk a) (Vm.Alike.refl U.vm) qE0⟩, fun U hU hW => ⟨rfl, by rw [hU], by rw [hU]; exact hPc, va_K.moved hW.alike hKc, hDc.weaken (fun _ _ _ _ => trivial), by rw [hU]; exact st_S.moved hW.alike ((hst.kept hS.2.1).narrow hFc)⟩⟩ rfl rfl hl.1 rfl (lv_room (Nat.le_of_ble_eq_true rfl)) dJ1_charAt_3b067_3 ⟨(show 0 + 0 ≤ 0 by omega), (show 0 + 0 ≤ 0 by omega)⟩) hS (fun q _ h => hFc q h) hFc (fun u t H1 locs ht hvm hw hB hz1 hk1 hS => ?_)
  obtain ⟨hP1, hK1, hD1⟩ := hB
  rw [ht] at hP1
  have hK1 := va_K.moved hvm.symm hK1
  obtain ⟨hP, hD⟩ := va_join (wr := []) (w1 := []) hP hD [] [] rfl rfl (by decide) (by decide) hk1 hFc hP1 hD1
  have hK := (hK.sub (tys' := []) [] rfl).app hK1
  generalize H1 = H at hP hS ⊢
  have hP : va_P (dC, dI) vwCl [] H := hP
  have hD : va_D A [] := hD
  have hK : va_K (dC, dI) vwCl [] s := hK
  refine W.widen (k := 0) (n := 0) (by omega) (by omega) ?_
  refine lv_aload_n hx hb dJ1_charAt_3b067_6 rfl (lv_at hl 0 rfl) ?_
  refine lv_iload_n hx hb dJ1_charAt_3b067_7 rfl (lv_at hl 1 rfl) ?_
  refine va_tb hx hb hst.2.2.2.1 hS (vp_in_nI hk hn) (v := .int (f (nI k).toNatClampNeg)) rfl dJ1_charAt_3b067_8 ?_
  refine lv_sipush (v := 255) hx hb dJ1_charAt_3b067_9 (by decide) ?_
  refine lv_iand hx hb dJ1_charAt_3b067_12 ?_
  refine lv_i2c (v := ((f (nI k).toNatClampNeg &&& 255).toUInt32 % 65536).toInt32) hx hb dJ1_charAt_3b067_13 rfl ?_
  have hP9 := hP.sub (ws' := []) [] rfl
  have hD9 := hD.sub (ws' := []) [] (by decide) rfl
  have hK9 := hK.sub (tys' := []) [] rfl
  refine W.widen (k := 0) (n := 0) (by omega) (by omega) ?_
  exact W.zret (v := ((f (nI k).toNatClampNeg &&& 255).toUInt32 % 65536).toInt32) hx hb hr (pk_nc _) (fun t ht hW => ⟨⟨((f (nI k).toNatClampNeg &&& 255).toUInt32 % 65536).toInt32, (), rfl, pk_nc _, by rw [ht]; exact hP9, va_K.moved hW.alike hK9, hD9⟩, hS.F ht⟩) hS.2.2 dJ1_charAt_3b067_14
set_option maxHeartbeats 1000000 in
set_option maxRecDepth 100000 in
/-- charAt(k), in range -/
theorem c_charAt (l : Launch) (dC : Nat → ClassId) (dI : Nat → Nat → Nat) (sz : Nat) (a v n : Nat) (f : Nat → Int32) (k : Nat) (hk : k < n) (hn : n < 2 ^ 31) : Met l yJ0_charAt_5068e wsJ0_charAt_5068e ({ frames := 3, cells := 0, slots := 0, locals := 64 }) (va_Pc [.ref a, .int (nI k)] (fun U => U.heap.size = sz ∧ va_P (dC, dI) vwCl [] U.heap ∧ va_K (dC, dI) vwCl [] U ∧ va_D (fun _ => True) [] ∧ st_S a v n f (va_A [] sz) U U.heap)) (va_Qi (fun (r : Int32) (_ : Unit) => narrow .char (.int r) = .int r) (fun _ t => va_P (dC, dI) vwCl [] t.heap ∧ va_K (dC, dI) vwCl [] t ∧ va_D (va_A [] sz) []) (va_A [] sz)) (0) (0) (va_A [] sz) := by
  refine Met.ofW (cc := cJ0_charAt_5068e) (maxL := 2) (ret := (some .char)) (by decide) rfl ?_
  intro p e s m args below meth c s₁ B hml hv
  obtain ⟨rfl, hsz, hP, hK, hD0, hst⟩ := hv
  have hx := B.exec
  have hb := B.bytes
  have hr := B.returns
  have hts := atoms_spec (ws := wsJ0_charAt_5068e) B.pre
  have hown : s.vm.findClass RJ0 = some m.cls := findClass_of_methodNamed B.named
  have hlocks := B.notSynchronized
  subst hsz
  have hD := hD0.self (sz := s.heap.size)
  generalize hAe : va_A [] s.heap.size = A at hD hst ⊢
  have hA : ∀ q : Nat, s.heap.size ≤ q → A q := fun q h => by rw [← hAe]; exact Or.inr h
  have hS : va_S A s.heap s.heap [] := va_S.rf
  have hl := lv_entry ([.ref a, .int (nI k)]) (n := 2) (Nat.le_of_ble_eq_true rfl)
  rw [lg_entry_eq]
  generalize (lg_sl ([.ref a, .int (nI k)]) ++ List.replicate (2 - (lg_sl ([.ref a, .int (nI k)])).length) Slot.unset).toArray = ls at hl ⊢
  have hl : lv_has ls 2 [(0, .ref a), (1, .int (nI k))] := hl
  refine lv_aload_n hx hb dJ0_charAt_5068e_0 rfl (lv_at hl 0 rfl) ?_
  have hPc := hP.sub (ws' := []) [] rfl
  have hDc := hD.sub (ws' := []) [] (by decide) rfl
  have hKc := hK.sub (tys' := []) [] rfl
  have hFc := va_free (wc := []) hD hS hA [] rfl
  refine va_calli (va_runV (As := []) (rest := []) ⟨hx, hb, hml, hown, hts⟩ (c_isLatin1 l dC dI s.heap.size a v n f) (cwV 0 hts gJ0_charAt_5068e_J0_isLatin1_aae02 rfl rfl rfl (by decide +kernel) ⟨Nat.le_of_ble_eq_true rfl, Nat.le_of_ble_eq_true rfl⟩) ⟨fun a U g mk q => by obtain ⟨q0, q1, qP, qK, qD, qE0⟩ := q; exact ⟨q0, q1, qP, va_K.moved (u := U) (U := U.calling g mk a) (Vm.Alike.refl U.vm) qK, qD, st_S.moved (u := U) (U := U.calling g mk a) (Vm.Alike.refl U.vm) qE0⟩, hst.recv hS, fun U hU hW => ⟨rfl, by rw [hU], by rw [hU]; exact hPc, va_K.moved hW.alike hKc, hDc.weaken (fun _ _ _ _ => trivial), by rw [hU]; exact st_S.moved hW.alike ((hst.kept hS.2.1).narrow hFc)⟩⟩ rfl rfl hl.1 rfl (lv_room (Nat.le_of_ble_eq_true rfl)) dJ0_charAt_5068e_1 ⟨(show 0 + 0 ≤ 0 by omega), (show 0 + 0 ≤ 0 by omega)⟩) hS (fun q _ h => hFc q h) hFc (fun r0 u t H1 locs ht hvm hw hB hz1 hk1 hS => ?_)
  obtain ⟨hP1, hK1, hD1⟩ := hB
  rw [ht] at hP1
  have hK1 := va_K.moved hvm.symm hK1
  obtain ⟨hP, hD⟩ := va_join (wr := []) (w1 := []) hP hD [] [] rfl rfl (by decide) (by decide) hk1 hFc hP1 hD1
  have hK := (hK.sub (tys' := []) [] rfl).app hK1
  generalize H1 = H at hP hS ⊢
  have hP : va_P (dC, dI) vwCl [] H := hP
  have hD : va_D A [] := hD
  have hK : va_K (dC, dI) vwCl [] s := hK
  refine W.widen (k := 0) (n := 0) (by omega) (by omega) ?_
  subst hw
  refine lv_if_eq (tgt := 16) hx hb dJ0_charAt_5068e_4 (by decide) (fun c9 => absurd c9 (by decide)) (fun _ => ?_)
  refine lv_aload_n hx hb dJ0_charAt_5068e_7 rfl (lv_at hl 0 rfl) ?_
  refine vk_getf hx hb hst.2.2.1 hS hown (hts (.fieldLink RJ0 9 "java/lang/String" "value" "[B") (by decide +kernel)) (fun _ h9 => h9) dJ0_charAt_5068e_8 ?_
  refine lv_iload_n hx hb dJ0_charAt_5068e_11 rfl (lv_at hl 1 rfl) ?_
  have hPc := hP.sub (ws' := []) [] rfl
  have hDc := hD.sub (ws' := []) [] (by decide) rfl
  have hKc := hK.sub (tys' := []) [] rfl
  have hFc := va_free (wc := []) hD hS hA [] rfl
  refine va_calli (va_runS (As := [.ref v, .int (nI k)]) (rest := []) ⟨hx, hb, hml, hown, hts⟩ (c_lcharAt l dC dI H.size a v n f k hk hn) (va_cwS 2 hts gJ0_charAt_5068e_J1_charAt_3b067 rfl rfl rfl (by decide +kernel) ⟨Nat.le_of_ble_eq_true rfl, Nat.le_of_ble_eq_true rfl⟩) ⟨fun a U g mk q => by obtain ⟨q0, q1, qP, qK, qD, qE0⟩ := q; exact ⟨q0, q1, qP, va_K.moved (u := U) (U := U.calling g mk a) (Vm.Alike.refl U.vm) qK, qD, st_S.moved (u := U) (U := U.calling g mk a) (Vm.Alike.refl U.vm) qE0⟩, fun U hU hW => ⟨rfl, by rw [hU], by rw [hU]; exact hPc, va_K.moved hW.alike hKc, hDc.weaken (fun _ _ _ _ => trivial), by rw [hU]; exact st_S.moved hW.alike ((hst.kept hS.2.1).narrow hFc)⟩⟩ rfl rfl hl.1 rfl (lv_room (Nat.le_of_ble_eq_true rfl)) dJ0_charAt_5068e_12 ⟨(show 0 + 0 ≤ 0 by omega), (show 0 + 0 ≤ 0 by omega)⟩) hS (fun q _ h => hFc q h) hFc (fun r1 u t H1 locs ht hvm hw hB hz1 hk1 hS => ?_)
  obtain ⟨hP1, hK1, hD1⟩ := hB
  rw [ht] at hP1
  have hK1 := va_K.moved hvm.symm hK1
  obtain ⟨hP, hD⟩ := va_join (wr := []) (w1 := []) hP hD [] [] rfl rfl (by decide) (by decide) hk1 hFc hP1 hD1
  have hK := (hK.sub (tys' := []) [] rfl).app hK1
  generalize H1 = H at hP hS ⊢
  have hP : va_P (dC, dI) vwCl [] H := hP
  have hD : va_D A [] := hD
  have hK : va_K (dC, dI) vwCl [] s := hK
  refine W.widen (k := 0) (n := 0) (by omega) (by omega) ?_
  have hP9 := hP.sub (ws' := []) [] rfl
  have hD9 := hD.sub (ws' := []) [] (by decide) rfl
  have hK9 := hK.sub (tys' := []) [] rfl
  refine W.widen (k := 0) (n := 0) (by omega) (by omega) ?_
  exact W.zret (v := r1) hx hb hr (hw) (fun t ht hW => ⟨⟨r1, (), rfl, hw, by rw [ht]; exact hP9, va_K.moved hW.alike hK9, hD9⟩, hS.F ht⟩) hS.2.2 dJ0_charAt_5068e_15
end
section
abbrev cX3_init : ByteArray := prog_5_method_1_code
def yX3_init : MethodName := ⟨RX3, "<init>", "()V"⟩
abbrev cX3_symbol : ByteArray := prog_5_method_2_code
def yX3_symbol : MethodName := ⟨RX3, "symbol", "(I)I"⟩
abbrev cX3_keyOf : ByteArray := prog_5_method_4_code
def yX3_keyOf : MethodName := ⟨RX3, "keyOf", "(Ljava/lang/String;)J"⟩
abbrev cX3_most : ByteArray := prog_5_method_5_code
def yX3_most : MethodName := ⟨RX3, "most", "(I)I"⟩
abbrev cX3_full : ByteArray := prog_5_method_6_code
def yX3_full : MethodName := ⟨RX3, "full", "(I)Z"⟩
abbrev cX3_tell : ByteArray := prog_5_method_7_code
def yX3_tell : MethodName := ⟨RX3, "tell", "(IJI[II)I"⟩
def wsX3_symbol : List Cond := .code yX3_symbol cX3_symbol 1 (some .int) :: ([])
def wsX3_keyOf_r1 : List Cond := [Cond.constantLong RX3 46 (37), Cond.methodLink RX3 40 yJ0_length_8abf5, Cond.instanceMethod yJ0_length_8abf5, Cond.selects RJ0 yJ0_length_8abf5 yJ0_length_8abf5, Cond.initialized RJ0, Cond.code yJ0_length_8abf5 cJ0_length_8abf5 1 (some .int), Cond.fieldLink RJ0 9 "java/lang/String" "value" "[B", Cond.methodLink RJ0 335 yJ0_coder_7d493, Cond.instanceMethod yJ0_coder_7d493, Cond.selects RJ0 yJ0_coder_7d493 yJ0_coder_7d493, Cond.code yJ0_coder_7d493 cJ0_coder_7d493 1 (some .byte), Cond.fieldLink RJ0 38 "java/lang/String" "COMPACT_STRINGS" "Z", Cond.fieldLink RJ0 15 "java/lang/String" "coder" "B", Cond.methodLink RX3 48 yJ0_charAt_5068e, Cond.instanceMethod yJ0_charAt_5068e, Cond.selects RJ0 yJ0_charAt_5068e yJ0_charAt_5068e, Cond.code yJ0_charAt_5068e cJ0_charAt_5068e 2 (some .char), Cond.methodLink RJ0 492 yJ0_isLatin1_aae02, Cond.instanceMethod yJ0_isLatin1_aae02, Cond.selects RJ0 yJ0_isLatin1_aae02 yJ0_isLatin1_aae02, Cond.code yJ0_isLatin1_aae02 cJ0_isLatin1_aae02 1 (some .boolean), Cond.methodLink RJ0 495 yJ1_charAt_3b067, Cond.static yJ1_charAt_3b067, Cond.initialized RJ1]
def wsX3_keyOf_r2 : List Cond := [Cond.code yJ1_charAt_3b067 cJ1_charAt_3b067 2 (some .char), Cond.methodLink RJ1 9 yJ0_checkIndex_df160, Cond.static yJ0_checkIndex_df160, Cond.code yJ0_checkIndex_df160 cJ0_checkIndex_df160 2 none, Cond.fieldLink RJ0 1053 "jdk/internal/util/Preconditions" "SIOOBE_FORMATTER" "Ljava/util/function/BiFunction;", Cond.methodLink RJ0 1059 yJ3_checkIndex_8e157, Cond.static yJ3_checkIndex_8e157, Cond.initialized RJ3, Cond.code yJ3_checkIndex_8e157 cJ3_checkIndex_8e157 3 (some .int), Cond.methodLink RJ0 498 yJ2_charAt_3b067, Cond.static yJ2_charAt_3b067, Cond.initialized RJ2, Cond.code yJ2_charAt_3b067 cJ2_charAt_3b067 2 (some .char), Cond.methodLink RJ2 67 yJ2_checkIndex_2214a, Cond.static yJ2_checkIndex_2214a, Cond.code yJ2_checkIndex_2214a cJ2_checkIndex_2214a 2 none, Cond.methodLink RJ2 48 yJ2_length_9d52b, Cond.static yJ2_length_9d52b, Cond.code yJ2_length_9d52b cJ2_length_9d52b 1 (some .int), Cond.methodLink RJ2 414 yJ0_checkIndex_df160, Cond.methodLink RJ2 71 yJ2_getChar_3b067, Cond.static yJ2_getChar_3b067, Cond.code yJ2_getChar_3b067 cJ2_getChar_3b067 2 (some .char), Cond.fieldLink RJ2 44 "java/lang/StringUTF16" "$assertionsDisabled" "Z"]
def wsX3_keyOf_r3 : List Cond := [Cond.fieldLink RJ2 59 "java/lang/StringUTF16" "HI_BYTE_SHIFT" "I", Cond.fieldLink RJ2 63 "java/lang/StringUTF16" "LO_BYTE_SHIFT" "I", Cond.methodLink RX3 52 yX3_symbol, Cond.static yX3_symbol, Cond.initialized RX3, Cond.code yX3_symbol cX3_symbol 1 (some .int)]
def wsX3_keyOf : List Cond := .code yX3_keyOf cX3_keyOf 4 (some .long) :: ((wsX3_keyOf_r1 ++ (wsX3_keyOf_r2 ++ wsX3_keyOf_r3)))
def wsX3_most : List Cond := .code yX3_most cX3_most 1 (some .int) :: ([])
def wsX3_full : List Cond := .code yX3_full cX3_full 2 (some .boolean) :: ([.fieldLink RX3 9 "ProofBench$Names" "counts" "[I", .methodLink RX3 58 yX3_most, .static yX3_most, .initialized RX3, .code yX3_most cX3_most 1 (some .int)] ++ wsX30)
def wsX3_tell : List Cond := .code yX3_tell cX3_tell 9 (some .int) :: ([.fieldLink RX3 9 "ProofBench$Names" "counts" "[I", .fieldLink RX3 15 "ProofBench$Names" "keys" "[J", .fieldLink RX3 19 "ProofBench$Names" "sorts" "[I", .fieldLink RX3 22 "ProofBench$Names" "arities" "[I", .fieldLink RX3 25 "ProofBench$Names" "parts" "[I", .methodLink RX3 61 yX3_full, .instanceMethod yX3_full, .selects RX3 yX3_full yX3_full, .initialized RX3, .code yX3_full cX3_full 2 (some .boolean), .methodLink RX3 58 yX3_most, .static yX3_most, .code yX3_most cX3_most 1 (some .int)] ++ wsX30)
def wsX3_init_r1 : List Cond := [Cond.methodLink RX3 3 objectInit, Cond.instanceMethod objectInit, Cond.code objectInit ⟨#[0xb1]⟩ 1 none, Cond.arrayClass .int, Cond.fieldLink RX3 9 "ProofBench$Names" "counts" "[I", Cond.arrayClass .long, Cond.fieldLink RX3 15 "ProofBench$Names" "keys" "[J", Cond.fieldLink RX3 19 "ProofBench$Names" "sorts" "[I", Cond.fieldLink RX3 22 "ProofBench$Names" "arities" "[I", Cond.fieldLink RX3 25 "ProofBench$Names" "parts" "[I", Cond.methodLink RX3 30 yX3_keyOf, Cond.static yX3_keyOf, Cond.initialized RX3, Cond.code yX3_keyOf cX3_keyOf 4 (some .long), Cond.constantLong RX3 46 (37), Cond.methodLink RX3 40 yJ0_length_8abf5, Cond.instanceMethod yJ0_length_8abf5, Cond.selects RJ0 yJ0_length_8abf5 yJ0_length_8abf5, Cond.initialized RJ0, Cond.code yJ0_length_8abf5 cJ0_length_8abf5 1 (some .int), Cond.fieldLink RJ0 9 "java/lang/String" "value" "[B", Cond.methodLink RJ0 335 yJ0_coder_7d493, Cond.instanceMethod yJ0_coder_7d493, Cond.selects RJ0 yJ0_coder_7d493 yJ0_coder_7d493]
def wsX3_init_r2 : List Cond := [Cond.code yJ0_coder_7d493 cJ0_coder_7d493 1 (some .byte), Cond.fieldLink RJ0 38 "java/lang/String" "COMPACT_STRINGS" "Z", Cond.fieldLink RJ0 15 "java/lang/String" "coder" "B", Cond.methodLink RX3 48 yJ0_charAt_5068e, Cond.instanceMethod yJ0_charAt_5068e, Cond.selects RJ0 yJ0_charAt_5068e yJ0_charAt_5068e, Cond.code yJ0_charAt_5068e cJ0_charAt_5068e 2 (some .char), Cond.methodLink RJ0 492 yJ0_isLatin1_aae02, Cond.instanceMethod yJ0_isLatin1_aae02, Cond.selects RJ0 yJ0_isLatin1_aae02 yJ0_isLatin1_aae02, Cond.code yJ0_isLatin1_aae02 cJ0_isLatin1_aae02 1 (some .boolean), Cond.methodLink RJ0 495 yJ1_charAt_3b067, Cond.static yJ1_charAt_3b067, Cond.initialized RJ1, Cond.code yJ1_charAt_3b067 cJ1_charAt_3b067 2 (some .char), Cond.methodLink RJ1 9 yJ0_checkIndex_df160, Cond.static yJ0_checkIndex_df160, Cond.code yJ0_checkIndex_df160 cJ0_checkIndex_df160 2 none, Cond.fieldLink RJ0 1053 "jdk/internal/util/Preconditions" "SIOOBE_FORMATTER" "Ljava/util/function/BiFunction;", Cond.methodLink RJ0 1059 yJ3_checkIndex_8e157, Cond.static yJ3_checkIndex_8e157, Cond.initialized RJ3, Cond.code yJ3_checkIndex_8e157 cJ3_checkIndex_8e157 3 (some .int), Cond.methodLink RJ0 498 yJ2_charAt_3b067]
def wsX3_init_r3 : List Cond := [Cond.static yJ2_charAt_3b067, Cond.initialized RJ2, Cond.code yJ2_charAt_3b067 cJ2_charAt_3b067 2 (some .char), Cond.methodLink RJ2 67 yJ2_checkIndex_2214a, Cond.static yJ2_checkIndex_2214a, Cond.code yJ2_checkIndex_2214a cJ2_checkIndex_2214a 2 none, Cond.methodLink RJ2 48 yJ2_length_9d52b, Cond.static yJ2_length_9d52b, Cond.code yJ2_length_9d52b cJ2_length_9d52b 1 (some .int), Cond.methodLink RJ2 414 yJ0_checkIndex_df160, Cond.methodLink RJ2 71 yJ2_getChar_3b067, Cond.static yJ2_getChar_3b067, Cond.code yJ2_getChar_3b067 cJ2_getChar_3b067 2 (some .char), Cond.fieldLink RJ2 44 "java/lang/StringUTF16" "$assertionsDisabled" "Z", Cond.fieldLink RJ2 59 "java/lang/StringUTF16" "HI_BYTE_SHIFT" "I", Cond.fieldLink RJ2 63 "java/lang/StringUTF16" "LO_BYTE_SHIFT" "I", Cond.methodLink RX3 52 yX3_symbol, Cond.static yX3_symbol, Cond.code yX3_symbol cX3_symbol 1 (some .int), Cond.methodLink RX3 34 yX3_tell, Cond.instanceMethod yX3_tell, Cond.selects RX3 yX3_tell yX3_tell, Cond.code yX3_tell cX3_tell 9 (some .int), Cond.methodLink RX3 61 yX3_full]
def wsX3_init_r4 : List Cond := [Cond.instanceMethod yX3_full, Cond.selects RX3 yX3_full yX3_full, Cond.code yX3_full cX3_full 2 (some .boolean), Cond.methodLink RX3 58 yX3_most, Cond.static yX3_most, Cond.code yX3_most cX3_most 1 (some .int)]
def wsX3_init : List Cond := .code yX3_init cX3_init 2 none :: ((wsX3_init_r1 ++ (wsX3_init_r2 ++ (wsX3_init_r3 ++ wsX3_init_r4))) ++ wsX30)
theorem dX3_init_0 : decode cX3_init 0 = .ok (.aload_n 0, 1) := by decide +kernel
theorem dX3_init_1 : decode cX3_init 1 = .ok (.invokespecial 3, 3) := by decide +kernel
theorem dX3_init_4 : decode cX3_init 4 = .ok (.aload_n 0, 1) := by decide +kernel
theorem dX3_init_5 : decode cX3_init 5 = .ok (.iconst 5, 1) := by decide +kernel
theorem dX3_init_6 : decode cX3_init 6 = .ok (.newarray .int, 2) := by decide +kernel
theorem dX3_init_8 : decode cX3_init 8 = .ok (.putfield 9, 3) := by decide +kernel
theorem dX3_init_11 : decode cX3_init 11 = .ok (.aload_n 0, 1) := by decide +kernel
theorem dX3_init_12 : decode cX3_init 12 = .ok (.sipush 200, 3) := by decide +kernel
theorem dX3_init_15 : decode cX3_init 15 = .ok (.newarray .long, 2) := by decide +kernel
theorem dX3_init_17 : decode cX3_init 17 = .ok (.putfield 15, 3) := by decide +kernel
theorem dX3_init_20 : decode cX3_init 20 = .ok (.aload_n 0, 1) := by decide +kernel
theorem dX3_init_21 : decode cX3_init 21 = .ok (.sipush 200, 3) := by decide +kernel
theorem dX3_init_24 : decode cX3_init 24 = .ok (.newarray .int, 2) := by decide +kernel
theorem dX3_init_26 : decode cX3_init 26 = .ok (.putfield 19, 3) := by decide +kernel
theorem dX3_init_29 : decode cX3_init 29 = .ok (.aload_n 0, 1) := by decide +kernel
theorem dX3_init_30 : decode cX3_init 30 = .ok (.sipush 200, 3) := by decide +kernel
theorem dX3_init_33 : decode cX3_init 33 = .ok (.newarray .int, 2) := by decide +kernel
theorem dX3_init_35 : decode cX3_init 35 = .ok (.putfield 22, 3) := by decide +kernel
theorem dX3_init_38 : decode cX3_init 38 = .ok (.aload_n 0, 1) := by decide +kernel
theorem dX3_init_39 : decode cX3_init 39 = .ok (.sipush 600, 3) := by decide +kernel
theorem dX3_init_42 : decode cX3_init 42 = .ok (.newarray .int, 2) := by decide +kernel
theorem dX3_init_44 : decode cX3_init 44 = .ok (.putfield 25, 3) := by decide +kernel
theorem dX3_init_47 : decode cX3_init 47 = .ok (.iconst 3, 1) := by decide +kernel
theorem dX3_init_48 : decode cX3_init 48 = .ok (.newarray .int, 2) := by decide +kernel
theorem dX3_init_50 : decode cX3_init 50 = .ok (.astore_n 1, 1) := by decide +kernel
theorem dX3_init_51 : decode cX3_init 51 = .ok (.aload_n 0, 1) := by decide +kernel
theorem dX3_init_52 : decode cX3_init 52 = .ok (.iconst 0, 1) := by decide +kernel
theorem dX3_init_53 : decode cX3_init 53 = .ok (.ldc 28, 2) := by decide +kernel
theorem dX3_init_55 : decode cX3_init 55 = .ok (.invokestatic 30, 3) := by decide +kernel
theorem dX3_init_58 : decode cX3_init 58 = .ok (.iconst 0, 1) := by decide +kernel
theorem dX3_init_59 : decode cX3_init 59 = .ok (.aload_n 1, 1) := by decide +kernel
theorem dX3_init_60 : decode cX3_init 60 = .ok (.iconst 0, 1) := by decide +kernel
theorem dX3_init_61 : decode cX3_init 61 = .ok (.invokevirtual 34, 3) := by decide +kernel
theorem dX3_init_64 : decode cX3_init 64 = .ok (.pop, 1) := by decide +kernel
theorem dX3_init_65 : decode cX3_init 65 = .ok (.aload_n 0, 1) := by decide +kernel
theorem dX3_init_66 : decode cX3_init 66 = .ok (.iconst 2, 1) := by decide +kernel
theorem dX3_init_67 : decode cX3_init 67 = .ok (.ldc 38, 2) := by decide +kernel
theorem dX3_init_69 : decode cX3_init 69 = .ok (.invokestatic 30, 3) := by decide +kernel
theorem dX3_init_72 : decode cX3_init 72 = .ok (.iconst 0, 1) := by decide +kernel
theorem dX3_init_73 : decode cX3_init 73 = .ok (.aload_n 1, 1) := by decide +kernel
theorem dX3_init_74 : decode cX3_init 74 = .ok (.iconst 1, 1) := by decide +kernel
theorem dX3_init_75 : decode cX3_init 75 = .ok (.invokevirtual 34, 3) := by decide +kernel
theorem dX3_init_78 : decode cX3_init 78 = .ok (.pop, 1) := by decide +kernel
theorem dX3_init_79 : decode cX3_init 79 = .ok (.return_, 1) := by decide +kernel
theorem dX3_symbol_0 : decode cX3_symbol 0 = .ok (.iload_n 0, 1) := by decide +kernel
theorem dX3_symbol_1 : decode cX3_symbol 1 = .ok (.bipush 97, 2) := by decide +kernel
theorem dX3_symbol_3 : decode cX3_symbol 3 = .ok (.if_icmp .lt 12, 3) := by decide +kernel
theorem dX3_symbol_6 : decode cX3_symbol 6 = .ok (.iload_n 0, 1) := by decide +kernel
theorem dX3_symbol_7 : decode cX3_symbol 7 = .ok (.bipush 97, 2) := by decide +kernel
theorem dX3_symbol_9 : decode cX3_symbol 9 = .ok (.isub, 1) := by decide +kernel
theorem dX3_symbol_10 : decode cX3_symbol 10 = .ok (.iconst 1, 1) := by decide +kernel
theorem dX3_symbol_11 : decode cX3_symbol 11 = .ok (.iadd, 1) := by decide +kernel
theorem dX3_symbol_12 : decode cX3_symbol 12 = .ok (.goto 10, 3) := by decide +kernel
theorem dX3_symbol_15 : decode cX3_symbol 15 = .ok (.iload_n 0, 1) := by decide +kernel
theorem dX3_symbol_16 : decode cX3_symbol 16 = .ok (.bipush 48, 2) := by decide +kernel
theorem dX3_symbol_18 : decode cX3_symbol 18 = .ok (.isub, 1) := by decide +kernel
theorem dX3_symbol_19 : decode cX3_symbol 19 = .ok (.bipush 27, 2) := by decide +kernel
theorem dX3_symbol_21 : decode cX3_symbol 21 = .ok (.iadd, 1) := by decide +kernel
theorem dX3_symbol_22 : decode cX3_symbol 22 = .ok (.ireturn, 1) := by decide +kernel
theorem dX3_keyOf_0 : decode cX3_keyOf 0 = .ok (.lconst 0, 1) := by decide +kernel
theorem dX3_keyOf_1 : decode cX3_keyOf 1 = .ok (.lstore_n 1, 1) := by decide +kernel
theorem dX3_keyOf_2 : decode cX3_keyOf 2 = .ok (.iconst 0, 1) := by decide +kernel
theorem dX3_keyOf_3 : decode cX3_keyOf 3 = .ok (.istore_n 3, 1) := by decide +kernel
theorem dX3_keyOf_4 : decode cX3_keyOf 4 = .ok (.iload_n 3, 1) := by decide +kernel
theorem dX3_keyOf_5 : decode cX3_keyOf 5 = .ok (.aload_n 0, 1) := by decide +kernel
theorem dX3_keyOf_6 : decode cX3_keyOf 6 = .ok (.invokevirtual 40, 3) := by decide +kernel
theorem dX3_keyOf_9 : decode cX3_keyOf 9 = .ok (.if_icmp .ge 25, 3) := by decide +kernel
theorem dX3_keyOf_12 : decode cX3_keyOf 12 = .ok (.lload_n 1, 1) := by decide +kernel
theorem dX3_keyOf_13 : decode cX3_keyOf 13 = .ok (.ldc2_w 46, 3) := by decide +kernel
theorem dX3_keyOf_16 : decode cX3_keyOf 16 = .ok (.lmul, 1) := by decide +kernel
theorem dX3_keyOf_17 : decode cX3_keyOf 17 = .ok (.aload_n 0, 1) := by decide +kernel
theorem dX3_keyOf_18 : decode cX3_keyOf 18 = .ok (.iload_n 3, 1) := by decide +kernel
theorem dX3_keyOf_19 : decode cX3_keyOf 19 = .ok (.invokevirtual 48, 3) := by decide +kernel
theorem dX3_keyOf_22 : decode cX3_keyOf 22 = .ok (.invokestatic 52, 3) := by decide +kernel
theorem dX3_keyOf_25 : decode cX3_keyOf 25 = .ok (.i2l, 1) := by decide +kernel
theorem dX3_keyOf_26 : decode cX3_keyOf 26 = .ok (.ladd, 1) := by decide +kernel
theorem dX3_keyOf_27 : decode cX3_keyOf 27 = .ok (.lstore_n 1, 1) := by decide +kernel
theorem dX3_keyOf_28 : decode cX3_keyOf 28 = .ok (.iinc 3 1, 3) := by decide +kernel
theorem dX3_keyOf_31 : decode cX3_keyOf 31 = .ok (.goto (-27), 3) := by decide +kernel
theorem dX3_keyOf_34 : decode cX3_keyOf 34 = .ok (.lload_n 1, 1) := by decide +kernel
theorem dX3_keyOf_35 : decode cX3_keyOf 35 = .ok (.lreturn, 1) := by decide +kernel
theorem dX3_most_0 : decode cX3_most 0 = .ok (.iload_n 0, 1) := by decide +kernel
theorem dX3_most_1 : decode cX3_most 1 = .ok (.tableswitch 44 0 4 #[35, 38, 44, 44, 41], 35) := by decide +kernel
theorem dX3_most_36 : decode cX3_most 36 = .ok (.bipush 6, 2) := by decide +kernel
theorem dX3_most_38 : decode cX3_most 38 = .ok (.ireturn, 1) := by decide +kernel
theorem dX3_most_39 : decode cX3_most 39 = .ok (.bipush 30, 2) := by decide +kernel
theorem dX3_most_41 : decode cX3_most 41 = .ok (.ireturn, 1) := by decide +kernel
theorem dX3_most_42 : decode cX3_most 42 = .ok (.bipush 40, 2) := by decide +kernel
theorem dX3_most_44 : decode cX3_most 44 = .ok (.ireturn, 1) := by decide +kernel
theorem dX3_most_45 : decode cX3_most 45 = .ok (.bipush 20, 2) := by decide +kernel
theorem dX3_most_47 : decode cX3_most 47 = .ok (.ireturn, 1) := by decide +kernel
theorem dX3_full_0 : decode cX3_full 0 = .ok (.aload_n 0, 1) := by decide +kernel
theorem dX3_full_1 : decode cX3_full 1 = .ok (.getfield 9, 3) := by decide +kernel
theorem dX3_full_4 : decode cX3_full 4 = .ok (.iload_n 1, 1) := by decide +kernel
theorem dX3_full_5 : decode cX3_full 5 = .ok (.iaload, 1) := by decide +kernel
theorem dX3_full_6 : decode cX3_full 6 = .ok (.iload_n 1, 1) := by decide +kernel
theorem dX3_full_7 : decode cX3_full 7 = .ok (.invokestatic 58, 3) := by decide +kernel
theorem dX3_full_10 : decode cX3_full 10 = .ok (.if_icmp .lt 7, 3) := by decide +kernel
theorem dX3_full_13 : decode cX3_full 13 = .ok (.iconst 1, 1) := by decide +kernel
theorem dX3_full_14 : decode cX3_full 14 = .ok (.goto 4, 3) := by decide +kernel
theorem dX3_full_17 : decode cX3_full 17 = .ok (.iconst 0, 1) := by decide +kernel
theorem dX3_full_18 : decode cX3_full 18 = .ok (.ireturn, 1) := by decide +kernel
theorem dX3_tell_0 : decode cX3_tell 0 = .ok (.aload_n 0, 1) := by decide +kernel
theorem dX3_tell_1 : decode cX3_tell 1 = .ok (.iload_n 1, 1) := by decide +kernel
theorem dX3_tell_2 : decode cX3_tell 2 = .ok (.invokevirtual 61, 3) := by decide +kernel
theorem dX3_tell_5 : decode cX3_tell 5 = .ok (.ifCond .eq 6, 3) := by decide +kernel
theorem dX3_tell_8 : decode cX3_tell 8 = .ok (.bipush 8, 2) := by decide +kernel
theorem dX3_tell_10 : decode cX3_tell 10 = .ok (.ireturn, 1) := by decide +kernel
theorem dX3_tell_11 : decode cX3_tell 11 = .ok (.iload_n 1, 1) := by decide +kernel
theorem dX3_tell_12 : decode cX3_tell 12 = .ok (.bipush 40, 2) := by decide +kernel
theorem dX3_tell_14 : decode cX3_tell 14 = .ok (.imul, 1) := by decide +kernel
theorem dX3_tell_15 : decode cX3_tell 15 = .ok (.aload_n 0, 1) := by decide +kernel
theorem dX3_tell_16 : decode cX3_tell 16 = .ok (.getfield 9, 3) := by decide +kernel
theorem dX3_tell_19 : decode cX3_tell 19 = .ok (.iload_n 1, 1) := by decide +kernel
theorem dX3_tell_20 : decode cX3_tell 20 = .ok (.iaload, 1) := by decide +kernel
theorem dX3_tell_21 : decode cX3_tell 21 = .ok (.iadd, 1) := by decide +kernel
theorem dX3_tell_22 : decode cX3_tell 22 = .ok (.istore 7, 2) := by decide +kernel
theorem dX3_tell_24 : decode cX3_tell 24 = .ok (.aload_n 0, 1) := by decide +kernel
theorem dX3_tell_25 : decode cX3_tell 25 = .ok (.getfield 15, 3) := by decide +kernel
theorem dX3_tell_28 : decode cX3_tell 28 = .ok (.iload 7, 2) := by decide +kernel
theorem dX3_tell_30 : decode cX3_tell 30 = .ok (.lload_n 2, 1) := by decide +kernel
theorem dX3_tell_31 : decode cX3_tell 31 = .ok (.lastore, 1) := by decide +kernel
theorem dX3_tell_32 : decode cX3_tell 32 = .ok (.aload_n 0, 1) := by decide +kernel
theorem dX3_tell_33 : decode cX3_tell 33 = .ok (.getfield 19, 3) := by decide +kernel
theorem dX3_tell_36 : decode cX3_tell 36 = .ok (.iload 7, 2) := by decide +kernel
theorem dX3_tell_38 : decode cX3_tell 38 = .ok (.iload 4, 2) := by decide +kernel
theorem dX3_tell_40 : decode cX3_tell 40 = .ok (.iastore, 1) := by decide +kernel
theorem dX3_tell_41 : decode cX3_tell 41 = .ok (.aload_n 0, 1) := by decide +kernel
theorem dX3_tell_42 : decode cX3_tell 42 = .ok (.getfield 22, 3) := by decide +kernel
theorem dX3_tell_45 : decode cX3_tell 45 = .ok (.iload 7, 2) := by decide +kernel
theorem dX3_tell_47 : decode cX3_tell 47 = .ok (.iload 6, 2) := by decide +kernel
theorem dX3_tell_49 : decode cX3_tell 49 = .ok (.iastore, 1) := by decide +kernel
theorem dX3_tell_50 : decode cX3_tell 50 = .ok (.iconst 0, 1) := by decide +kernel
theorem dX3_tell_51 : decode cX3_tell 51 = .ok (.istore 8, 2) := by decide +kernel
theorem dX3_tell_53 : decode cX3_tell 53 = .ok (.iload 8, 2) := by decide +kernel
theorem dX3_tell_55 : decode cX3_tell 55 = .ok (.iload 6, 2) := by decide +kernel
theorem dX3_tell_57 : decode cX3_tell 57 = .ok (.if_icmp .ge 40, 3) := by decide +kernel
theorem dX3_tell_60 : decode cX3_tell 60 = .ok (.iload 8, 2) := by decide +kernel
theorem dX3_tell_62 : decode cX3_tell 62 = .ok (.aload 5, 2) := by decide +kernel
theorem dX3_tell_64 : decode cX3_tell 64 = .ok (.arraylength, 1) := by decide +kernel
theorem dX3_tell_65 : decode cX3_tell 65 = .ok (.if_icmp .ge 32, 3) := by decide +kernel
theorem dX3_tell_68 : decode cX3_tell 68 = .ok (.iload 8, 2) := by decide +kernel
theorem dX3_tell_70 : decode cX3_tell 70 = .ok (.iconst 3, 1) := by decide +kernel
theorem dX3_tell_71 : decode cX3_tell 71 = .ok (.if_icmp .ge 26, 3) := by decide +kernel
theorem dX3_tell_74 : decode cX3_tell 74 = .ok (.aload_n 0, 1) := by decide +kernel
theorem dX3_tell_75 : decode cX3_tell 75 = .ok (.getfield 25, 3) := by decide +kernel
theorem dX3_tell_78 : decode cX3_tell 78 = .ok (.iload 7, 2) := by decide +kernel
theorem dX3_tell_80 : decode cX3_tell 80 = .ok (.iconst 3, 1) := by decide +kernel
theorem dX3_tell_81 : decode cX3_tell 81 = .ok (.imul, 1) := by decide +kernel
theorem dX3_tell_82 : decode cX3_tell 82 = .ok (.iload 8, 2) := by decide +kernel
theorem dX3_tell_84 : decode cX3_tell 84 = .ok (.iadd, 1) := by decide +kernel
theorem dX3_tell_85 : decode cX3_tell 85 = .ok (.aload 5, 2) := by decide +kernel
theorem dX3_tell_87 : decode cX3_tell 87 = .ok (.iload 8, 2) := by decide +kernel
theorem dX3_tell_89 : decode cX3_tell 89 = .ok (.iaload, 1) := by decide +kernel
theorem dX3_tell_90 : decode cX3_tell 90 = .ok (.iastore, 1) := by decide +kernel
theorem dX3_tell_91 : decode cX3_tell 91 = .ok (.iinc 8 1, 3) := by decide +kernel
theorem dX3_tell_94 : decode cX3_tell 94 = .ok (.goto (-41), 3) := by decide +kernel
theorem dX3_tell_97 : decode cX3_tell 97 = .ok (.aload_n 0, 1) := by decide +kernel
theorem dX3_tell_98 : decode cX3_tell 98 = .ok (.getfield 9, 3) := by decide +kernel
theorem dX3_tell_101 : decode cX3_tell 101 = .ok (.iload_n 1, 1) := by decide +kernel
theorem dX3_tell_102 : decode cX3_tell 102 = .ok (.dup2, 1) := by decide +kernel
theorem dX3_tell_103 : decode cX3_tell 103 = .ok (.iaload, 1) := by decide +kernel
theorem dX3_tell_104 : decode cX3_tell 104 = .ok (.iconst 1, 1) := by decide +kernel
theorem dX3_tell_105 : decode cX3_tell 105 = .ok (.iadd, 1) := by decide +kernel
theorem dX3_tell_106 : decode cX3_tell 106 = .ok (.iastore, 1) := by decide +kernel
theorem dX3_tell_107 : decode cX3_tell 107 = .ok (.iconst 0, 1) := by decide +kernel
theorem dX3_tell_108 : decode cX3_tell 108 = .ok (.ireturn, 1) := by decide +kernel
set_option maxRecDepth 20000 in
theorem ggX3_init_X3_keyOf : GoodIn wsX3_init wsX3_keyOf := goodIn_r _ [14, 15, 16, 17, 18, 19, 20, 21, 22, 23, 24, 25, 26, 27, 28, 29, 30, 31, 32, 33, 34, 35, 36, 37, 38, 39, 40, 41, 42, 43, 44, 45, 46, 47, 48, 49, 50, 51, 52, 53, 54, 55, 56, 57, 58, 59, 60, 61, 62, 63, 64, 65, 66, 13, 67] (by decide +kernel) (by decide +kernel)
set_option maxRecDepth 20000 in
theorem gX3_init_X3_keyOf : GoodIn wsX3_init (va_wsS RX3 30 yX3_keyOf wsX3_keyOf) := goodIn_app (goodIn_of _ (by decide +kernel)) ggX3_init_X3_keyOf
set_option maxRecDepth 20000 in
theorem ggX3_init_X3_tell : GoodIn wsX3_init wsX3_tell := goodIn_r _ [71, 5, 7, 8, 9, 10, 72, 73, 74, 13, 75, 76, 77, 78, 79, 80, 81, 82, 83] (by decide +kernel) (by decide +kernel)
set_option maxRecDepth 20000 in
theorem gX3_init_X3_tell : GoodIn wsX3_init (wsV RX3 34 RX3 yX3_tell wsX3_tell) := goodIn_app (goodIn_of _ (by decide +kernel)) ggX3_init_X3_tell
set_option maxRecDepth 20000 in
theorem ggX3_keyOf_J0_length_8abf5 : GoodIn wsX3_keyOf wsJ0_length_8abf5 := goodIn_r _ [6, 7, 8, 9, 10, 5, 11, 12, 13] (by decide +kernel) (by decide +kernel)
set_option maxRecDepth 20000 in
theorem gX3_keyOf_J0_length_8abf5 : GoodIn wsX3_keyOf (wsV RX3 40 RJ0 yJ0_length_8abf5 wsJ0_length_8abf5) := goodIn_app (goodIn_of _ (by decide +kernel)) ggX3_keyOf_J0_length_8abf5
set_option maxRecDepth 20000 in
theorem ggX3_keyOf_J0_charAt_5068e : GoodIn wsX3_keyOf wsJ0_charAt_5068e := goodIn_r _ [17, 7, 18, 19, 20, 5, 21, 12, 13, 22, 23, 24, 25, 26, 27, 28, 29, 30, 31, 32, 33, 34, 35, 36, 37, 38, 39, 40, 41, 42, 43, 44, 45, 46, 47, 48, 49, 50] (by decide +kernel) (by decide +kernel)
set_option maxRecDepth 20000 in
theorem gX3_keyOf_J0_charAt_5068e : GoodIn wsX3_keyOf (wsV RX3 48 RJ0 yJ0_charAt_5068e wsJ0_charAt_5068e) := goodIn_app (goodIn_of _ (by decide +kernel)) ggX3_keyOf_J0_charAt_5068e
set_option maxRecDepth 20000 in
theorem ggX3_keyOf_X3_symbol : GoodIn wsX3_keyOf wsX3_symbol := goodIn_r _ [54] (by decide +kernel) (by decide +kernel)
set_option maxRecDepth 20000 in
theorem gX3_keyOf_X3_symbol : GoodIn wsX3_keyOf (va_wsS RX3 52 yX3_symbol wsX3_symbol) := goodIn_app (goodIn_of _ (by decide +kernel)) ggX3_keyOf_X3_symbol
set_option maxRecDepth 20000 in
theorem ggX3_full_X3_most : GoodIn wsX3_full wsX3_most := goodIn_r _ [5] (by decide +kernel) (by decide +kernel)
set_option maxRecDepth 20000 in
theorem gX3_full_X3_most : GoodIn wsX3_full (va_wsS RX3 58 yX3_most wsX3_most) := goodIn_app (goodIn_of _ (by decide +kernel)) ggX3_full_X3_most
set_option maxRecDepth 20000 in
theorem ggX3_tell_X3_full : GoodIn wsX3_tell wsX3_full := goodIn_r _ [10, 1, 11, 12, 9, 13, 14, 15, 16, 17, 18] (by decide +kernel) (by decide +kernel)
set_option maxRecDepth 20000 in
theorem gX3_tell_X3_full : GoodIn wsX3_tell (wsV RX3 61 RX3 yX3_full wsX3_full) := goodIn_app (goodIn_of _ (by decide +kernel)) ggX3_tell_X3_full
set_option maxHeartbeats 1000000 in
set_option maxRecDepth 100000 in
/-- symbol(c): some int -/
theorem c_symbol (l : Launch) (dC : Nat → ClassId) (dI : Nat → Nat → Nat) (sz : Nat) (x : Int32) : Met l yX3_symbol wsX3_symbol ({ frames := 0, cells := 0, slots := 0, locals := 0 }) (va_Pc [.int x] (fun U => U.heap.size = sz ∧ va_P (dC, dI) vwCl [] U.heap ∧ va_K (dC, dI) vwCl [] U ∧ va_D (fun _ => True) [])) (va_Qi (fun (r : Int32) (_ : Unit) => True) (fun _ t => va_P (dC, dI) vwCl [] t.heap ∧ va_K (dC, dI) vwCl [] t ∧ va_D (va_A [] sz) []) (va_A [] sz)) (0) (0) (va_A [] sz) := by
  refine Met.ofW (cc := cX3_symbol) (maxL := 1) (ret := (some .int)) (by decide) rfl ?_
  intro p e s m args below meth c s₁ B hml hv
  obtain ⟨rfl, hsz, hP, hK, hD0⟩ := hv
  have hx := B.exec
  have hb := B.bytes
  have hr := B.returns
  have hts := atoms_spec (ws := wsX3_symbol) B.pre
  have hown : s.vm.findClass RX3 = some m.cls := findClass_of_methodNamed B.named
  have hlocks := B.notSynchronized
  subst hsz
  have hD := hD0.self (sz := s.heap.size)
  generalize hAe : va_A [] s.heap.size = A at hD ⊢
  have hA : ∀ q : Nat, s.heap.size ≤ q → A q := fun q h => by rw [← hAe]; exact Or.inr h
  have hS : va_S A s.heap s.heap [] := va_S.rf
  have hl := lv_entry ([.int x]) (n := 1) (Nat.le_of_ble_eq_true rfl)
  rw [lg_entry_eq]
  generalize (lg_sl ([.int x]) ++ List.replicate (1 - (lg_sl ([.int x])).length) Slot.unset).toArray = ls at hl ⊢
  have hl : lv_has ls 1 [(0, .int x)] := hl
  refine lv_iload_n hx hb dX3_symbol_0 rfl (lv_at hl 0 rfl) ?_
  refine lv_bipush (v := 97) hx hb dX3_symbol_1 (by decide) ?_
  refine lv_icmp_lt (tgt := 15) hx hb dX3_symbol_3 (by decide) (fun c9 => ?_) (fun c9 => ?_)
  · skip
    refine lv_iload_n hx hb dX3_symbol_15 rfl (lv_at hl 0 rfl) ?_
    refine lv_bipush (v := 48) hx hb dX3_symbol_16 (by decide) ?_
    refine lv_isub hx hb dX3_symbol_18 ?_
    refine lv_topi (fun r_1 er_1 => ?_)
    refine lv_bipush (v := 27) hx hb dX3_symbol_19 (by decide) ?_
    refine lv_iadd hx hb dX3_symbol_21 ?_
    refine lv_topi (fun r_2 er_2 => ?_)
    have hP9 := hP.sub (ws' := []) [] rfl
    have hD9 := hD.sub (ws' := []) [] (by decide) rfl
    have hK9 := hK.sub (tys' := []) [] rfl
    refine W.widen (k := 0) (n := 0) (by omega) (by omega) ?_
    exact W.iret (v := r_2) hx hb hr (fun t ht hW => ⟨⟨r_2, (), rfl, trivial, by rw [ht]; exact hP9, va_K.moved hW.alike hK9, hD9⟩, hS.F ht⟩) hS.2.2 dX3_symbol_22
  · skip
    refine lv_iload_n hx hb dX3_symbol_6 rfl (lv_at hl 0 rfl) ?_
    refine lv_bipush (v := 97) hx hb dX3_symbol_7 (by decide) ?_
    refine lv_isub hx hb dX3_symbol_9 ?_
    refine lv_topi (fun r_3 er_3 => ?_)
    refine lv_iconst (v := 1) hx hb dX3_symbol_10 (by decide) ?_
    refine lv_iadd hx hb dX3_symbol_11 ?_
    refine lv_topi (fun r_4 er_4 => ?_)
    refine lv_goto (tgt := 22) hx hb dX3_symbol_12 (by decide) ?_
    have hP9 := hP.sub (ws' := []) [] rfl
    have hD9 := hD.sub (ws' := []) [] (by decide) rfl
    have hK9 := hK.sub (tys' := []) [] rfl
    refine W.widen (k := 0) (n := 0) (by omega) (by omega) ?_
    exact W.iret (v := r_4) hx hb hr (fun t ht hW => ⟨⟨r_4, (), rfl, trivial, by rw [ht]; exact hP9, va_K.moved hW.alike hK9, hD9⟩, hS.F ht⟩) hS.2.2 dX3_symbol_22
set_option maxHeartbeats 1000000 in
set_option maxRecDepth 100000 in
/-- most -/
theorem c_most_0 (l : Launch) (dC : Nat → ClassId) (dI : Nat → Nat → Nat) (sz : Nat)  : Met l yX3_most wsX3_most ({ frames := 0, cells := 0, slots := 0, locals := 0 }) (va_Pc [.int 0] (fun U => U.heap.size = sz ∧ va_P (dC, dI) vwCl [] U.heap ∧ va_K (dC, dI) vwCl [] U ∧ va_D (fun _ => True) [])) (va_Qi (fun (r : Int32) (_ : Unit) => r = 6) (fun _ t => va_P (dC, dI) vwCl [] t.heap ∧ va_K (dC, dI) vwCl [] t ∧ va_D (va_A [] sz) []) (va_A [] sz)) (0) (0) (va_A [] sz) := by
  refine Met.ofW (cc := cX3_most) (maxL := 1) (ret := (some .int)) (by decide) rfl ?_
  intro p e s m args below meth c s₁ B hml hv
  obtain ⟨rfl, hsz, hP, hK, hD0⟩ := hv
  have hx := B.exec
  have hb := B.bytes
  have hr := B.returns
  have hts := atoms_spec (ws := wsX3_most) B.pre
  have hown : s.vm.findClass RX3 = some m.cls := findClass_of_methodNamed B.named
  have hlocks := B.notSynchronized
  subst hsz
  have hD := hD0.self (sz := s.heap.size)
  generalize hAe : va_A [] s.heap.size = A at hD ⊢
  have hA : ∀ q : Nat, s.heap.size ≤ q → A q := fun q h => by rw [← hAe]; exact Or.inr h
  have hS : va_S A s.heap s.heap [] := va_S.rf
  have hl := lv_entry ([.int 0]) (n := 1) (Nat.le_of_ble_eq_true rfl)
  rw [lg_entry_eq]
  generalize (lg_sl ([.int 0]) ++ List.replicate (1 - (lg_sl ([.int 0])).length) Slot.unset).toArray = ls at hl ⊢
  have hl : lv_has ls 1 [(0, .int 0)] := hl
  refine lv_iload_n hx hb dX3_most_0 rfl (lv_at hl 0 rfl) ?_
  refine lv_tableIn (off := 35) (tgt := 36) hx hb dX3_most_1 (by decide) (by decide) (by decide) (by decide) ?_
  refine lv_bipush (v := 6) hx hb dX3_most_36 (by decide) ?_
  have hP9 := hP.sub (ws' := []) [] rfl
  have hD9 := hD.sub (ws' := []) [] (by decide) rfl
  have hK9 := hK.sub (tys' := []) [] rfl
  refine W.widen (k := 0) (n := 0) (by omega) (by omega) ?_
  exact W.iret (v := 6) hx hb hr (fun t ht hW => ⟨⟨6, (), rfl, rfl, by rw [ht]; exact hP9, va_K.moved hW.alike hK9, hD9⟩, hS.F ht⟩) hS.2.2 dX3_most_38
set_option maxHeartbeats 1000000 in
set_option maxRecDepth 100000 in
/-- most -/
theorem c_most_2 (l : Launch) (dC : Nat → ClassId) (dI : Nat → Nat → Nat) (sz : Nat)  : Met l yX3_most wsX3_most ({ frames := 0, cells := 0, slots := 0, locals := 0 }) (va_Pc [.int 2] (fun U => U.heap.size = sz ∧ va_P (dC, dI) vwCl [] U.heap ∧ va_K (dC, dI) vwCl [] U ∧ va_D (fun _ => True) [])) (va_Qi (fun (r : Int32) (_ : Unit) => r = 20) (fun _ t => va_P (dC, dI) vwCl [] t.heap ∧ va_K (dC, dI) vwCl [] t ∧ va_D (va_A [] sz) []) (va_A [] sz)) (0) (0) (va_A [] sz) := by
  refine Met.ofW (cc := cX3_most) (maxL := 1) (ret := (some .int)) (by decide) rfl ?_
  intro p e s m args below meth c s₁ B hml hv
  obtain ⟨rfl, hsz, hP, hK, hD0⟩ := hv
  have hx := B.exec
  have hb := B.bytes
  have hr := B.returns
  have hts := atoms_spec (ws := wsX3_most) B.pre
  have hown : s.vm.findClass RX3 = some m.cls := findClass_of_methodNamed B.named
  have hlocks := B.notSynchronized
  subst hsz
  have hD := hD0.self (sz := s.heap.size)
  generalize hAe : va_A [] s.heap.size = A at hD ⊢
  have hA : ∀ q : Nat, s.heap.size ≤ q → A q := fun q h => by rw [← hAe]; exact Or.inr h
  have hS : va_S A s.heap s.heap [] := va_S.rf
  have hl := lv_entry ([.int 2]) (n := 1) (Nat.le_of_ble_eq_true rfl)
  rw [lg_entry_eq]
  generalize (lg_sl ([.int 2]) ++ List.replicate (1 - (lg_sl ([.int 2])).length) Slot.unset).toArray = ls at hl ⊢
  have hl : lv_has ls 1 [(0, .int 2)] := hl
  refine lv_iload_n hx hb dX3_most_0 rfl (lv_at hl 0 rfl) ?_
  refine lv_tableIn (off := 44) (tgt := 45) hx hb dX3_most_1 (by decide) (by decide) (by decide) (by decide) ?_
  refine lv_bipush (v := 20) hx hb dX3_most_45 (by decide) ?_
  have hP9 := hP.sub (ws' := []) [] rfl
  have hD9 := hD.sub (ws' := []) [] (by decide) rfl
  have hK9 := hK.sub (tys' := []) [] rfl
  refine W.widen (k := 0) (n := 0) (by omega) (by omega) ?_
  exact W.iret (v := 20) hx hb hr (fun t ht hW => ⟨⟨20, (), rfl, rfl, by rw [ht]; exact hP9, va_K.moved hW.alike hK9, hD9⟩, hS.F ht⟩) hS.2.2 dX3_most_47
set_option maxHeartbeats 1000000 in
set_option maxRecDepth 100000 in
/-- full -/
theorem c_full_0 (l : Launch) (dC : Nat → ClassId) (dI : Nat → Nat → Nat) (sz : Nat) (h0 a1 a2 a3 a4 a5 : Nat) (cA1 : ClassId) (g : Nat → Int32) (hg : g 0 = 0) : Met l yX3_full wsX3_full ({ frames := 1, cells := 0, slots := 0, locals := 20 }) (va_Pc [.ref h0, .int 0] (fun U => U.heap.size = sz ∧ va_P (dC, dI) vwCl [(h0, .inr (3, [.ref a1, .ref a2, .ref a3, .ref a4, .ref a5])), (a1, .inl (cA1, 5, .inl (g)))] U.heap ∧ va_K (dC, dI) vwCl [(cA1, .int)] U ∧ va_D (fun _ => True) [(h0, .inr (3, [.ref a1, .ref a2, .ref a3, .ref a4, .ref a5])), (a1, .inl (cA1, 5, .inl (g)))])) (va_Qi (fun (r : Int32) (_ : Unit) => r = 0) (fun _ t => va_P (dC, dI) vwCl [(h0, .inr (3, [.ref a1, .ref a2, .ref a3, .ref a4, .ref a5])), (a1, .inl (cA1, 5, .inl (g)))] t.heap ∧ va_K (dC, dI) vwCl [(cA1, .int)] t ∧ va_D (va_A [(h0, .inr (3, [.ref a1, .ref a2, .ref a3, .ref a4, .ref a5])), (a1, .inl (cA1, 5, .inl (g)))] sz) [(h0, .inr (3, [.ref a1, .ref a2, .ref a3, .ref a4, .ref a5])), (a1, .inl (cA1, 5, .inl (g)))]) (va_A [(h0, .inr (3, [.ref a1, .ref a2, .ref a3, .ref a4, .ref a5])), (a1, .inl (cA1, 5, .inl (g)))] sz)) (0) (0) (va_A [(h0, .inr (3, [.ref a1, .ref a2, .ref a3, .ref a4, .ref a5])), (a1, .inl (cA1, 5, .inl (g)))] sz) := by
  refine Met.ofW (cc := cX3_full) (maxL := 2) (ret := (some .boolean)) (by decide) rfl ?_
  intro p e s m args below meth c s₁ B hml hv
  obtain ⟨rfl, hsz, hP, hK, hD0⟩ := hv
  have hx := B.exec
  have hb := B.bytes
  have hr := B.returns
  have hts := atoms_spec (ws := wsX3_full) B.pre
  have hown : s.vm.findClass RX3 = some m.cls := findClass_of_methodNamed B.named
  have hlocks := B.notSynchronized
  subst hsz
  have hD := hD0.self (sz := s.heap.size)
  generalize hAe : va_A [(h0, .inr (3, [.ref a1, .ref a2, .ref a3, .ref a4, .ref a5])), (a1, .inl (cA1, 5, .inl (g)))] s.heap.size = A at hD ⊢
  have hA : ∀ q : Nat, s.heap.size ≤ q → A q := fun q h => by rw [← hAe]; exact Or.inr h
  have hS : va_S A s.heap s.heap [] := va_S.rf
  have hl := lv_entry ([.ref h0, .int 0]) (n := 2) (Nat.le_of_ble_eq_true rfl)
  rw [lg_entry_eq]
  generalize (lg_sl ([.ref h0, .int 0]) ++ List.replicate (2 - (lg_sl ([.ref h0, .int 0])).length) Slot.unset).toArray = ls at hl ⊢
  have hl : lv_has ls 2 [(0, .ref h0), (1, .int 0)] := hl
  refine lv_aload_n hx hb dX3_full_0 rfl (lv_at hl 0 rfl) ?_
  refine va_get (D := (dC, dI)) (ci := 3) (v := .ref a1) (C := RX3) (T := TX3) (N := 5) hx hb hts (by decide +kernel) hown hK hP 0 rfl rfl 0 (by decide) (hts (.fieldLink RX3 9 "ProofBench$Names" "counts" "[I") (by decide +kernel)) (fun _ h9 => h9) rfl dX3_full_1 ?_
  refine lv_iload_n hx hb dX3_full_4 rfl (lv_at hl 1 rfl) ?_
  refine va_iald hx hb hK hP 1 0 rfl rfl (show vp_in (0) 5 from by unfold vp_in; decide) dX3_full_5 ?_
  refine lv_topi (fun z_1 e9 => ?_)
  obtain rfl : z_1 = 0 := by rw [e9]; exact hg
  refine lv_iload_n hx hb dX3_full_6 rfl (lv_at hl 1 rfl) ?_
  have hPc := hP.sub (ws' := []) [] rfl
  have hDc := hD.sub (ws' := []) [] (by decide) rfl
  have hKc := hK.sub (tys' := []) [] rfl
  have hFc := va_free (wc := []) hD hS hA [] rfl
  refine va_calli (va_runS (As := [.int 0]) (rest := [.int 0]) ⟨hx, hb, hml, hown, hts⟩ (c_most_0 l dC dI s.heap.size) (va_cwS 1 hts gX3_full_X3_most rfl rfl rfl (by decide +kernel) ⟨Nat.le_of_ble_eq_true rfl, Nat.le_of_ble_eq_true rfl⟩) ⟨fun a U g mk q => by obtain ⟨q0, q1, qP, qK, qD⟩ := q; exact ⟨q0, q1, qP, va_K.moved (u := U) (U := U.calling g mk a) (Vm.Alike.refl U.vm) qK, qD⟩, fun U hU hW => ⟨rfl, by rw [hU], by rw [hU]; exact hPc, va_K.moved hW.alike hKc, hDc.weaken (fun _ _ _ _ => trivial)⟩⟩ rfl rfl hl.1 rfl (lv_room (Nat.le_of_ble_eq_true rfl)) dX3_full_7 ⟨(show 0 + 0 ≤ 0 by omega), (show 0 + 0 ≤ 0 by omega)⟩) hS (fun q _ h => hFc q h) hFc (fun r0 u t H1 locs ht hvm hw hB hz1 hk1 hS => ?_)
  obtain ⟨hP1, hK1, hD1⟩ := hB
  rw [ht] at hP1
  have hK1 := va_K.moved hvm.symm hK1
  obtain ⟨hP, hD⟩ := va_join (wr := [(h0, .inr (3, [.ref a1, .ref a2, .ref a3, .ref a4, .ref a5])), (a1, .inl (cA1, 5, .inl (g)))]) (w1 := []) hP hD [] [0, 1] rfl rfl (by decide) (by decide) hk1 hFc hP1 hD1
  have hK := (hK.sub (tys' := [(cA1, .int)]) [0] rfl).app hK1
  generalize H1 = H at hP hS ⊢
  have hP : va_P (dC, dI) vwCl [(h0, .inr (3, [.ref a1, .ref a2, .ref a3, .ref a4, .ref a5])), (a1, .inl (cA1, 5, .inl (g)))] H := hP
  have hD : va_D A [(h0, .inr (3, [.ref a1, .ref a2, .ref a3, .ref a4, .ref a5])), (a1, .inl (cA1, 5, .inl (g)))] := hD
  have hK : va_K (dC, dI) vwCl [(cA1, .int)] s := hK
  refine W.widen (k := 0) (n := 0) (by omega) (by omega) ?_
  subst hw
  refine lv_icmp_lt (tgt := 17) hx hb dX3_full_10 (by decide) (fun _ => ?_) (fun c9 => absurd c9 (by decide))
  refine lv_iconst (v := 0) hx hb dX3_full_17 (by decide) ?_
  have hP9 := hP.sub (ws' := [(h0, .inr (3, [.ref a1, .ref a2, .ref a3, .ref a4, .ref a5])), (a1, .inl (cA1, 5, .inl (g)))]) [0, 1] rfl
  have hD9 := hD.sub (ws' := [(h0, .inr (3, [.ref a1, .ref a2, .ref a3, .ref a4, .ref a5])), (a1, .inl (cA1, 5, .inl (g)))]) [0, 1] (by decide) rfl
  have hK9 := hK.sub (tys' := [(cA1, .int)]) [0] rfl
  refine W.widen (k := 0) (n := 0) (by omega) (by omega) ?_
  exact W.zret (v := 0) hx hb hr (rfl) (fun t ht hW => ⟨⟨0, (), rfl, rfl, by rw [ht]; exact hP9, va_K.moved hW.alike hK9, hD9⟩, hS.F ht⟩) hS.2.2 dX3_full_18
set_option maxHeartbeats 1000000 in
set_option maxRecDepth 100000 in
/-- full -/
theorem c_full_2 (l : Launch) (dC : Nat → ClassId) (dI : Nat → Nat → Nat) (sz : Nat) (h0 a1 a2 a3 a4 a5 : Nat) (cA1 : ClassId) (g : Nat → Int32) (hg : g 2 = 0) : Met l yX3_full wsX3_full ({ frames := 1, cells := 0, slots := 0, locals := 20 }) (va_Pc [.ref h0, .int 2] (fun U => U.heap.size = sz ∧ va_P (dC, dI) vwCl [(h0, .inr (3, [.ref a1, .ref a2, .ref a3, .ref a4, .ref a5])), (a1, .inl (cA1, 5, .inl (g)))] U.heap ∧ va_K (dC, dI) vwCl [(cA1, .int)] U ∧ va_D (fun _ => True) [(h0, .inr (3, [.ref a1, .ref a2, .ref a3, .ref a4, .ref a5])), (a1, .inl (cA1, 5, .inl (g)))])) (va_Qi (fun (r : Int32) (_ : Unit) => r = 0) (fun _ t => va_P (dC, dI) vwCl [(h0, .inr (3, [.ref a1, .ref a2, .ref a3, .ref a4, .ref a5])), (a1, .inl (cA1, 5, .inl (g)))] t.heap ∧ va_K (dC, dI) vwCl [(cA1, .int)] t ∧ va_D (va_A [(h0, .inr (3, [.ref a1, .ref a2, .ref a3, .ref a4, .ref a5])), (a1, .inl (cA1, 5, .inl (g)))] sz) [(h0, .inr (3, [.ref a1, .ref a2, .ref a3, .ref a4, .ref a5])), (a1, .inl (cA1, 5, .inl (g)))]) (va_A [(h0, .inr (3, [.ref a1, .ref a2, .ref a3, .ref a4, .ref a5])), (a1, .inl (cA1, 5, .inl (g)))] sz)) (0) (0) (va_A [(h0, .inr (3, [.ref a1, .ref a2, .ref a3, .ref a4, .ref a5])), (a1, .inl (cA1, 5, .inl (g)))] sz) := by
  refine Met.ofW (cc := cX3_full) (maxL := 2) (ret := (some .boolean)) (by decide) rfl ?_
  intro p e s m args below meth c s₁ B hml hv
  obtain ⟨rfl, hsz, hP, hK, hD0⟩ := hv
  have hx := B.exec
  have hb := B.bytes
  have hr := B.returns
  have hts := atoms_spec (ws := wsX3_full) B.pre
  have hown : s.vm.findClass RX3 = some m.cls := findClass_of_methodNamed B.named
  have hlocks := B.notSynchronized
  subst hsz
  have hD := hD0.self (sz := s.heap.size)
  generalize hAe : va_A [(h0, .inr (3, [.ref a1, .ref a2, .ref a3, .ref a4, .ref a5])), (a1, .inl (cA1, 5, .inl (g)))] s.heap.size = A at hD ⊢
  have hA : ∀ q : Nat, s.heap.size ≤ q → A q := fun q h => by rw [← hAe]; exact Or.inr h
  have hS : va_S A s.heap s.heap [] := va_S.rf
  have hl := lv_entry ([.ref h0, .int 2]) (n := 2) (Nat.le_of_ble_eq_true rfl)
  rw [lg_entry_eq]
  generalize (lg_sl ([.ref h0, .int 2]) ++ List.replicate (2 - (lg_sl ([.ref h0, .int 2])).length) Slot.unset).toArray = ls at hl ⊢
  have hl : lv_has ls 2 [(0, .ref h0), (1, .int 2)] := hl
  refine lv_aload_n hx hb dX3_full_0 rfl (lv_at hl 0 rfl) ?_
  refine va_get (D := (dC, dI)) (ci := 3) (v := .ref a1) (C := RX3) (T := TX3) (N := 5) hx hb hts (by decide +kernel) hown hK hP 0 rfl rfl 0 (by decide) (hts (.fieldLink RX3 9 "ProofBench$Names" "counts" "[I") (by decide +kernel)) (fun _ h9 => h9) rfl dX3_full_1 ?_
  refine lv_iload_n hx hb dX3_full_4 rfl (lv_at hl 1 rfl) ?_
  refine va_iald hx hb hK hP 1 0 rfl rfl (show vp_in (2) 5 from by unfold vp_in; decide) dX3_full_5 ?_
  refine lv_topi (fun z_1 e9 => ?_)
  obtain rfl : z_1 = 0 := by rw [e9]; exact hg
  refine lv_iload_n hx hb dX3_full_6 rfl (lv_at hl 1 rfl) ?_
  have hPc := hP.sub (ws' := []) [] rfl
  have hDc := hD.sub (ws' := []) [] (by decide) rfl
  have hKc := hK.sub (tys' := []) [] rfl
  have hFc := va_free (wc := []) hD hS hA [] rfl
  refine va_calli (va_runS (As := [.int 2]) (rest := [.int 0]) ⟨hx, hb, hml, hown, hts⟩ (c_most_2 l dC dI s.heap.size) (va_cwS 1 hts gX3_full_X3_most rfl rfl rfl (by decide +kernel) ⟨Nat.le_of_ble_eq_true rfl, Nat.le_of_ble_eq_true rfl⟩) ⟨fun a U g mk q => by obtain ⟨q0, q1, qP, qK, qD⟩ := q; exact ⟨q0, q1, qP, va_K.moved (u := U) (U := U.calling g mk a) (Vm.Alike.refl U.vm) qK, qD⟩, fun U hU hW => ⟨rfl, by rw [hU], by rw [hU]; exact hPc, va_K.moved hW.alike hKc, hDc.weaken (fun _ _ _ _ => trivial)⟩⟩ rfl rfl hl.1 rfl (lv_room (Nat.le_of_ble_eq_true rfl)) dX3_full_7 ⟨(show 0 + 0 ≤ 0 by omega), (show 0 + 0 ≤ 0 by omega)⟩) hS (fun q _ h => hFc q h) hFc (fun r0 u t H1 locs ht hvm hw hB hz1 hk1 hS => ?_)
  obtain ⟨hP1, hK1, hD1⟩ := hB
  rw [ht] at hP1
  have hK1 := va_K.moved hvm.symm hK1
  obtain ⟨hP, hD⟩ := va_join (wr := [(h0, .inr (3, [.ref a1, .ref a2, .ref a3, .ref a4, .ref a5])), (a1, .inl (cA1, 5, .inl (g)))]) (w1 := []) hP hD [] [0, 1] rfl rfl (by decide) (by decide) hk1 hFc hP1 hD1
  have hK := (hK.sub (tys' := [(cA1, .int)]) [0] rfl).app hK1
  generalize H1 = H at hP hS ⊢
  have hP : va_P (dC, dI) vwCl [(h0, .inr (3, [.ref a1, .ref a2, .ref a3, .ref a4, .ref a5])), (a1, .inl (cA1, 5, .inl (g)))] H := hP
  have hD : va_D A [(h0, .inr (3, [.ref a1, .ref a2, .ref a3, .ref a4, .ref a5])), (a1, .inl (cA1, 5, .inl (g)))] := hD
  have hK : va_K (dC, dI) vwCl [(cA1, .int)] s := hK
  refine W.widen (k := 0) (n := 0) (by omega) (by omega) ?_
  subst hw
  refine lv_icmp_lt (tgt := 17) hx hb dX3_full_10 (by decide) (fun _ => ?_) (fun c9 => absurd c9 (by decide))
  refine lv_iconst (v := 0) hx hb dX3_full_17 (by decide) ?_
  have hP9 := hP.sub (ws' := [(h0, .inr (3, [.ref a1, .ref a2, .ref a3, .ref a4, .ref a5])), (a1, .inl (cA1, 5, .inl (g)))]) [0, 1] rfl
  have hD9 := hD.sub (ws' := [(h0, .inr (3, [.ref a1, .ref a2, .ref a3, .ref a4, .ref a5])), (a1, .inl (cA1, 5, .inl (g)))]) [0, 1] (by decide) rfl
  have hK9 := hK.sub (tys' := [(cA1, .int)]) [0] rfl
  refine W.widen (k := 0) (n := 0) (by omega) (by omega) ?_
  exact W.zret (v := 0) hx hb hr (rfl) (fun t ht hW => ⟨⟨0, (), rfl, rfl, by rw [ht]; exact hP9, va_K.moved hW.alike hK9, hD9⟩, hS.F ht⟩) hS.2.2 dX3_full_18
set_option maxHeartbeats 1000000 in
set_option maxRecDepth 100000 in
/-- tell -/
theorem c_tell_0 (l : Launch) (dC : Nat → ClassId) (dI : Nat → Nat → Nat) (sz : Nat) (h0 a1 a2 a3 a4 a5 a6 : Nat) (cA1 cA2 cA3 cA4 cA5 cA6 : ClassId) (g : Nat → Int32) (g2 : Nat → Int64) (g3 g4 g5 g6 : Nat → Int32) (y : Int64) (hg : g 0 = 0) (h4 : g 4 = 0) (h2 : g 2 = 0) : Met l yX3_tell wsX3_tell ({ frames := 2, cells := 0, slots := 0, locals := 41 }) (va_Pc [.ref h0, .int 0, .long y, .int 0, .ref a6, .int 0] (fun U => U.heap.size = sz ∧ va_P (dC, dI) vwCl [(h0, .inr (3, [.ref a1, .ref a2, .ref a3, .ref a4, .ref a5])), (a1, .inl (cA1, 5, .inl (g))), (a2, .inl (cA2, 200, .inr (.inl (g2)))), (a3, .inl (cA3, 200, .inl (g3))), (a4, .inl (cA4, 200, .inl (g4))), (a5, .inl (cA5, 600, .inl (g5))), (a6, .inl (cA6, 3, .inl (g6)))] U.heap ∧ va_K (dC, dI) vwCl [(cA1, .int), (cA2, .long), (cA3, .int), (cA4, .int), (cA5, .int), (cA6, .int)] U ∧ va_D (fun _ => True) [(h0, .inr (3, [.ref a1, .ref a2, .ref a3, .ref a4, .ref a5])), (a1, .inl (cA1, 5, .inl (g))), (a2, .inl (cA2, 200, .inr (.inl (g2)))), (a3, .inl (cA3, 200, .inl (g3))), (a4, .inl (cA4, 200, .inl (g4))), (a5, .inl (cA5, 600, .inl (g5))), (a6, .inl (cA6, 3, .inl (g6)))])) (va_Qi (fun (r : Int32) (_ : Unit) => True) (fun _ t => ∃ (g9 : Nat → Int32) (f_4 : Nat → Int64) (f_5 : Nat → Int32) (f_6 : Nat → Int32), va_P (dC, dI) vwCl [(h0, .inr (3, [.ref a1, .ref a2, .ref a3, .ref a4, .ref a5])), (a1, .inl (cA1, 5, .inl (g9))), (a2, .inl (cA2, 200, .inr (.inl (f_4)))), (a3, .inl (cA3, 200, .inl (f_5))), (a4, .inl (cA4, 200, .inl (f_6))), (a5, .inl (cA5, 600, .inl (g5))), (a6, .inl (cA6, 3, .inl (g6)))] t.heap ∧ va_K (dC, dI) vwCl [(cA1, .int), (cA2, .long), (cA3, .int), (cA4, .int), (cA5, .int), (cA6, .int)] t ∧ va_D (va_A [(h0, .inr (3, [.ref a1, .ref a2, .ref a3, .ref a4, .ref a5])), (a1, .inl (cA1, 5, .inl (g))), (a2, .inl (cA2, 200, .inr (.inl (g2)))), (a3, .inl (cA3, 200, .inl (g3))), (a4, .inl (cA4, 200, .inl (g4))), (a5, .inl (cA5, 600, .inl (g5))), (a6, .inl (cA6, 3, .inl (g6)))] sz) [(h0, .inr (3, [.ref a1, .ref a2, .ref a3, .ref a4, .ref a5])), (a1, .inl (cA1, 5, .inl (g9))), (a2, .inl (cA2, 200, .inr (.inl (f_4)))), (a3, .inl (cA3, 200, .inl (f_5))), (a4, .inl (cA4, 200, .inl (f_6))), (a5, .inl (cA5, 600, .inl (g5))), (a6, .inl (cA6, 3, .inl (g6)))] ∧ g9 4 = 0 ∧ g9 2 = 0) (va_A [(h0, .inr (3, [.ref a1, .ref a2, .ref a3, .ref a4, .ref a5])), (a1, .inl (cA1, 5, .inl (g))), (a2, .inl (cA2, 200, .inr (.inl (g2)))), (a3, .inl (cA3, 200, .inl (g3))), (a4, .inl (cA4, 200, .inl (g4))), (a5, .inl (cA5, 600, .inl (g5))), (a6, .inl (cA6, 3, .inl (g6)))] sz)) (0) (0) (va_A [(h0, .inr (3, [.ref a1, .ref a2, .ref a3, .ref a4, .ref a5])), (a1, .inl (cA1, 5, .inl (g))), (a2, .inl (cA2, 200, .inr (.inl (g2)))), (a3, .inl (cA3, 200, .inl (g3))), (a4, .inl (cA4, 200, .inl (g4))), (a5, .inl (cA5, 600, .inl (g5))), (a6, .inl (cA6, 3, .inl (g6)))] sz) := by
  refine Met.ofW (cc := cX3_tell) (maxL := 9) (ret := (some .int)) (by decide) rfl ?_
  intro p e s m args below meth c s₁ B hml hv
  obtain ⟨rfl, hsz, hP, hK, hD0⟩ := hv
  have hx := B.exec
  have hb := B.bytes
  have hr := B.returns
  have hts := atoms_spec (ws := wsX3_tell) B.pre
  have hown : s.vm.findClass RX3 = some m.cls := findClass_of_methodNamed B.named
  have hlocks := B.notSynchronized
  subst hsz
  have hD := hD0.self (sz := s.heap.size)
  generalize hAe : va_A [(h0, .inr (3, [.ref a1, .ref a2, .ref a3, .ref a4, .ref a5])), (a1, .inl (cA1, 5, .inl (g))), (a2, .inl (cA2, 200, .inr (.inl (g2)))), (a3, .inl (cA3, 200, .inl (g3))), (a4, .inl (cA4, 200, .inl (g4))), (a5, .inl (cA5, 600, .inl (g5))), (a6, .inl (cA6, 3, .inl (g6)))] s.heap.size = A at hD ⊢
  have hA : ∀ q : Nat, s.heap.size ≤ q → A q := fun q h => by rw [← hAe]; exact Or.inr h
  have hS : va_S A s.heap s.heap [] := va_S.rf
  have hl := lv_entry ([.ref h0, .int 0, .long y, .int 0, .ref a6, .int 0]) (n := 9) (Nat.le_of_ble_eq_true rfl)
  rw [lg_entry_eq]
  generalize (lg_sl ([.ref h0, .int 0, .long y, .int 0, .ref a6, .int 0]) ++ List.replicate (9 - (lg_sl ([.ref h0, .int 0, .long y, .int 0, .ref a6, .int 0])).length) Slot.unset).toArray = ls at hl ⊢
  have hl : lv_has ls 9 [(0, .ref h0), (1, .int 0), (2, .long y), (4, .int 0), (5, .ref a6), (6, .int 0)] := hl
  refine lv_aload_n hx hb dX3_tell_0 rfl (lv_at hl 0 rfl) ?_
  refine lv_iload_n hx hb dX3_tell_1 rfl (lv_at hl 1 rfl) ?_
  have hPc := hP.sub (ws' := [(h0, .inr (3, [.ref a1, .ref a2, .ref a3, .ref a4, .ref a5])), (a1, .inl (cA1, 5, .inl (g)))]) [0, 1] rfl
  have hDc := hD.sub (ws' := [(h0, .inr (3, [.ref a1, .ref a2, .ref a3, .ref a4, .ref a5])), (a1, .inl (cA1, 5, .inl (g)))]) [0, 1] (by decide) rfl
  have hKc := hK.sub (tys' := [(cA1, .int)]) [0] rfl
  have hFc := va_free (wc := [(h0, .inr (3, [.ref a1, .ref a2, .ref a3, .ref a4, .ref a5])), (a1, .inl (cA1, 5, .inl (g)))]) hD hS hA [0, 1] rfl
  refine va_calli (va_runV (As := [.int 0]) (rest := []) ⟨hx, hb, hml, hown, hts⟩ (c_full_0 l dC dI s.heap.size h0 a1 a2 a3 a4 a5 cA1 g hg) (cwV 1 hts gX3_tell_X3_full rfl rfl rfl (by decide +kernel) ⟨Nat.le_of_ble_eq_true rfl, Nat.le_of_ble_eq_true rfl⟩) ⟨fun a U g mk q => by obtain ⟨q0, q1, qP, qK, qD⟩ := q; exact ⟨q0, q1, qP, va_K.moved (u := U) (U := U.calling g mk a) (Vm.Alike.refl U.vm) qK, qD⟩, va_recv hKc hPc (ci := 3) (q0 := 0) rfl rfl, fun U hU hW => ⟨rfl, by rw [hU], by rw [hU]; exact hPc, va_K.moved hW.alike hKc, hDc.weaken (fun _ _ _ _ => trivial)⟩⟩ rfl rfl hl.1 rfl (lv_room (Nat.le_of_ble_eq_true rfl)) dX3_tell_2 ⟨(show 0 + 0 ≤ 0 by omega), (show 0 + 0 ≤ 0 by omega)⟩) hS (fun q _ h => hFc q h) hFc (fun r0 u t H1 locs ht hvm hw hB hz1 hk1 hS => ?_)
  obtain ⟨hP1, hK1, hD1⟩ := hB
  rw [ht] at hP1
  have hK1 := va_K.moved hvm.symm hK1
  obtain ⟨hP, hD⟩ := va_join (wr := [(a2, .inl (cA2, 200, .inr (.inl (g2)))), (a3, .inl (cA3, 200, .inl (g3))), (a4, .inl (cA4, 200, .inl (g4))), (a5, .inl (cA5, 600, .inl (g5))), (a6, .inl (cA6, 3, .inl (g6)))]) (w1 := [(h0, .inr (3, [.ref a1, .ref a2, .ref a3, .ref a4, .ref a5])), (a1, .inl (cA1, 5, .inl (g)))]) hP hD [0, 1] [2, 3, 4, 5, 6] rfl rfl (by decide) (by decide) hk1 hFc hP1 hD1
  have hK := (hK.sub (tys' := [(cA1, .int), (cA2, .long), (cA3, .int), (cA4, .int), (cA5, .int), (cA6, .int)]) [0, 1, 2, 3, 4, 5] rfl).app hK1
  generalize H1 = H at hP hS ⊢
  have hP : va_P (dC, dI) vwCl [(a2, .inl (cA2, 200, .inr (.inl (g2)))), (a3, .inl (cA3, 200, .inl (g3))), (a4, .inl (cA4, 200, .inl (g4))), (a5, .inl (cA5, 600, .inl (g5))), (a6, .inl (cA6, 3, .inl (g6))), (h0, .inr (3, [.ref a1, .ref a2, .ref a3, .ref a4, .ref a5])), (a1, .inl (cA1, 5, .inl (g)))] H := hP
  have hD : va_D A [(a2, .inl (cA2, 200, .inr (.inl (g2)))), (a3, .inl (cA3, 200, .inl (g3))), (a4, .inl (cA4, 200, .inl (g4))), (a5, .inl (cA5, 600, .inl (g5))), (a6, .inl (cA6, 3, .inl (g6))), (h0, .inr (3, [.ref a1, .ref a2, .ref a3, .ref a4, .ref a5])), (a1, .inl (cA1, 5, .inl (g)))] := hD
  have hK : va_K (dC, dI) vwCl [(cA1, .int), (cA2, .long), (cA3, .int), (cA4, .int), (cA5, .int), (cA6, .int), (cA1, .int)] s := hK
  refine W.widen (k := 0) (n := 0) (by omega) (by omega) ?_
  have hK := hK.sub (tys' := [(cA1, .int), (cA2, .long), (cA3, .int), (cA4, .int), (cA5, .int), (cA6, .int)]) [0, 1, 2, 3, 4, 5] rfl
  subst hw
  refine lv_if_eq (tgt := 11) hx hb dX3_tell_5 (by decide) (fun _ => ?_) (fun c9 => absurd c9 (by decide))
  refine lv_iload_n hx hb dX3_tell_11 rfl (lv_at hl 1 rfl) ?_
  refine lv_bipush (v := 40) hx hb dX3_tell_12 (by decide) ?_
  refine lv_imul hx hb dX3_tell_14 ?_
  refine lv_topi (fun z_1 e9 => ?_)
  obtain rfl : z_1 = 0 := by rw [e9]; decide
  refine lv_aload_n hx hb dX3_tell_15 rfl (lv_at hl 0 rfl) ?_
  refine va_get (D := (dC, dI)) (ci := 3) (v := .ref a1) (C := RX3) (T := TX3) (N := 5) hx hb hts (by decide +kernel) hown hK hP 5 rfl rfl 0 (by decide) (hts (.fieldLink RX3 9 "ProofBench$Names" "counts" "[I") (by decide +kernel)) (fun _ h9 => h9) rfl dX3_tell_16 ?_
  refine lv_iload_n hx hb dX3_tell_19 rfl (lv_at hl 1 rfl) ?_
  refine va_iald hx hb hK hP 6 0 rfl rfl (show vp_in (0) 5 from by unfold vp_in; decide) dX3_tell_20 ?_
  refine lv_topi (fun z_2 e9 => ?_)
  obtain rfl : z_2 = 0 := by rw [e9]; exact hg
  refine lv_iadd hx hb dX3_tell_21 ?_
  refine lv_topi (fun z_3 e9 => ?_)
  obtain rfl : z_3 = 0 := by rw [e9]; decide
  refine lv_istore (lv' := [(7, .int 0), (0, .ref h0), (1, .int 0), (2, .long y), (4, .int 0), (5, .ref a6), (6, .int 0)]) hx hb dX3_tell_22 hl (by decide) rfl (fun ls hl => ?_)
  refine lv_aload_n hx hb dX3_tell_24 rfl (lv_at hl 1 rfl) ?_
  refine va_get (D := (dC, dI)) (ci := 3) (v := .ref a2) (C := RX3) (T := TX3) (N := 5) hx hb hts (by decide +kernel) hown hK hP 5 rfl rfl 1 (by decide) (hts (.fieldLink RX3 15 "ProofBench$Names" "keys" "[J") (by decide +kernel)) (fun _ h9 => h9) rfl dX3_tell_25 ?_
  refine lv_iload hx hb dX3_tell_28 (lv_at hl 0 rfl) ?_
  refine lv_lload_n hx hb dX3_tell_30 rfl (lv_at hl 3 rfl) ?_
  refine va_last hx hb hK hP hD hS 0 1 rfl rfl (show vp_in (0) 200 from by unfold vp_in; decide) dX3_tell_31 (fun H locs hP hD hS => ?_)
  obtain ⟨f_4, hP, hD⟩ : ∃ f9 : Nat → Int64, va_P (dC, dI) vwCl [(a2, .inl (cA2, 200, .inr (.inl (f9)))), (a3, .inl (cA3, 200, .inl (g3))), (a4, .inl (cA4, 200, .inl (g4))), (a5, .inl (cA5, 600, .inl (g5))), (a6, .inl (cA6, 3, .inl (g6))), (h0, .inr (3, [.ref a1, .ref a2, .ref a3, .ref a4, .ref a5])), (a1, .inl (cA1, 5, .inl (g)))] H ∧ va_D A [(a2, .inl (cA2, 200, .inr (.inl (f9)))), (a3, .inl (cA3, 200, .inl (g3))), (a4, .inl (cA4, 200, .inl (g4))), (a5, .inl (cA5, 600, .inl (g5))), (a6, .inl (cA6, 3, .inl (g6))), (h0, .inr (3, [.ref a1, .ref a2, .ref a3, .ref a4, .ref a5])), (a1, .inl (cA1, 5, .inl (g)))] := ⟨_, hP, hD⟩
  refine lv_aload_n hx hb dX3_tell_32 rfl (lv_at hl 1 rfl) ?_
  refine va_get (D := (dC, dI)) (ci := 3) (v := .ref a3) (C := RX3) (T := TX3) (N := 5) hx hb hts (by decide +kernel) hown hK hP 5 rfl rfl 2 (by decide) (hts (.fieldLink RX3 19 "ProofBench$Names" "sorts" "[I") (by decide +kernel)) (fun _ h9 => h9) rfl dX3_tell_33 ?_
  refine lv_iload hx hb dX3_tell_36 (lv_at hl 0 rfl) ?_
  refine lv_iload hx hb dX3_tell_38 (lv_at hl 4 rfl) ?_
  refine va_iast hx hb hK hP hD hS 1 2 rfl rfl (show vp_in (0) 200 from by unfold vp_in; decide) dX3_tell_40 (fun H locs hP hD hS => ?_)
  obtain ⟨f_5, hP, hD⟩ : ∃ f9 : Nat → Int32, va_P (dC, dI) vwCl [(a2, .inl (cA2, 200, .inr (.inl (f_4)))), (a3, .inl (cA3, 200, .inl (f9))), (a4, .inl (cA4, 200, .inl (g4))), (a5, .inl (cA5, 600, .inl (g5))), (a6, .inl (cA6, 3, .inl (g6))), (h0, .inr (3, [.ref a1, .ref a2, .ref a3, .ref a4, .ref a5])), (a1, .inl (cA1, 5, .inl (g)))] H ∧ va_D A [(a2, .inl (cA2, 200, .inr (.inl (f_4)))), (a3, .inl (cA3, 200, .inl (f9))), (a4, .inl (cA4, 200, .inl (g4))), (a5, .inl (cA5, 600, .inl (g5))), (a6, .inl (cA6, 3, .inl (g6))), (h0, .inr (3, [.ref a1, .ref a2, .ref a3, .ref a4, .ref a5])), (a1, .inl (cA1, 5, .inl (g)))] := ⟨_, hP, hD⟩
  refine lv_aload_n hx hb dX3_tell_41 rfl (lv_at hl 1 rfl) ?_
  refine va_get (D := (dC, dI)) (ci := 3) (v := .ref a4) (C := RX3) (T := TX3) (N := 5) hx hb hts (by decide +kernel) hown hK hP 5 rfl rfl 3 (by decide) (hts (.fieldLink RX3 22 "ProofBench$Names" "arities" "[I") (by decide +kernel)) (fun _ h9 => h9) rfl dX3_tell_42 ?_
  refine lv_iload hx hb dX3_tell_45 (lv_at hl 0 rfl) ?_
  refine lv_iload hx hb dX3_tell_47 (lv_at hl 6 rfl) ?_
  refine va_iast hx hb hK hP hD hS 2 3 rfl rfl (show vp_in (0) 200 from by unfold vp_in; decide) dX3_tell_49 (fun H locs hP hD hS => ?_)
  obtain ⟨f_6, hP, hD⟩ : ∃ f9 : Nat → Int32, va_P (dC, dI) vwCl [(a2, .inl (cA2, 200, .inr (.inl (f_4)))), (a3, .inl (cA3, 200, .inl (f_5))), (a4, .inl (cA4, 200, .inl (f9))), (a5, .inl (cA5, 600, .inl (g5))), (a6, .inl (cA6, 3, .inl (g6))), (h0, .inr (3, [.ref a1, .ref a2, .ref a3, .ref a4, .ref a5])), (a1, .inl (cA1, 5, .inl (g)))] H ∧ va_D A [(a2, .inl (cA2, 200, .inr (.inl (f_4)))), (a3, .inl (cA3, 200, .inl (f_5))), (a4, .inl (cA4, 200, .inl (f9))), (a5, .inl (cA5, 600, .inl (g5))), (a6, .inl (cA6, 3, .inl (g6))), (h0, .inr (3, [.ref a1, .ref a2, .ref a3, .ref a4, .ref a5])), (a1, .inl (cA1, 5, .inl (g)))] := ⟨_, hP, hD⟩
  refine lv_iconst (v := 0) hx hb dX3_tell_50 (by decide) ?_
  refine lv_istore (lv' := [(8, .int 0), (7, .int 0), (0, .ref h0), (1, .int 0), (2, .long y), (4, .int 0), (5, .ref a6), (6, .int 0)]) hx hb dX3_tell_51 hl (by decide) rfl (fun ls hl => ?_)
  refine lv_iload hx hb dX3_tell_53 (lv_at hl 0 rfl) ?_
  refine lv_iload hx hb dX3_tell_55 (lv_at hl 7 rfl) ?_
  refine lv_icmp_ge (tgt := 97) hx hb dX3_tell_57 (by decide) (fun _ => ?_) (fun c9 => absurd c9 (by decide))
  refine lv_aload_n hx hb dX3_tell_97 rfl (lv_at hl 2 rfl) ?_
  refine va_get (D := (dC, dI)) (ci := 3) (v := .ref a1) (C := RX3) (T := TX3) (N := 5) hx hb hts (by decide +kernel) hown hK hP 5 rfl rfl 0 (by decide) (hts (.fieldLink RX3 9 "ProofBench$Names" "counts" "[I") (by decide +kernel)) (fun _ h9 => h9) rfl dX3_tell_98 ?_
  refine lv_iload_n hx hb dX3_tell_101 rfl (lv_at hl 3 rfl) ?_
  refine lv_dup2_11 hx hb dX3_tell_102 rfl rfl ?_
  refine va_iald hx hb hK hP 6 0 rfl rfl (show vp_in (0) 5 from by unfold vp_in; decide) dX3_tell_103 ?_
  refine lv_topi (fun z_7 e9 => ?_)
  obtain rfl : z_7 = 0 := by rw [e9]; exact hg
  refine lv_iconst (v := 1) hx hb dX3_tell_104 (by decide) ?_
  refine lv_iadd hx hb dX3_tell_105 ?_
  refine lv_topi (fun z_8 e9 => ?_)
  obtain rfl : z_8 = 1 := by rw [e9]; decide
  refine va_iast hx hb hK hP hD hS 6 0 rfl rfl (show vp_in (0) 5 from by unfold vp_in; decide) dX3_tell_106 (fun H locs hP hD hS => ?_)
  obtain ⟨g9, hP, hD, hg4, hg2⟩ : ∃ g9 : Nat → Int32, va_P (dC, dI) vwCl [(a2, .inl (cA2, 200, .inr (.inl (f_4)))), (a3, .inl (cA3, 200, .inl (f_5))), (a4, .inl (cA4, 200, .inl (f_6))), (a5, .inl (cA5, 600, .inl (g5))), (a6, .inl (cA6, 3, .inl (g6))), (h0, .inr (3, [.ref a1, .ref a2, .ref a3, .ref a4, .ref a5])), (a1, .inl (cA1, 5, .inl (g9)))] H ∧ va_D A [(a2, .inl (cA2, 200, .inr (.inl (f_4)))), (a3, .inl (cA3, 200, .inl (f_5))), (a4, .inl (cA4, 200, .inl (f_6))), (a5, .inl (cA5, 600, .inl (g5))), (a6, .inl (cA6, 3, .inl (g6))), (h0, .inr (3, [.ref a1, .ref a2, .ref a3, .ref a4, .ref a5])), (a1, .inl (cA1, 5, .inl (g9)))] ∧ g9 4 = 0 ∧ g9 2 = 0 := ⟨_, hP, hD, (pk_un (by decide)).trans h4, (pk_un (by decide)).trans h2⟩
  refine lv_iconst (v := 0) hx hb dX3_tell_107 (by decide) ?_
  have hP9 := hP.sub (ws' := [(h0, .inr (3, [.ref a1, .ref a2, .ref a3, .ref a4, .ref a5])), (a1, .inl (cA1, 5, .inl (g9))), (a2, .inl (cA2, 200, .inr (.inl (f_4)))), (a3, .inl (cA3, 200, .inl (f_5))), (a4, .inl (cA4, 200, .inl (f_6))), (a5, .inl (cA5, 600, .inl (g5))), (a6, .inl (cA6, 3, .inl (g6)))]) [5, 6, 0, 1, 2, 3, 4] rfl
  have hD9 := hD.sub (ws' := [(h0, .inr (3, [.ref a1, .ref a2, .ref a3, .ref a4, .ref a5])), (a1, .inl (cA1, 5, .inl (g9))), (a2, .inl (cA2, 200, .inr (.inl (f_4)))), (a3, .inl (cA3, 200, .inl (f_5))), (a4, .inl (cA4, 200, .inl (f_6))), (a5, .inl (cA5, 600, .inl (g5))), (a6, .inl (cA6, 3, .inl (g6)))]) [5, 6, 0, 1, 2, 3, 4] (by decide) rfl
  exact W.iret (v := 0) hx hb hr (fun t ht hW => ⟨⟨0, (), rfl, trivial, g9, f_4, f_5, f_6, by rw [ht]; exact hP9, va_K.moved hW.alike hK, hD9, hg4, hg2⟩, hS.F ht⟩) hS.2.2 dX3_tell_108
set_option maxHeartbeats 1000000 in
set_option maxRecDepth 100000 in
/-- tell -/
theorem c_tell_2 (l : Launch) (dC : Nat → ClassId) (dI : Nat → Nat → Nat) (sz : Nat) (h0 a1 a2 a3 a4 a5 a6 : Nat) (cA1 cA2 cA3 cA4 cA5 cA6 : ClassId) (g : Nat → Int32) (g2 : Nat → Int64) (g3 g4 g5 g6 : Nat → Int32) (y : Int64) (hg : g 2 = 0) (h4 : g 4 = 0) : Met l yX3_tell wsX3_tell ({ frames := 2, cells := 0, slots := 0, locals := 41 }) (va_Pc [.ref h0, .int 2, .long y, .int 0, .ref a6, .int 1] (fun U => U.heap.size = sz ∧ va_P (dC, dI) vwCl [(h0, .inr (3, [.ref a1, .ref a2, .ref a3, .ref a4, .ref a5])), (a1, .inl (cA1, 5, .inl (g))), (a2, .inl (cA2, 200, .inr (.inl (g2)))), (a3, .inl (cA3, 200, .inl (g3))), (a4, .inl (cA4, 200, .inl (g4))), (a5, .inl (cA5, 600, .inl (g5))), (a6, .inl (cA6, 3, .inl (g6)))] U.heap ∧ va_K (dC, dI) vwCl [(cA1, .int), (cA2, .long), (cA3, .int), (cA4, .int), (cA5, .int), (cA6, .int)] U ∧ va_D (fun _ => True) [(h0, .inr (3, [.ref a1, .ref a2, .ref a3, .ref a4, .ref a5])), (a1, .inl (cA1, 5, .inl (g))), (a2, .inl (cA2, 200, .inr (.inl (g2)))), (a3, .inl (cA3, 200, .inl (g3))), (a4, .inl (cA4, 200, .inl (g4))), (a5, .inl (cA5, 600, .inl (g5))), (a6, .inl (cA6, 3, .inl (g6)))])) (va_Qi (fun (r : Int32) (_ : Unit) => True) (fun _ t => ∃ (g9 : Nat → Int32) (f_4 : Nat → Int64) (f_5 : Nat → Int32) (f_6 : Nat → Int32) (f_10 : Nat → Int32), va_P (dC, dI) vwCl [(h0, .inr (3, [.ref a1, .ref a2, .ref a3, .ref a4, .ref a5])), (a1, .inl (cA1, 5, .inl (g9))), (a2, .inl (cA2, 200, .inr (.inl (f_4)))), (a3, .inl (cA3, 200, .inl (f_5))), (a4, .inl (cA4, 200, .inl (f_6))), (a5, .inl (cA5, 600, .inl (f_10))), (a6, .inl (cA6, 3, .inl (g6)))] t.heap ∧ va_K (dC, dI) vwCl [(cA1, .int), (cA2, .long), (cA3, .int), (cA4, .int), (cA5, .int), (cA6, .int)] t ∧ va_D (va_A [(h0, .inr (3, [.ref a1, .ref a2, .ref a3, .ref a4, .ref a5])), (a1, .inl (cA1, 5, .inl (g))), (a2, .inl (cA2, 200, .inr (.inl (g2)))), (a3, .inl (cA3, 200, .inl (g3))), (a4, .inl (cA4, 200, .inl (g4))), (a5, .inl (cA5, 600, .inl (g5))), (a6, .inl (cA6, 3, .inl (g6)))] sz) [(h0, .inr (3, [.ref a1, .ref a2, .ref a3, .ref a4, .ref a5])), (a1, .inl (cA1, 5, .inl (g9))), (a2, .inl (cA2, 200, .inr (.inl (f_4)))), (a3, .inl (cA3, 200, .inl (f_5))), (a4, .inl (cA4, 200, .inl (f_6))), (a5, .inl (cA5, 600, .inl (f_10))), (a6, .inl (cA6, 3, .inl (g6)))] ∧ g9 4 = 0) (va_A [(h0, .inr (3, [.ref a1, .ref a2, .ref a3, .ref a4, .ref a5])), (a1, .inl (cA1, 5, .inl (g))), (a2, .inl (cA2, 200, .inr (.inl (g2)))), (a3, .inl (cA3, 200, .inl (g3))), (a4, .inl (cA4, 200, .inl (g4))), (a5, .inl (cA5, 600, .inl (g5))), (a6, .inl (cA6, 3, .inl (g6)))] sz)) (0) (0) (va_A [(h0, .inr (3, [.ref a1, .ref a2, .ref a3, .ref a4, .ref a5])), (a1, .inl (cA1, 5, .inl (g))), (a2, .inl (cA2, 200, .inr (.inl (g2)))), (a3, .inl (cA3, 200, .inl (g3))), (a4, .inl (cA4, 200, .inl (g4))), (a5, .inl (cA5, 600, .inl (g5))), (a6, .inl (cA6, 3, .inl (g6)))] sz) := by
  refine Met.ofW (cc := cX3_tell) (maxL := 9) (ret := (some .int)) (by decide) rfl ?_
  intro p e s m args below meth c s₁ B hml hv
  obtain ⟨rfl, hsz, hP, hK, hD0⟩ := hv
  have hx := B.exec
  have hb := B.bytes
  have hr := B.returns
  have hts := atoms_spec (ws := wsX3_tell) B.pre
  have hown : s.vm.findClass RX3 = some m.cls := findClass_of_methodNamed B.named
  have hlocks := B.notSynchronized
  subst hsz
  have hD := hD0.self (sz := s.heap.size)
  generalize hAe : va_A [(h0, .inr (3, [.ref a1, .ref a2, .ref a3, .ref a4, .ref a5])), (a1, .inl (cA1, 5, .inl (g))), (a2, .inl (cA2, 200, .inr (.inl (g2)))), (a3, .inl (cA3, 200, .inl (g3))), (a4, .inl (cA4, 200, .inl (g4))), (a5, .inl (cA5, 600, .inl (g5))), (a6, .inl (cA6, 3, .inl (g6)))] s.heap.size = A at hD ⊢
  have hA : ∀ q : Nat, s.heap.size ≤ q → A q := fun q h => by rw [← hAe]; exact Or.inr h
  have hS : va_S A s.heap s.heap [] := va_S.rf
  have hl := lv_entry ([.ref h0, .int 2, .long y, .int 0, .ref a6, .int 1]) (n := 9) (Nat.le_of_ble_eq_true rfl)
  rw [lg_entry_eq]
  generalize (lg_sl ([.ref h0, .int 2, .long y, .int 0, .ref a6, .int 1]) ++ List.replicate (9 - (lg_sl ([.ref h0, .int 2, .long y, .int 0, .ref a6, .int 1])).length) Slot.unset).toArray = ls at hl ⊢
  have hl : lv_has ls 9 [(0, .ref h0), (1, .int 2), (2, .long y), (4, .int 0), (5, .ref a6), (6, .int 1)] := hl
  refine lv_aload_n hx hb dX3_tell_0 rfl (lv_at hl 0 rfl) ?_
  refine lv_iload_n hx hb dX3_tell_1 rfl (lv_at hl 1 rfl) ?_
  have hPc := hP.sub (ws' := [(h0, .inr (3, [.ref a1, .ref a2, .ref a3, .ref a4, .ref a5])), (a1, .inl (cA1, 5, .inl (g)))]) [0, 1] rfl
  have hDc := hD.sub (ws' := [(h0, .inr (3, [.ref a1, .ref a2, .ref a3, .ref a4, .ref a5])), (a1, .inl (cA1, 5, .inl (g)))]) [0, 1] (by decide) rfl
  have hKc := hK.sub (tys' := [(cA1, .int)]) [0] rfl
  have hFc := va_free (wc := [(h0, .inr (3, [.ref a1, .ref a2, .ref a3, .ref a4, .ref a5])), (a1, .inl (cA1, 5, .inl (g)))]) hD hS hA [0, 1] rfl
  refine va_calli (va_runV (As := [.int 2]) (rest := []) ⟨hx, hb, hml, hown, hts⟩ (c_full_2 l dC dI s.heap.size h0 a1 a2 a3 a4 a5 cA1 g hg) (cwV 1 hts gX3_tell_X3_full rfl rfl rfl (by decide +kernel) ⟨Nat.le_of_ble_eq_true rfl, Nat.le_of_ble_eq_true rfl⟩) ⟨fun a U g mk q => by obtain ⟨q0, q1, qP, qK, qD⟩ := q; exact ⟨q0, q1, qP, va_K.moved (u := U) (U := U.calling g mk a) (Vm.Alike.refl U.vm) qK, qD⟩, va_recv hKc hPc (ci := 3) (q0 := 0) rfl rfl, fun U hU hW => ⟨rfl, by rw [hU], by rw [hU]; exact hPc, va_K.moved hW.alike hKc, hDc.weaken (fun _ _ _ _ => trivial)⟩⟩ rfl rfl hl.1 rfl (lv_room (Nat.le_of_ble_eq_true rfl)) dX3_tell_2 ⟨(show 0 + 0 ≤ 0 by omega), (show 0 + 0 ≤ 0 by omega)⟩) hS (fun q _ h => hFc q h) hFc (fun r0 u t H1 locs ht hvm hw hB hz1 hk1 hS => ?_)
  obtain ⟨hP1, hK1, hD1⟩ := hB
  rw [ht] at hP1
  have hK1 := va_K.moved hvm.symm hK1
  obtain ⟨hP, hD⟩ := va_join (wr := [(a2, .inl (cA2, 200, .inr (.inl (g2)))), (a3, .inl (cA3, 200, .inl (g3))), (a4, .inl (cA4, 200, .inl (g4))), (a5, .inl (cA5, 600, .inl (g5))), (a6, .inl (cA6, 3, .inl (g6)))]) (w1 := [(h0, .inr (3, [.ref a1, .ref a2, .ref a3, .ref a4, .ref a5])), (a1, .inl (cA1, 5, .inl (g)))]) hP hD [0, 1] [2, 3, 4, 5, 6] rfl rfl (by decide) (by decide) hk1 hFc hP1 hD1
  have hK := (hK.sub (tys' := [(cA1, .int), (cA2, .long), (cA3, .int), (cA4, .int), (cA5, .int), (cA6, .int)]) [0, 1, 2, 3, 4, 5] rfl).app hK1
  generalize H1 = H at hP hS ⊢
  have hP : va_P (dC, dI) vwCl [(a2, .inl (cA2, 200, .inr (.inl (g2)))), (a3, .inl (cA3, 200, .inl (g3))), (a4, .inl (cA4, 200, .inl (g4))), (a5, .inl (cA5, 600, .inl (g5))), (a6, .inl (cA6, 3, .inl (g6))), (h0, .inr (3, [.ref a1, .ref a2, .ref a3, .ref a4, .ref a5])), (a1, .inl (cA1, 5, .inl (g)))] H := hP
  have hD : va_D A [(a2, .inl (cA2, 200, .inr (.inl (g2)))), (a3, .inl (cA3, 200, .inl (g3))), (a4, .inl (cA4, 200, .inl (g4))), (a5, .inl (cA5, 600, .inl (g5))), (a6, .inl (cA6, 3, .inl (g6))), (h0, .inr (3, [.ref a1, .ref a2, .ref a3, .ref a4, .ref a5])), (a1, .inl (cA1, 5, .inl (g)))] := hD
  have hK : va_K (dC, dI) vwCl [(cA1, .int), (cA2, .long), (cA3, .int), (cA4, .int), (cA5, .int), (cA6, .int), (cA1, .int)] s := hK
  refine W.widen (k := 0) (n := 0) (by omega) (by omega) ?_
  have hK := hK.sub (tys' := [(cA1, .int), (cA2, .long), (cA3, .int), (cA4, .int), (cA5, .int), (cA6, .int)]) [0, 1, 2, 3, 4, 5] rfl
  subst hw
  refine lv_if_eq (tgt := 11) hx hb dX3_tell_5 (by decide) (fun _ => ?_) (fun c9 => absurd c9 (by decide))
  refine lv_iload_n hx hb dX3_tell_11 rfl (lv_at hl 1 rfl) ?_
  refine lv_bipush (v := 40) hx hb dX3_tell_12 (by decide) ?_
  refine lv_imul hx hb dX3_tell_14 ?_
  refine lv_topi (fun z_1 e9 => ?_)
  obtain rfl : z_1 = 80 := by rw [e9]; decide
  refine lv_aload_n hx hb dX3_tell_15 rfl (lv_at hl 0 rfl) ?_
  refine va_get (D := (dC, dI)) (ci := 3) (v := .ref a1) (C := RX3) (T := TX3) (N := 5) hx hb hts (by decide +kernel) hown hK hP 5 rfl rfl 0 (by decide) (hts (.fieldLink RX3 9 "ProofBench$Names" "counts" "[I") (by decide +kernel)) (fun _ h9 => h9) rfl dX3_tell_16 ?_
  refine lv_iload_n hx hb dX3_tell_19 rfl (lv_at hl 1 rfl) ?_
  refine va_iald hx hb hK hP 6 0 rfl rfl (show vp_in (2) 5 from by unfold vp_in; decide) dX3_tell_20 ?_
  refine lv_topi (fun z_2 e9 => ?_)
  obtain rfl : z_2 = 0 := by rw [e9]; exact hg
  refine lv_iadd hx hb dX3_tell_21 ?_
  refine lv_topi (fun z_3 e9 => ?_)
  obtain rfl : z_3 = 80 := by rw [e9]; decide
  refine lv_istore (lv' := [(7, .int 80), (0, .ref h0), (1, .int 2), (2, .long y), (4, .int 0), (5, .ref a6), (6, .int 1)]) hx hb dX3_tell_22 hl (by decide) rfl (fun ls hl => ?_)
  refine lv_aload_n hx hb dX3_tell_24 rfl (lv_at hl 1 rfl) ?_
  refine va_get (D := (dC, dI)) (ci := 3) (v := .ref a2) (C := RX3) (T := TX3) (N := 5) hx hb hts (by decide +kernel) hown hK hP 5 rfl rfl 1 (by decide) (hts (.fieldLink RX3 15 "ProofBench$Names" "keys" "[J") (by decide +kernel)) (fun _ h9 => h9) rfl dX3_tell_25 ?_
  refine lv_iload hx hb dX3_tell_28 (lv_at hl 0 rfl) ?_
  refine lv_lload_n hx hb dX3_tell_30 rfl (lv_at hl 3 rfl) ?_
  refine va_last hx hb hK hP hD hS 0 1 rfl rfl (show vp_in (80) 200 from by unfold vp_in; decide) dX3_tell_31 (fun H locs hP hD hS => ?_)
  obtain ⟨f_4, hP, hD⟩ : ∃ f9 : Nat → Int64, va_P (dC, dI) vwCl [(a2, .inl (cA2, 200, .inr (.inl (f9)))), (a3, .inl (cA3, 200, .inl (g3))), (a4, .inl (cA4, 200, .inl (g4))), (a5, .inl (cA5, 600, .inl (g5))), (a6, .inl (cA6, 3, .inl (g6))), (h0, .inr (3, [.ref a1, .ref a2, .ref a3, .ref a4, .ref a5])), (a1, .inl (cA1, 5, .inl (g)))] H ∧ va_D A [(a2, .inl (cA2, 200, .inr (.inl (f9)))), (a3, .inl (cA3, 200, .inl (g3))), (a4, .inl (cA4, 200, .inl (g4))), (a5, .inl (cA5, 600, .inl (g5))), (a6, .inl (cA6, 3, .inl (g6))), (h0, .inr (3, [.ref a1, .ref a2, .ref a3, .ref a4, .ref a5])), (a1, .inl (cA1, 5, .inl (g)))] := ⟨_, hP, hD⟩
  refine lv_aload_n hx hb dX3_tell_32 rfl (lv_at hl 1 rfl) ?_
  refine va_get (D := (dC, dI)) (ci := 3) (v := .ref a3) (C := RX3) (T := TX3) (N := 5) hx hb hts (by decide +kernel) hown hK hP 5 rfl rfl 2 (by decide) (hts (.fieldLink RX3 19 "ProofBench$Names" "sorts" "[I") (by decide +kernel)) (fun _ h9 => h9) rfl dX3_tell_33 ?_
  refine lv_iload hx hb dX3_tell_36 (lv_at hl 0 rfl) ?_
  refine lv_iload hx hb dX3_tell_38 (lv_at hl 4 rfl) ?_
  refine va_iast hx hb hK hP hD hS 1 2 rfl rfl (show vp_in (80) 200 from by unfold vp_in; decide) dX3_tell_40 (fun H locs hP hD hS => ?_)
  obtain ⟨f_5, hP, hD⟩ : ∃ f9 : Nat → Int32, va_P (dC, dI) vwCl [(a2, .inl (cA2, 200, .inr (.inl (f_4)))), (a3, .inl (cA3, 200, .inl (f9))), (a4, .inl (cA4, 200, .inl (g4))), (a5, .inl (cA5, 600, .inl (g5))), (a6, .inl (cA6, 3, .inl (g6))), (h0, .inr (3, [.ref a1, .ref a2, .ref a3, .ref a4, .ref a5])), (a1, .inl (cA1, 5, .inl (g)))] H ∧ va_D A [(a2, .inl (cA2, 200, .inr (.inl (f_4)))), (a3, .inl (cA3, 200, .inl (f9))), (a4, .inl (cA4, 200, .inl (g4))), (a5, .inl (cA5, 600, .inl (g5))), (a6, .inl (cA6, 3, .inl (g6))), (h0, .inr (3, [.ref a1, .ref a2, .ref a3, .ref a4, .ref a5])), (a1, .inl (cA1, 5, .inl (g)))] := ⟨_, hP, hD⟩
  refine lv_aload_n hx hb dX3_tell_41 rfl (lv_at hl 1 rfl) ?_
  refine va_get (D := (dC, dI)) (ci := 3) (v := .ref a4) (C := RX3) (T := TX3) (N := 5) hx hb hts (by decide +kernel) hown hK hP 5 rfl rfl 3 (by decide) (hts (.fieldLink RX3 22 "ProofBench$Names" "arities" "[I") (by decide +kernel)) (fun _ h9 => h9) rfl dX3_tell_42 ?_
  refine lv_iload hx hb dX3_tell_45 (lv_at hl 0 rfl) ?_
  refine lv_iload hx hb dX3_tell_47 (lv_at hl 6 rfl) ?_
  refine va_iast hx hb hK hP hD hS 2 3 rfl rfl (show vp_in (80) 200 from by unfold vp_in; decide) dX3_tell_49 (fun H locs hP hD hS => ?_)
  obtain ⟨f_6, hP, hD⟩ : ∃ f9 : Nat → Int32, va_P (dC, dI) vwCl [(a2, .inl (cA2, 200, .inr (.inl (f_4)))), (a3, .inl (cA3, 200, .inl (f_5))), (a4, .inl (cA4, 200, .inl (f9))), (a5, .inl (cA5, 600, .inl (g5))), (a6, .inl (cA6, 3, .inl (g6))), (h0, .inr (3, [.ref a1, .ref a2, .ref a3, .ref a4, .ref a5])), (a1, .inl (cA1, 5, .inl (g)))] H ∧ va_D A [(a2, .inl (cA2, 200, .inr (.inl (f_4)))), (a3, .inl (cA3, 200, .inl (f_5))), (a4, .inl (cA4, 200, .inl (f9))), (a5, .inl (cA5, 600, .inl (g5))), (a6, .inl (cA6, 3, .inl (g6))), (h0, .inr (3, [.ref a1, .ref a2, .ref a3, .ref a4, .ref a5])), (a1, .inl (cA1, 5, .inl (g)))] := ⟨_, hP, hD⟩
  refine lv_iconst (v := 0) hx hb dX3_tell_50 (by decide) ?_
  refine lv_istore (lv' := [(8, .int 0), (7, .int 80), (0, .ref h0), (1, .int 2), (2, .long y), (4, .int 0), (5, .ref a6), (6, .int 1)]) hx hb dX3_tell_51 hl (by decide) rfl (fun ls hl => ?_)
  refine lv_iload hx hb dX3_tell_53 (lv_at hl 0 rfl) ?_
  refine lv_iload hx hb dX3_tell_55 (lv_at hl 7 rfl) ?_
  refine lv_icmp_ge (tgt := 97) hx hb dX3_tell_57 (by decide) (fun c9 => absurd c9 (by decide)) (fun _ => ?_)
  refine lv_iload hx hb dX3_tell_60 (lv_at hl 0 rfl) ?_
  refine lv_aload hx hb dX3_tell_62 (lv_at hl 6 rfl) ?_
  refine va_alen hx hb hK hP 4 5 rfl rfl (v := 3) (show Int32.ofNat 3 = 3 from by decide) dX3_tell_64 ?_
  refine lv_icmp_ge (tgt := 97) hx hb dX3_tell_65 (by decide) (fun c9 => absurd c9 (by decide)) (fun _ => ?_)
  refine lv_iload hx hb dX3_tell_68 (lv_at hl 0 rfl) ?_
  refine lv_iconst (v := 3) hx hb dX3_tell_70 (by decide) ?_
  refine lv_icmp_ge (tgt := 97) hx hb dX3_tell_71 (by decide) (fun c9 => absurd c9 (by decide)) (fun _ => ?_)
  refine lv_aload_n hx hb dX3_tell_74 rfl (lv_at hl 2 rfl) ?_
  refine va_get (D := (dC, dI)) (ci := 3) (v := .ref a5) (C := RX3) (T := TX3) (N := 5) hx hb hts (by decide +kernel) hown hK hP 5 rfl rfl 4 (by decide) (hts (.fieldLink RX3 25 "ProofBench$Names" "parts" "[I") (by decide +kernel)) (fun _ h9 => h9) rfl dX3_tell_75 ?_
  refine lv_iload hx hb dX3_tell_78 (lv_at hl 1 rfl) ?_
  refine lv_iconst (v := 3) hx hb dX3_tell_80 (by decide) ?_
  refine lv_imul hx hb dX3_tell_81 ?_
  refine lv_topi (fun z_7 e9 => ?_)
  obtain rfl : z_7 = 240 := by rw [e9]; decide
  refine lv_iload hx hb dX3_tell_82 (lv_at hl 0 rfl) ?_
  refine lv_iadd hx hb dX3_tell_84 ?_
  refine lv_topi (fun z_8 e9 => ?_)
  obtain rfl : z_8 = 240 := by rw [e9]; decide
  refine lv_aload hx hb dX3_tell_85 (lv_at hl 6 rfl) ?_
  refine lv_iload hx hb dX3_tell_87 (lv_at hl 0 rfl) ?_
  refine va_iald hx hb hK hP 4 5 rfl rfl (show vp_in (0) 3 from by unfold vp_in; decide) dX3_tell_89 ?_
  refine lv_topi (fun r_9 er_9 => ?_)
  refine va_iast hx hb hK hP hD hS 3 4 rfl rfl (show vp_in (240) 600 from by unfold vp_in; decide) dX3_tell_90 (fun H locs hP hD hS => ?_)
  obtain ⟨f_10, hP, hD⟩ : ∃ f9 : Nat → Int32, va_P (dC, dI) vwCl [(a2, .inl (cA2, 200, .inr (.inl (f_4)))), (a3, .inl (cA3, 200, .inl (f_5))), (a4, .inl (cA4, 200, .inl (f_6))), (a5, .inl (cA5, 600, .inl (f9))), (a6, .inl (cA6, 3, .inl (g6))), (h0, .inr (3, [.ref a1, .ref a2, .ref a3, .ref a4, .ref a5])), (a1, .inl (cA1, 5, .inl (g)))] H ∧ va_D A [(a2, .inl (cA2, 200, .inr (.inl (f_4)))), (a3, .inl (cA3, 200, .inl (f_5))), (a4, .inl (cA4, 200, .inl (f_6))), (a5, .inl (cA5, 600, .inl (f9))), (a6, .inl (cA6, 3, .inl (g6))), (h0, .inr (3, [.ref a1, .ref a2, .ref a3, .ref a4, .ref a5])), (a1, .inl (cA1, 5, .inl (g)))] := ⟨_, hP, hD⟩
  refine lv_iinc (v := 1) (lv' := [(8, .int 1), (7, .int 80), (0, .ref h0), (1, .int 2), (2, .long y), (4, .int 0), (5, .ref a6), (6, .int 1)]) hx hb dX3_tell_91 hl (k := 0) rfl (by decide) (by decide) rfl (fun ls hl => ?_)
  refine lv_goto (tgt := 53) hx hb dX3_tell_94 (by decide) ?_
  refine lv_iload hx hb dX3_tell_53 (lv_at hl 0 rfl) ?_
  refine lv_iload hx hb dX3_tell_55 (lv_at hl 7 rfl) ?_
  refine lv_icmp_ge (tgt := 97) hx hb dX3_tell_57 (by decide) (fun _ => ?_) (fun c9 => absurd c9 (by decide))
  refine lv_aload_n hx hb dX3_tell_97 rfl (lv_at hl 2 rfl) ?_
  refine va_get (D := (dC, dI)) (ci := 3) (v := .ref a1) (C := RX3) (T := TX3) (N := 5) hx hb hts (by decide +kernel) hown hK hP 5 rfl rfl 0 (by decide) (hts (.fieldLink RX3 9 "ProofBench$Names" "counts" "[I") (by decide +kernel)) (fun _ h9 => h9) rfl dX3_tell_98 ?_
  refine lv_iload_n hx hb dX3_tell_101 rfl (lv_at hl 3 rfl) ?_
  refine lv_dup2_11 hx hb dX3_tell_102 rfl rfl ?_
  refine va_iald hx hb hK hP 6 0 rfl rfl (show vp_in (2) 5 from by unfold vp_in; decide) dX3_tell_103 ?_
  refine lv_topi (fun z_11 e9 => ?_)
  obtain rfl : z_11 = 0 := by rw [e9]; exact hg
  refine lv_iconst (v := 1) hx hb dX3_tell_104 (by decide) ?_
  refine lv_iadd hx hb dX3_tell_105 ?_
  refine lv_topi (fun z_12 e9 => ?_)
  obtain rfl : z_12 = 1 := by rw [e9]; decide
  refine va_iast hx hb hK hP hD hS 6 0 rfl rfl (show vp_in (2) 5 from by unfold vp_in; decide) dX3_tell_106 (fun H locs hP hD hS => ?_)
  obtain ⟨g9, hP, hD, hg4⟩ : ∃ g9 : Nat → Int32, va_P (dC, dI) vwCl [(a2, .inl (cA2, 200, .inr (.inl (f_4)))), (a3, .inl (cA3, 200, .inl (f_5))), (a4, .inl (cA4, 200, .inl (f_6))), (a5, .inl (cA5, 600, .inl (f_10))), (a6, .inl (cA6, 3, .inl (g6))), (h0, .inr (3, [.ref a1, .ref a2, .ref a3, .ref a4, .ref a5])), (a1, .inl (cA1, 5, .inl (g9)))] H ∧ va_D A [(a2, .inl (cA2, 200, .inr (.inl (f_4)))), (a3, .inl (cA3, 200, .inl (f_5))), (a4, .inl (cA4, 200, .inl (f_6))), (a5, .inl (cA5, 600, .inl (f_10))), (a6, .inl (cA6, 3, .inl (g6))), (h0, .inr (3, [.ref a1, .ref a2, .ref a3, .ref a4, .ref a5])), (a1, .inl (cA1, 5, .inl (g9)))] ∧ g9 4 = 0 := ⟨_, hP, hD, (pk_un (by decide)).trans h4⟩
  refine lv_iconst (v := 0) hx hb dX3_tell_107 (by decide) ?_
  have hP9 := hP.sub (ws' := [(h0, .inr (3, [.ref a1, .ref a2, .ref a3, .ref a4, .ref a5])), (a1, .inl (cA1, 5, .inl (g9))), (a2, .inl (cA2, 200, .inr (.inl (f_4)))), (a3, .inl (cA3, 200, .inl (f_5))), (a4, .inl (cA4, 200, .inl (f_6))), (a5, .inl (cA5, 600, .inl (f_10))), (a6, .inl (cA6, 3, .inl (g6)))]) [5, 6, 0, 1, 2, 3, 4] rfl
  have hD9 := hD.sub (ws' := [(h0, .inr (3, [.ref a1, .ref a2, .ref a3, .ref a4, .ref a5])), (a1, .inl (cA1, 5, .inl (g9))), (a2, .inl (cA2, 200, .inr (.inl (f_4)))), (a3, .inl (cA3, 200, .inl (f_5))), (a4, .inl (cA4, 200, .inl (f_6))), (a5, .inl (cA5, 600, .inl (f_10))), (a6, .inl (cA6, 3, .inl (g6)))]) [5, 6, 0, 1, 2, 3, 4] (by decide) rfl
  exact W.iret (v := 0) hx hb hr (fun t ht hW => ⟨⟨0, (), rfl, trivial, g9, f_4, f_5, f_6, f_10, by rw [ht]; exact hP9, va_K.moved hW.alike hK, hD9, hg4⟩, hS.F ht⟩) hS.2.2 dX3_tell_108
set_option maxHeartbeats 1000000 in
set_option maxRecDepth 100000 in
theorem lp_keyOf {p : Program} {l : Launch} {e : Env} {s : State} {m : MethodId} {args : Array Value} {below : List Frame} {meth : Method} {c : Code} {Q : State → Prop} {dC : Nat → ClassId} {dI : Nat → Nat → Nat} {A : Nat → Prop} {a v n : Nat} {f : Nat → Int32} (hn : n < 2 ^ 31) (hx : p.tables.exec = Jvm.exec) (hb : c.code = cX3_keyOf) (hml : c.maxLocals = 4) (hown : s.vm.findClass RX3 = some m.cls) (hts : ∀ w ∈ wsX3_keyOf, w.before args s = true) (hA : ∀ q : Nat, s.heap.size ≤ q → A q) (hst : st_S a v n f A s s.heap) (hK : va_K (dC, dI) vwCl [] s) (hexit : ∀ (x : Int64) (k : Nat) (H : Heap) (locs : List Loc) (ls : Array Slot), va_S A s.heap H locs → lv_has ls 4 [(0, .ref a), (1, .long x), (3, .int (nI k))] → W p l e ({ frames := 4, cells := 0, slots := 0, locals := 85 } : Room) s m args below meth c H locs 0 0 Q (F0 m 34 ls [])) : ∀ (d k : Nat), n = k + d → ∀ (x : Int64) (H : Heap) (locs : List Loc), va_S A s.heap H locs → ∀ ls : Array Slot, lv_has ls 4 [(0, .ref a), (1, .long x), (3, .int (nI k))] → W p l e ({ frames := 4, cells := 0, slots := 0, locals := 85 } : Room) s m args below meth c H locs 0 0 Q (F0 m 4 ls []) := by
  intro d
  induction d with
  | zero =>
    intro k hk x H locs hS ls hl
    have hP : va_P (dC, dI) vwCl [] H := fun k q h => by simp at h
    have hD : va_D A [] := ⟨fun i j p q h => by simp at h, fun k q h => by simp at h⟩
    refine lv_iload_n hx hb dX3_keyOf_4 rfl (lv_at hl 2 rfl) ?_
    refine lv_aload_n hx hb dX3_keyOf_5 rfl (lv_at hl 0 rfl) ?_
    have hPc := hP.sub (ws' := []) [] rfl
    have hDc := hD.sub (ws' := []) [] (by decide) rfl
    have hKc := hK.sub (tys' := []) [] rfl
    have hFc := va_free (wc := []) hD hS hA [] rfl
    refine va_calli (va_runV (As := []) (rest := [.int (nI k)]) ⟨hx, hb, hml, hown, hts⟩ (c_length l dC dI H.size a v n f) (cwV 0 hts gX3_keyOf_J0_length_8abf5 rfl rfl rfl (by decide +kernel) ⟨Nat.le_of_ble_eq_true rfl, Nat.le_of_ble_eq_true rfl⟩) ⟨fun a U g mk q => by obtain ⟨q0, q1, qP, qK, qD, qE0⟩ := q; exact ⟨q0, q1, qP, va_K.moved (u := U) (U := U.calling g mk a) (Vm.Alike.refl U.vm) qK, qD, st_S.moved (u := U) (U := U.calling g mk a) (Vm.Alike.refl U.vm) qE0⟩, hst.recv hS, fun U hU hW => ⟨rfl, by rw [hU], by rw [hU]; exact hPc, va_K.moved hW.alike hKc, hDc.weaken (fun _ _ _ _ => trivial), by rw [hU]; exact st_S.moved hW.alike ((hst.kept hS.2.1).narrow hFc)⟩⟩ rfl rfl hl.1 rfl (lv_room (Nat.le_of_ble_eq_true rfl)) dX3_keyOf_6 ⟨(show 0 + 0 ≤ 0 by omega), (show 0 + 0 ≤ 0 by omega)⟩) hS (fun q _ h => hFc q h) hFc (fun r0 u t H1 locs ht hvm hw hB hz1 hk1 hS => ?_)
    obtain ⟨hP1, hK1, hD1⟩ := hB
    rw [ht] at hP1
    have hK1 := va_K.moved hvm.symm hK1
    obtain ⟨hP, hD⟩ := va_join (wr := []) (w1 := []) hP hD [] [] rfl rfl (by decide) (by decide) hk1 hFc hP1 hD1
    have hK := (hK.sub (tys' := []) [] rfl).app hK1
    generalize H1 = H at hP hS ⊢
    have hP : va_P (dC, dI) vwCl [] H := hP
    have hD : va_D A [] := hD
    have hK : va_K (dC, dI) vwCl [] s := hK
    refine W.widen (k := 0) (n := 0) (by omega) (by omega) ?_
    subst hw
    refine lv_icmp_ge (tgt := 34) hx hb dX3_keyOf_9 (by decide) (fun c9 => ?_) (fun c9 => absurd (nI_le (by omega) (by omega)) c9)
    exact hexit x k _ _ ls hS hl
  | succ d ih =>
    intro k hk x H locs hS ls hl
    have hP : va_P (dC, dI) vwCl [] H := fun k q h => by simp at h
    have hD : va_D A [] := ⟨fun i j p q h => by simp at h, fun k q h => by simp at h⟩
    refine lv_iload_n hx hb dX3_keyOf_4 rfl (lv_at hl 2 rfl) ?_
    refine lv_aload_n hx hb dX3_keyOf_5 rfl (lv_at hl 0 rfl) ?_
    have hPc := hP.sub (ws' := []) [] rfl
    have hDc := hD.sub (ws' := []) [] (by decide) rfl
    have hKc := hK.sub (tys' := []) [] rfl
    have hFc := va_free (wc := []) hD hS hA [] rfl
    refine va_calli (va_runV (As := []) (rest := [.int (nI k)]) ⟨hx, hb, hml, hown, hts⟩ (c_length l dC dI H.size a v n f) (cwV 0 hts gX3_keyOf_J0_length_8abf5 rfl rfl rfl (by decide +kernel) ⟨Nat.le_of_ble_eq_true rfl, Nat.le_of_ble_eq_true rfl⟩) ⟨fun a U g mk q => by obtain ⟨q0, q1, qP, qK, qD, qE0⟩ := q; exact ⟨q0, q1, qP, va_K.moved (u := U) (U := U.calling g mk a) (Vm.Alike.refl U.vm) qK, qD, st_S.moved (u := U) (U := U.calling g mk a) (Vm.Alike.refl U.vm) qE0⟩, hst.recv hS, fun U hU hW => ⟨rfl, by rw [hU], by rw [hU]; exact hPc, va_K.moved hW.alike hKc, hDc.weaken (fun _ _ _ _ => trivial), by rw [hU]; exact st_S.moved hW.alike ((hst.kept hS.2.1).narrow hFc)⟩⟩ rfl rfl hl.1 rfl (lv_room (Nat.le_of_ble_eq_true rfl)) dX3_keyOf_6 ⟨(show 0 + 0 ≤ 0 by omega), (show 0 + 0 ≤ 0 by omega)⟩) hS (fun q _ h => hFc q h) hFc (fun r0 u t H1 locs ht hvm hw hB hz1 hk1 hS => ?_)
    obtain ⟨hP1, hK1, hD1⟩ := hB
    rw [ht] at hP1
    have hK1 := va_K.moved hvm.symm hK1
    obtain ⟨hP, hD⟩ := va_join (wr := []) (w1 := []) hP hD [] [] rfl rfl (by decide) (by decide) hk1 hFc hP1 hD1
    have hK := (hK.sub (tys' := []) [] rfl).app hK1
    generalize H1 = H at hP hS ⊢
    have hP : va_P (dC, dI) vwCl [] H := hP
    have hD : va_D A [] := hD
    have hK : va_K (dC, dI) vwCl [] s := hK
    refine W.widen (k := 0) (n := 0) (by omega) (by omega) ?_
    subst hw
    refine lv_icmp_ge (tgt := 34) hx hb dX3_keyOf_9 (by decide) (fun c9 => absurd c9 (nI_ge (by omega) (by omega))) (fun c9 => ?_)
    refine lv_lload_n hx hb dX3_keyOf_12 rfl (lv_at hl 1 rfl) ?_
    refine lv_ldc2 hx hb hown (hts (.constantLong RX3 46 (37)) (by decide +kernel)) dX3_keyOf_13 ?_
    refine lv_lmul hx hb dX3_keyOf_16 ?_
    refine lv_topl (fun y_1 ey_1 => ?_)
    refine lv_aload_n hx hb dX3_keyOf_17 rfl (lv_at hl 0 rfl) ?_
    refine lv_iload_n hx hb dX3_keyOf_18 rfl (lv_at hl 2 rfl) ?_
    have hPc := hP.sub (ws' := []) [] rfl
    have hDc := hD.sub (ws' := []) [] (by decide) rfl
    have hKc := hK.sub (tys' := []) [] rfl
    have hFc := va_free (wc := []) hD hS hA [] rfl
    refine va_calli (va_runV (As := [.int (nI k)]) (rest := [.long y_1]) ⟨hx, hb, hml, hown, hts⟩ (c_charAt l dC dI H.size a v n f k (by omega) hn) (cwV 1 hts gX3_keyOf_J0_charAt_5068e rfl rfl rfl (by decide +kernel) ⟨Nat.le_of_ble_eq_true rfl, Nat.le_of_ble_eq_true rfl⟩) ⟨fun a U g mk q => by obtain ⟨q0, q1, qP, qK, qD, qE0⟩ := q; exact ⟨q0, q1, qP, va_K.moved (u := U) (U := U.calling g mk a) (Vm.Alike.refl U.vm) qK, qD, st_S.moved (u := U) (U := U.calling g mk a) (Vm.Alike.refl U.vm) qE0⟩, hst.recv hS, fun U hU hW => ⟨rfl, by rw [hU], by rw [hU]; exact hPc, va_K.moved hW.alike hKc, hDc.weaken (fun _ _ _ _ => trivial), by rw [hU]; exact st_S.moved hW.alike ((hst.kept hS.2.1).narrow hFc)⟩⟩ rfl rfl hl.1 rfl (lv_room (Nat.le_of_ble_eq_true rfl)) dX3_keyOf_19 ⟨(show 0 + 0 ≤ 0 by omega), (show 0 + 0 ≤ 0 by omega)⟩) hS (fun q _ h => hFc q h) hFc (fun r1 u t H1 locs ht hvm hw hB hz1 hk1 hS => ?_)
    obtain ⟨hP1, hK1, hD1⟩ := hB
    rw [ht] at hP1
    have hK1 := va_K.moved hvm.symm hK1
    obtain ⟨hP, hD⟩ := va_join (wr := []) (w1 := []) hP hD [] [] rfl rfl (by decide) (by decide) hk1 hFc hP1 hD1
    have hK := (hK.sub (tys' := []) [] rfl).app hK1
    generalize H1 = H at hP hS ⊢
    have hP : va_P (dC, dI) vwCl [] H := hP
    have hD : va_D A [] := hD
    have hK : va_K (dC, dI) vwCl [] s := hK
    refine W.widen (k := 0) (n := 0) (by omega) (by omega) ?_
    have hPc := hP.sub (ws' := []) [] rfl
    have hDc := hD.sub (ws' := []) [] (by decide) rfl
    have hKc := hK.sub (tys' := []) [] rfl
    have hFc := va_free (wc := []) hD hS hA [] rfl
    refine va_calli (va_runS (As := [.int r1]) (rest := [.long y_1]) ⟨hx, hb, hml, hown, hts⟩ (c_symbol l dC dI H.size r1) (va_cwS 1 hts gX3_keyOf_X3_symbol rfl rfl rfl (by decide +kernel) ⟨Nat.le_of_ble_eq_true rfl, Nat.le_of_ble_eq_true rfl⟩) ⟨fun a U g mk q => by obtain ⟨q0, q1, qP, qK, qD⟩ := q; exact ⟨q0, q1, qP, va_K.moved (u := U) (U := U.calling g mk a) (Vm.Alike.refl U.vm) qK, qD⟩, fun U hU hW => ⟨rfl, by rw [hU], by rw [hU]; exact hPc, va_K.moved hW.alike hKc, hDc.weaken (fun _ _ _ _ => trivial)⟩⟩ rfl rfl hl.1 rfl (lv_room (Nat.le_of_ble_eq_true rfl)) dX3_keyOf_22 ⟨(show 0 + 0 ≤ 0 by omega), (show 0 + 0 ≤ 0 by omega)⟩) hS (fun q _ h => hFc q h) hFc (fun r2 u t H1 locs ht hvm hw hB hz1 hk1 hS => ?_)
    obtain ⟨hP1, hK1, hD1⟩ := hB
    rw [ht] at hP1
    have hK1 := va_K.moved hvm.symm hK1
    obtain ⟨hP, hD⟩ := va_join (wr := []) (w1 := []) hP hD [] [] rfl rfl (by decide) (by decide) hk1 hFc hP1 hD1
    have hK := (hK.sub (tys' := []) [] rfl).app hK1
    generalize H1 = H at hP hS ⊢
    have hP : va_P (dC, dI) vwCl [] H := hP
    have hD : va_D A [] := hD
    have hK : va_K (dC, dI) vwCl [] s := hK
    refine W.widen (k := 0) (n := 0) (by omega) (by omega) ?_
    refine lv_i2l hx hb dX3_keyOf_25 rfl ?_
    refine lv_topl (fun y_2 ey_2 => ?_)
    refine lv_ladd hx hb dX3_keyOf_26 ?_
    refine lv_topl (fun y_3 ey_3 => ?_)
    refine lv_lstore_n (lv' := [(1, .long y_3), (0, .ref a), (3, .int (nI k))]) hx hb dX3_keyOf_27 rfl hl (by decide) rfl (fun ls hl => ?_)
    refine lv_iinc (v := nI (k + 1)) (lv' := [(3, .int (nI (k + 1))), (1, .long y_3), (0, .ref a)]) hx hb dX3_keyOf_28 hl (k := 2) rfl (by rw [← nI_1]; rfl) (by decide) rfl (fun ls hl => ?_)
    refine lv_goto (tgt := 4) hx hb dX3_keyOf_31 (by decide) ?_
    exact ih (k + 1) (by omega) y_3 _ _ hS ls (lv_sub hl [2, 1, 0] rfl)
set_option maxHeartbeats 1000000 in
set_option maxRecDepth 100000 in
/-- keyOf(text): some long -/
theorem c_keyOf (l : Launch) (dC : Nat → ClassId) (dI : Nat → Nat → Nat) (sz : Nat) (a v n : Nat) (f : Nat → Int32) (hn : n < 2 ^ 31) : Met l yX3_keyOf wsX3_keyOf ({ frames := 4, cells := 0, slots := 0, locals := 85 }) (va_Pc [.ref a] (fun U => U.heap.size = sz ∧ va_P (dC, dI) vwCl [] U.heap ∧ va_K (dC, dI) vwCl [] U ∧ va_D (fun _ => True) [] ∧ st_S a v n f (va_A [] sz) U U.heap)) (va_Ql (fun (r : Int64) (_ : Unit) => True) (fun _ t => va_P (dC, dI) vwCl [] t.heap ∧ va_K (dC, dI) vwCl [] t ∧ va_D (va_A [] sz) []) (va_A [] sz)) (0) (0) (va_A [] sz) := by
  refine Met.ofW (cc := cX3_keyOf) (maxL := 4) (ret := (some .long)) (by decide) rfl ?_
  intro p e s m args below meth c s₁ B hml hv
  obtain ⟨rfl, hsz, hP, hK, hD0, hst⟩ := hv
  have hx := B.exec
  have hb := B.bytes
  have hr := B.returns
  have hts := atoms_spec (ws := wsX3_keyOf) B.pre
  have hown : s.vm.findClass RX3 = some m.cls := findClass_of_methodNamed B.named
  have hlocks := B.notSynchronized
  subst hsz
  have hD := hD0.self (sz := s.heap.size)
  generalize hAe : va_A [] s.heap.size = A at hD hst ⊢
  have hA : ∀ q : Nat, s.heap.size ≤ q → A q := fun q h => by rw [← hAe]; exact Or.inr h
  have hS : va_S A s.heap s.heap [] := va_S.rf
  have hl := lv_entry ([.ref a]) (n := 4) (Nat.le_of_ble_eq_true rfl)
  rw [lg_entry_eq]
  generalize (lg_sl ([.ref a]) ++ List.replicate (4 - (lg_sl ([.ref a])).length) Slot.unset).toArray = ls at hl ⊢
  have hl : lv_has ls 4 [(0, .ref a)] := hl
  refine lv_lconst (v := 0) hx hb dX3_keyOf_0 (by decide) ?_
  refine lv_lstore_n (lv' := [(1, .long 0), (0, .ref a)]) hx hb dX3_keyOf_1 rfl hl (by decide) rfl (fun ls hl => ?_)
  refine lv_iconst (v := 0) hx hb dX3_keyOf_2 (by decide) ?_
  refine lv_istore_n (lv' := [(3, .int 0), (1, .long 0), (0, .ref a)]) hx hb dX3_keyOf_3 rfl hl (by decide) rfl (fun ls hl => ?_)
  refine lp_keyOf hn hx hb hml hown hts hA hst hK (fun x k H locs ls hS hl => ?_) n 0 (by omega) 0 _ _ hS ls (lv_sub hl [2, 1, 0] rfl)
  refine lv_lload_n hx hb dX3_keyOf_34 rfl (lv_at hl 1 rfl) ?_
  exact W.lret (v := x) hx hb hr (fun t ht hW => ⟨⟨x, (), rfl, trivial, fun k q h => by simp at h, va_K.moved hW.alike hK, ⟨fun i j p q h => by simp at h, fun k q h => by simp at h⟩⟩, hS.F ht⟩) hS.2.2 dX3_keyOf_35
end
section
abbrev cX9_init : ByteArray := prog_11_method_1_code
def yX9_init : MethodName := ⟨RX9, "<init>", "()V"⟩
def wsX9_init_r1 : List Cond := [Cond.methodLink RX9 3 objectInit, Cond.instanceMethod objectInit, Cond.code objectInit ⟨#[0xb1]⟩ 1 none, Cond.arrayClass .byte, Cond.fieldLink RX9 9 "ProofBench$Tape" "bytes" "[B", Cond.arrayClass .int, Cond.fieldLink RX9 15 "ProofBench$Tape" "kinds" "[I", Cond.fieldLink RX9 19 "ProofBench$Tape" "starts" "[I", Cond.arrayClass .long, Cond.fieldLink RX9 22 "ProofBench$Tape" "worths" "[J", Cond.fieldLink RX9 26 "ProofBench$Tape" "formAt" "[I", Cond.fieldLink RX9 29 "ProofBench$Tape" "operandAt" "[I", Cond.methodLink RX9 34 yJ0_length_8abf5, Cond.instanceMethod yJ0_length_8abf5, Cond.selects RJ0 yJ0_length_8abf5 yJ0_length_8abf5, Cond.initialized RJ0, Cond.code yJ0_length_8abf5 cJ0_length_8abf5 1 (some .int), Cond.fieldLink RJ0 9 "java/lang/String" "value" "[B", Cond.methodLink RJ0 335 yJ0_coder_7d493, Cond.instanceMethod yJ0_coder_7d493, Cond.selects RJ0 yJ0_coder_7d493 yJ0_coder_7d493, Cond.code yJ0_coder_7d493 cJ0_coder_7d493 1 (some .byte), Cond.fieldLink RJ0 38 "java/lang/String" "COMPACT_STRINGS" "Z", Cond.fieldLink RJ0 15 "java/lang/String" "coder" "B"]
def wsX9_init_r2 : List Cond := [Cond.methodLink RX9 40 yJ0_charAt_5068e, Cond.instanceMethod yJ0_charAt_5068e, Cond.selects RJ0 yJ0_charAt_5068e yJ0_charAt_5068e, Cond.code yJ0_charAt_5068e cJ0_charAt_5068e 2 (some .char), Cond.methodLink RJ0 492 yJ0_isLatin1_aae02, Cond.instanceMethod yJ0_isLatin1_aae02, Cond.selects RJ0 yJ0_isLatin1_aae02 yJ0_isLatin1_aae02, Cond.code yJ0_isLatin1_aae02 cJ0_isLatin1_aae02 1 (some .boolean), Cond.methodLink RJ0 495 yJ1_charAt_3b067, Cond.static yJ1_charAt_3b067, Cond.initialized RJ1, Cond.code yJ1_charAt_3b067 cJ1_charAt_3b067 2 (some .char), Cond.methodLink RJ1 9 yJ0_checkIndex_df160, Cond.static yJ0_checkIndex_df160, Cond.code yJ0_checkIndex_df160 cJ0_checkIndex_df160 2 none, Cond.fieldLink RJ0 1053 "jdk/internal/util/Preconditions" "SIOOBE_FORMATTER" "Ljava/util/function/BiFunction;", Cond.methodLink RJ0 1059 yJ3_checkIndex_8e157, Cond.static yJ3_checkIndex_8e157, Cond.initialized RJ3, Cond.code yJ3_checkIndex_8e157 cJ3_checkIndex_8e157 3 (some .int), Cond.methodLink RJ0 498 yJ2_charAt_3b067, Cond.static yJ2_charAt_3b067, Cond.initialized RJ2, Cond.code yJ2_charAt_3b067 cJ2_charAt_3b067 2 (some .char)]
def wsX9_init_r3 : List Cond := [Cond.methodLink RJ2 67 yJ2_checkIndex_2214a, Cond.static yJ2_checkIndex_2214a, Cond.code yJ2_checkIndex_2214a cJ2_checkIndex_2214a 2 none, Cond.methodLink RJ2 48 yJ2_length_9d52b, Cond.static yJ2_length_9d52b, Cond.code yJ2_length_9d52b cJ2_length_9d52b 1 (some .int), Cond.methodLink RJ2 414 yJ0_checkIndex_df160, Cond.methodLink RJ2 71 yJ2_getChar_3b067, Cond.static yJ2_getChar_3b067, Cond.code yJ2_getChar_3b067 cJ2_getChar_3b067 2 (some .char), Cond.fieldLink RJ2 44 "java/lang/StringUTF16" "$assertionsDisabled" "Z", Cond.fieldLink RJ2 59 "java/lang/StringUTF16" "HI_BYTE_SHIFT" "I", Cond.fieldLink RJ2 63 "java/lang/StringUTF16" "LO_BYTE_SHIFT" "I"]
def wsX9_init : List Cond := .code yX9_init cX9_init 3 none :: ((wsX9_init_r1 ++ (wsX9_init_r2 ++ wsX9_init_r3)) ++ wsX90)
theorem dX9_init_0 : decode cX9_init 0 = .ok (.aload_n 0, 1) := by decide +kernel
theorem dX9_init_1 : decode cX9_init 1 = .ok (.invokespecial 3, 3) := by decide +kernel
theorem dX9_init_4 : decode cX9_init 4 = .ok (.aload_n 0, 1) := by decide +kernel
theorem dX9_init_5 : decode cX9_init 5 = .ok (.sipush 4000, 3) := by decide +kernel
theorem dX9_init_8 : decode cX9_init 8 = .ok (.newarray .byte, 2) := by decide +kernel
theorem dX9_init_10 : decode cX9_init 10 = .ok (.putfield 9, 3) := by decide +kernel
theorem dX9_init_13 : decode cX9_init 13 = .ok (.aload_n 0, 1) := by decide +kernel
theorem dX9_init_14 : decode cX9_init 14 = .ok (.sipush 4002, 3) := by decide +kernel
theorem dX9_init_17 : decode cX9_init 17 = .ok (.newarray .int, 2) := by decide +kernel
theorem dX9_init_19 : decode cX9_init 19 = .ok (.putfield 15, 3) := by decide +kernel
theorem dX9_init_22 : decode cX9_init 22 = .ok (.aload_n 0, 1) := by decide +kernel
theorem dX9_init_23 : decode cX9_init 23 = .ok (.sipush 4002, 3) := by decide +kernel
theorem dX9_init_26 : decode cX9_init 26 = .ok (.newarray .int, 2) := by decide +kernel
theorem dX9_init_28 : decode cX9_init 28 = .ok (.putfield 19, 3) := by decide +kernel
theorem dX9_init_31 : decode cX9_init 31 = .ok (.aload_n 0, 1) := by decide +kernel
theorem dX9_init_32 : decode cX9_init 32 = .ok (.sipush 4002, 3) := by decide +kernel
theorem dX9_init_35 : decode cX9_init 35 = .ok (.newarray .long, 2) := by decide +kernel
theorem dX9_init_37 : decode cX9_init 37 = .ok (.putfield 22, 3) := by decide +kernel
theorem dX9_init_40 : decode cX9_init 40 = .ok (.aload_n 0, 1) := by decide +kernel
theorem dX9_init_41 : decode cX9_init 41 = .ok (.bipush 39, 2) := by decide +kernel
theorem dX9_init_43 : decode cX9_init 43 = .ok (.newarray .int, 2) := by decide +kernel
theorem dX9_init_45 : decode cX9_init 45 = .ok (.putfield 26, 3) := by decide +kernel
theorem dX9_init_48 : decode cX9_init 48 = .ok (.aload_n 0, 1) := by decide +kernel
theorem dX9_init_49 : decode cX9_init 49 = .ok (.iconst 4, 1) := by decide +kernel
theorem dX9_init_50 : decode cX9_init 50 = .ok (.newarray .int, 2) := by decide +kernel
theorem dX9_init_52 : decode cX9_init 52 = .ok (.putfield 29, 3) := by decide +kernel
theorem dX9_init_55 : decode cX9_init 55 = .ok (.iconst 0, 1) := by decide +kernel
theorem dX9_init_56 : decode cX9_init 56 = .ok (.istore_n 1, 1) := by decide +kernel
theorem dX9_init_57 : decode cX9_init 57 = .ok (.iconst 0, 1) := by decide +kernel
theorem dX9_init_58 : decode cX9_init 58 = .ok (.istore_n 2, 1) := by decide +kernel
theorem dX9_init_59 : decode cX9_init 59 = .ok (.iload_n 2, 1) := by decide +kernel
theorem dX9_init_60 : decode cX9_init 60 = .ok (.bipush 39, 2) := by decide +kernel
theorem dX9_init_62 : decode cX9_init 62 = .ok (.if_icmp .ge 45, 3) := by decide +kernel
theorem dX9_init_65 : decode cX9_init 65 = .ok (.aload_n 0, 1) := by decide +kernel
theorem dX9_init_66 : decode cX9_init 66 = .ok (.getfield 26, 3) := by decide +kernel
theorem dX9_init_69 : decode cX9_init 69 = .ok (.iload_n 2, 1) := by decide +kernel
theorem dX9_init_70 : decode cX9_init 70 = .ok (.iload_n 1, 1) := by decide +kernel
theorem dX9_init_71 : decode cX9_init 71 = .ok (.iastore, 1) := by decide +kernel
theorem dX9_init_72 : decode cX9_init 72 = .ok (.iload_n 1, 1) := by decide +kernel
theorem dX9_init_73 : decode cX9_init 73 = .ok (.ldc 32, 2) := by decide +kernel
theorem dX9_init_75 : decode cX9_init 75 = .ok (.invokevirtual 34, 3) := by decide +kernel
theorem dX9_init_78 : decode cX9_init 78 = .ok (.if_icmp .ge 20, 3) := by decide +kernel
theorem dX9_init_81 : decode cX9_init 81 = .ok (.ldc 32, 2) := by decide +kernel
theorem dX9_init_83 : decode cX9_init 83 = .ok (.iload_n 1, 1) := by decide +kernel
theorem dX9_init_84 : decode cX9_init 84 = .ok (.invokevirtual 40, 3) := by decide +kernel
theorem dX9_init_87 : decode cX9_init 87 = .ok (.bipush 59, 2) := by decide +kernel
theorem dX9_init_89 : decode cX9_init 89 = .ok (.if_icmp .eq 9, 3) := by decide +kernel
theorem dX9_init_92 : decode cX9_init 92 = .ok (.iinc 1 1, 3) := by decide +kernel
theorem dX9_init_95 : decode cX9_init 95 = .ok (.goto (-23), 3) := by decide +kernel
theorem dX9_init_98 : decode cX9_init 98 = .ok (.iinc 1 1, 3) := by decide +kernel
theorem dX9_init_101 : decode cX9_init 101 = .ok (.iinc 2 1, 3) := by decide +kernel
theorem dX9_init_104 : decode cX9_init 104 = .ok (.goto (-45), 3) := by decide +kernel
theorem dX9_init_107 : decode cX9_init 107 = .ok (.return_, 1) := by decide +kernel
set_option maxRecDepth 20000 in
theorem ggX9_init_J0_length_8abf5 : GoodIn wsX9_init wsJ0_length_8abf5 := goodIn_r _ [17, 18, 19, 20, 21, 16, 22, 23, 24] (by decide +kernel) (by decide +kernel)
set_option maxRecDepth 20000 in
theorem gX9_init_J0_length_8abf5 : GoodIn wsX9_init (wsV RX9 34 RJ0 yJ0_length_8abf5 wsJ0_length_8abf5) := goodIn_app (goodIn_of _ (by decide +kernel)) ggX9_init_J0_length_8abf5
set_option maxRecDepth 20000 in
theorem ggX9_init_J0_charAt_5068e : GoodIn wsX9_init wsJ0_charAt_5068e := goodIn_r _ [28, 18, 29, 30, 31, 16, 32, 23, 24, 33, 34, 35, 36, 37, 38, 39, 40, 41, 42, 43, 44, 45, 46, 47, 48, 49, 50, 51, 52, 53, 54, 55, 56, 57, 58, 59, 60, 61] (by decide +kernel) (by decide +kernel)
set_option maxRecDepth 20000 in
theorem gX9_init_J0_charAt_5068e : GoodIn wsX9_init (wsV RX9 40 RJ0 yJ0_charAt_5068e wsJ0_charAt_5068e) := goodIn_app (goodIn_of _ (by decide +kernel)) ggX9_init_J0_charAt_5068e
set_option maxHeartbeats 1000000 in
set_option maxRecDepth 100000 in
/-- Names(): no FACT -/
theorem c_Names_init (l : Launch) (dC : Nat → ClassId) (dI : Nat → Nat → Nat) (sz : Nat) (h0 b1 v1 n1 b2 v2 n2 : Nat) (f1 f2 : Nat → Int32) (hn1 : n1 < 2 ^ 31) (hn2 : n2 < 2 ^ 31) : Met l yX3_init wsX3_init ({ frames := 5, cells := 6, slots := 1208, locals := 108 }) (va_Pc [.ref h0] (fun U => U.heap.size = sz ∧ va_P (dC, dI) vwCl [(h0, .inr (3, [.null, .null, .null, .null, .null]))] U.heap ∧ va_K (dC, dI) vwCl [] U ∧ va_D (fun _ => True) [(h0, .inr (3, [.null, .null, .null, .null, .null]))] ∧ vk_R RX3 28 "num" b1 U ∧ vk_R RX3 38 "next" b2 U ∧ st_S b1 v1 n1 f1 (va_A [(h0, .inr (3, [.null, .null, .null, .null, .null]))] sz) U U.heap ∧ st_S b2 v2 n2 f2 (va_A [(h0, .inr (3, [.null, .null, .null, .null, .null]))] sz) U U.heap)) (va_Qv (fun _ : Unit => True) (fun _ t => ∃ (q_1 : Nat) (q_3 : Nat) (q_5 : Nat) (q_7 : Nat) (q_9 : Nat) (cA_2 : ClassId) (f_24 : Nat → Int32), va_P (dC, dI) vwCl [(h0, .inr (3, [.ref q_1, .ref q_3, .ref q_5, .ref q_7, .ref q_9])), (q_1, .inl (cA_2, 5, .inl (f_24)))] t.heap ∧ va_K (dC, dI) vwCl [(cA_2, .int)] t ∧ va_D (va_A [(h0, .inr (3, [.null, .null, .null, .null, .null]))] sz) [(h0, .inr (3, [.ref q_1, .ref q_3, .ref q_5, .ref q_7, .ref q_9])), (q_1, .inl (cA_2, 5, .inl (f_24)))] ∧ f_24 4 = 0) (va_A [(h0, .inr (3, [.null, .null, .null, .null, .null]))] sz)) (6) (1208) (va_A [(h0, .inr (3, [.null, .null, .null, .null, .null]))] sz) := by
  refine Met.ofW (cc := cX3_init) (maxL := 2) (ret := none) (by decide) rfl ?_
  intro p e s m args below meth c s₁ B hml hv
  obtain ⟨rfl, hsz, hP, hK, hD0, hR1, hR2, hst1, hst2⟩ := hv
  have hx := B.exec
  have hb := B.bytes
  have hr := B.returns
  have hts := atoms_spec (ws := wsX3_init) B.pre
  have hown : s.vm.findClass RX3 = some m.cls := findClass_of_methodNamed B.named
  have hlocks := B.notSynchronized
  have hin : meth.name = "<init>" := (name_of_methodNamed B.named B.method).1
  subst hsz
  have hD := hD0.self (sz := s.heap.size)
  generalize hAe : va_A [(h0, .inr (3, [.null, .null, .null, .null, .null]))] s.heap.size = A at hD hst1 hst2 ⊢
  have hA : ∀ q : Nat, s.heap.size ≤ q → A q := fun q h => by rw [← hAe]; exact Or.inr h
  have hS : va_S A s.heap s.heap [] := va_S.rf
  have hl := lv_entry ([.ref h0]) (n := 2) (Nat.le_of_ble_eq_true rfl)
  rw [lg_entry_eq]
  generalize (lg_sl ([.ref h0]) ++ List.replicate (2 - (lg_sl ([.ref h0])).length) Slot.unset).toArray = ls at hl ⊢
  have hl : lv_has ls 2 [(0, .ref h0)] := hl
  refine lv_aload_n hx hb dX3_init_0 rfl (lv_at hl 0 rfl) ?_
  refine W.objInit hx hb hown (hts (.methodLink RX3 3 objectInit) (by decide +kernel)) (hts (.instanceMethod objectInit) (by decide +kernel)) (hts (.code objectInit ⟨#[0xb1]⟩ 1 none) (by decide +kernel)) rfl (by rw [hml]; exact hl.1) rfl dX3_init_1 (Nat.le_of_ble_eq_true rfl) (Nat.le_of_ble_eq_true rfl) ?_
  refine W.eq (g2 := F0 m 4 ls []) rfl ?_
  refine lv_aload_n hx hb dX3_init_4 rfl (lv_at hl 0 rfl) ?_
  refine lv_iconst (v := 5) hx hb dX3_init_5 (by decide) ?_
  refine va_newa (atype := .int) (n := 5) (N' := 5) (ty := .int) (a0 := (5, .inl (fun _ => 0))) hx hb (hts (.arrayClass .int) (by decide +kernel)) rfl hK hP hD hS hA (fun _ => rfl) (by decide) (by decide) (by decide) (show 0 + 1 ≤ 6 by omega) (show 0 + 5 ≤ 1208 by omega) dX3_init_6 (fun q_1 cA_2 H hK hP hD hS => ?_)
  have hP : va_P (dC, dI) vwCl [(h0, .inr (3, [.null, .null, .null, .null, .null])), (q_1, .inl (cA_2, 5, .inl (fun _ => 0)))] H := hP
  have hD : va_D A [(h0, .inr (3, [.null, .null, .null, .null, .null])), (q_1, .inl (cA_2, 5, .inl (fun _ => 0)))] := hD
  have hK : va_K (dC, dI) vwCl [(cA_2, .int)] s := hK
  refine W.widen (k := 1) (n := 5) (by omega) (by omega) ?_
  refine va_putF (D := (dC, dI)) (ci := 3) (v := .ref q_1) (ty := .array .int) (C := RX3) (T := TX3) (N := 5) hx hb hts (by decide +kernel) tyX3 tyX3_ok nmX3 hown hK hP hD hS 0 rfl rfl 0 (by decide) (hts (.fieldLink RX3 9 "ProofBench$Names" "counts" "[I") (by decide +kernel)) (fun _ h9 => h9) rfl hin rfl (by decide +kernel) rfl rfl (Nat.le_of_ble_eq_true rfl) dX3_init_8 (fun H locs hP hD hS => ?_)
  have hP : va_P (dC, dI) vwCl [(h0, .inr (3, [.ref q_1, .null, .null, .null, .null])), (q_1, .inl (cA_2, 5, .inl (fun _ => 0)))] H := hP
  have hD : va_D A [(h0, .inr (3, [.ref q_1, .null, .null, .null, .null])), (q_1, .inl (cA_2, 5, .inl (fun _ => 0)))] := hD
  refine lv_aload_n hx hb dX3_init_11 rfl (lv_at hl 0 rfl) ?_
  refine lv_sipush (v := 200) hx hb dX3_init_12 (by decide) ?_
  refine va_newa (atype := .long) (n := 200) (N' := 200) (ty := .long) (a0 := (200, .inr (.inl (fun _ => 0)))) hx hb (hts (.arrayClass .long) (by decide +kernel)) rfl hK hP hD hS hA (fun _ => rfl) (by decide) (by decide) (by decide) (show 1 + 1 ≤ 6 by omega) (show 5 + 200 ≤ 1208 by omega) dX3_init_15 (fun q_3 cA_4 H hK hP hD hS => ?_)
  have hP : va_P (dC, dI) vwCl [(h0, .inr (3, [.ref q_1, .null, .null, .null, .null])), (q_1, .inl (cA_2, 5, .inl (fun _ => 0))), (q_3, .inl (cA_4, 200, .inr (.inl (fun _ => 0))))] H := hP
  have hD : va_D A [(h0, .inr (3, [.ref q_1, .null, .null, .null, .null])), (q_1, .inl (cA_2, 5, .inl (fun _ => 0))), (q_3, .inl (cA_4, 200, .inr (.inl (fun _ => 0))))] := hD
  have hK : va_K (dC, dI) vwCl [(cA_2, .int), (cA_4, .long)] s := hK
  refine W.widen (k := 2) (n := 205) (by omega) (by omega) ?_
  refine va_putF (D := (dC, dI)) (ci := 3) (v := .ref q_3) (ty := .array .long) (C := RX3) (T := TX3) (N := 5) hx hb hts (by decide +kernel) tyX3 tyX3_ok nmX3 hown hK hP hD hS 0 rfl rfl 1 (by decide) (hts (.fieldLink RX3 15 "ProofBench$Names" "keys" "[J") (by decide +kernel)) (fun _ h9 => h9) rfl hin rfl (by decide +kernel) rfl rfl (Nat.le_of_ble_eq_true rfl) dX3_init_17 (fun H locs hP hD hS => ?_)
  have hP : va_P (dC, dI) vwCl [(h0, .inr (3, [.ref q_1, .ref q_3, .null, .null, .null])), (q_1, .inl (cA_2, 5, .inl (fun _ => 0))), (q_3, .inl (cA_4, 200, .inr (.inl (fun _ => 0))))] H := hP
  have hD : va_D A [(h0, .inr (3, [.ref q_1, .ref q_3, .null, .null, .null])), (q_1, .inl (cA_2, 5, .inl (fun _ => 0))), (q_3, .inl (cA_4, 200, .inr (.inl (fun _ => 0))))] := hD
  refine lv_aload_n hx hb dX3_init_20 rfl (lv_at hl 0 rfl) ?_
  refine lv_sipush (v := 200) hx hb dX3_init_21 (by decide) ?_
  refine va_newa (atype := .int) (n := 200) (N' := 200) (ty := .int) (a0 := (200, .inl (fun _ => 0))) hx hb (hts (.arrayClass .int) (by decide +kernel)) rfl hK hP hD hS hA (fun _ => rfl) (by decide) (by decide) (by decide) (show 2 + 1 ≤ 6 by omega) (show 205 + 200 ≤ 1208 by omega) dX3_init_24 (fun q_5 cA_6 H hK hP hD hS => ?_)
  have hP : va_P (dC, dI) vwCl [(h0, .inr (3, [.ref q_1, .ref q_3, .null, .null, .null])), (q_1, .inl (cA_2, 5, .inl (fun _ => 0))), (q_3, .inl (cA_4, 200, .inr (.inl (fun _ => 0)))), (q_5, .inl (cA_6, 200, .inl (fun _ => 0)))] H := hP
  have hD : va_D A [(h0, .inr (3, [.ref q_1, .ref q_3, .null, .null, .null])), (q_1, .inl (cA_2, 5, .inl (fun _ => 0))), (q_3, .inl (cA_4, 200, .inr (.inl (fun _ => 0)))), (q_5, .inl (cA_6, 200, .inl (fun _ => 0)))] := hD
  have hK : va_K (dC, dI) vwCl [(cA_2, .int), (cA_4, .long), (cA_6, .int)] s := hK
  refine W.widen (k := 3) (n := 405) (by omega) (by omega) ?_
  refine va_putF (D := (dC, dI)) (ci := 3) (v := .ref q_5) (ty := .array .int) (C := RX3) (T := TX3) (N := 5) hx hb hts (by decide +kernel) tyX3 tyX3_ok nmX3 hown hK hP hD hS 0 rfl rfl 2 (by decide) (hts (.fieldLink RX3 19 "ProofBench$Names" "sorts" "[I") (by decide +kernel)) (fun _ h9 => h9) rfl hin rfl (by decide +kernel) rfl rfl (Nat.le_of_ble_eq_true rfl) dX3_init_26 (fun H locs hP hD hS => ?_)
  have hP : va_P (dC, dI) vwCl [(h0, .inr (3, [.ref q_1, .ref q_3, .ref q_5, .null, .null])), (q_1, .inl (cA_2, 5, .inl (fun _ => 0))), (q_3, .inl (cA_4, 200, .inr (.inl (fun _ => 0)))), (q_5, .inl (cA_6, 200, .inl (fun _ => 0)))] H := hP
  have hD : va_D A [(h0, .inr (3, [.ref q_1, .ref q_3, .ref q_5, .null, .null])), (q_1, .inl (cA_2, 5, .inl (fun _ => 0))), (q_3, .inl (cA_4, 200, .inr (.inl (fun _ => 0)))), (q_5, .inl (cA_6, 200, .inl (fun _ => 0)))] := hD
  refine lv_aload_n hx hb dX3_init_29 rfl (lv_at hl 0 rfl) ?_
  refine lv_sipush (v := 200) hx hb dX3_init_30 (by decide) ?_
  refine va_newa (atype := .int) (n := 200) (N' := 200) (ty := .int) (a0 := (200, .inl (fun _ => 0))) hx hb (hts (.arrayClass .int) (by decide +kernel)) rfl hK hP hD hS hA (fun _ => rfl) (by decide) (by decide) (by decide) (show 3 + 1 ≤ 6 by omega) (show 405 + 200 ≤ 1208 by omega) dX3_init_33 (fun q_7 cA_8 H hK hP hD hS => ?_)
  have hP : va_P (dC, dI) vwCl [(h0, .inr (3, [.ref q_1, .ref q_3, .ref q_5, .null, .null])), (q_1, .inl (cA_2, 5, .inl (fun _ => 0))), (q_3, .inl (cA_4, 200, .inr (.inl (fun _ => 0)))), (q_5, .inl (cA_6, 200, .inl (fun _ => 0))), (q_7, .inl (cA_8, 200, .inl (fun _ => 0)))] H := hP
  have hD : va_D A [(h0, .inr (3, [.ref q_1, .ref q_3, .ref q_5, .null, .null])), (q_1, .inl (cA_2, 5, .inl (fun _ => 0))), (q_3, .inl (cA_4, 200, .inr (.inl (fun _ => 0)))), (q_5, .inl (cA_6, 200, .inl (fun _ => 0))), (q_7, .inl (cA_8, 200, .inl (fun _ => 0)))] := hD
  have hK : va_K (dC, dI) vwCl [(cA_2, .int), (cA_4, .long), (cA_6, .int), (cA_8, .int)] s := hK
  refine W.widen (k := 4) (n := 605) (by omega) (by omega) ?_
  refine va_putF (D := (dC, dI)) (ci := 3) (v := .ref q_7) (ty := .array .int) (C := RX3) (T := TX3) (N := 5) hx hb hts (by decide +kernel) tyX3 tyX3_ok nmX3 hown hK hP hD hS 0 rfl rfl 3 (by decide) (hts (.fieldLink RX3 22 "ProofBench$Names" "arities" "[I") (by decide +kernel)) (fun _ h9 => h9) rfl hin rfl (by decide +kernel) rfl rfl (Nat.le_of_ble_eq_true rfl) dX3_init_35 (fun H locs hP hD hS => ?_)
  have hP : va_P (dC, dI) vwCl [(h0, .inr (3, [.ref q_1, .ref q_3, .ref q_5, .ref q_7, .null])), (q_1, .inl (cA_2, 5, .inl (fun _ => 0))), (q_3, .inl (cA_4, 200, .inr (.inl (fun _ => 0)))), (q_5, .inl (cA_6, 200, .inl (fun _ => 0))), (q_7, .inl (cA_8, 200, .inl (fun _ => 0)))] H := hP
  have hD : va_D A [(h0, .inr (3, [.ref q_1, .ref q_3, .ref q_5, .ref q_7, .null])), (q_1, .inl (cA_2, 5, .inl (fun _ => 0))), (q_3, .inl (cA_4, 200, .inr (.inl (fun _ => 0)))), (q_5, .inl (cA_6, 200, .inl (fun _ => 0))), (q_7, .inl (cA_8, 200, .inl (fun _ => 0)))] := hD
  refine lv_aload_n hx hb dX3_init_38 rfl (lv_at hl 0 rfl) ?_
  refine lv_sipush (v := 600) hx hb dX3_init_39 (by decide) ?_
  refine va_newa (atype := .int) (n := 600) (N' := 600) (ty := .int) (a0 := (600, .inl (fun _ => 0))) hx hb (hts (.arrayClass .int) (by decide +kernel)) rfl hK hP hD hS hA (fun _ => rfl) (by decide) (by decide) (by decide) (show 4 + 1 ≤ 6 by omega) (show 605 + 600 ≤ 1208 by omega) dX3_init_42 (fun q_9 cA_10 H hK hP hD hS => ?_)
  have hP : va_P (dC, dI) vwCl [(h0, .inr (3, [.ref q_1, .ref q_3, .ref q_5, .ref q_7, .null])), (q_1, .inl (cA_2, 5, .inl (fun _ => 0))), (q_3, .inl (cA_4, 200, .inr (.inl (fun _ => 0)))), (q_5, .inl (cA_6, 200, .inl (fun _ => 0))), (q_7, .inl (cA_8, 200, .inl (fun _ => 0))), (q_9, .inl (cA_10, 600, .inl (fun _ => 0)))] H := hP
  have hD : va_D A [(h0, .inr (3, [.ref q_1, .ref q_3, .ref q_5, .ref q_7, .null])), (q_1, .inl (cA_2, 5, .inl (fun _ => 0))), (q_3, .inl (cA_4, 200, .inr (.inl (fun _ => 0)))), (q_5, .inl (cA_6, 200, .inl (fun _ => 0))), (q_7, .inl (cA_8, 200, .inl (fun _ => 0))), (q_9, .inl (cA_10, 600, .inl (fun _ => 0)))] := hD
  have hK : va_K (dC, dI) vwCl [(cA_2, .int), (cA_4, .long), (cA_6, .int), (cA_8, .int), (cA_10, .int)] s := hK
  refine W.widen (k := 5) (n := 1205) (by omega) (by omega) ?_
  refine va_putF (D := (dC, dI)) (ci := 3) (v := .ref q_9) (ty := .array .int) (C := RX3) (T := TX3) (N := 5) hx hb hts (by decide +kernel) tyX3 tyX3_ok nmX3 hown hK hP hD hS 0 rfl rfl 4 (by decide) (hts (.fieldLink RX3 25 "ProofBench$Names" "parts" "[I") (by decide +kernel)) (fun _ h9 => h9) rfl hin rfl (by decide +kernel) rfl rfl (Nat.le_of_ble_eq_true rfl) dX3_init_44 (fun H locs hP hD hS => ?_)
  have hP : va_P (dC, dI) vwCl [(h0, .inr (3, [.ref q_1, .ref q_3, .ref q_5, .ref q_7, .ref q_9])), (q_1, .inl (cA_2, 5, .inl (fun _ => 0))), (q_3, .inl (cA_4, 200, .inr (.inl (fun _ => 0)))), (q_5, .inl (cA_6, 200, .inl (fun _ => 0))), (q_7, .inl (cA_8, 200, .inl (fun _ => 0))), (q_9, .inl (cA_10, 600, .inl (fun _ => 0)))] H := hP
  have hD : va_D A [(h0, .inr (3, [.ref q_1, .ref q_3, .ref q_5, .ref q_7, .ref q_9])), (q_1, .inl (cA_2, 5, .inl (fun _ => 0))), (q_3, .inl (cA_4, 200, .inr (.inl (fun _ => 0)))), (q_5, .inl (cA_6, 200, .inl (fun _ => 0))), (q_7, .inl (cA_8, 200, .inl (fun _ => 0))), (q_9, .inl (cA_10, 600, .inl (fun _ => 0)))] := hD
  refine lv_iconst (v := 3) hx hb dX3_init_47 (by decide) ?_
  refine va_newa (atype := .int) (n := 3) (N' := 3) (ty := .int) (a0 := (3, .inl (fun _ => 0))) hx hb (hts (.arrayClass .int) (by decide +kernel)) rfl hK hP hD hS hA (fun _ => rfl) (by decide) (by decide) (by decide) (show 5 + 1 ≤ 6 by omega) (show 1205 + 3 ≤ 1208 by omega) dX3_init_48 (fun q_11 cA_12 H hK hP hD hS => ?_)
  have hP : va_P (dC, dI) vwCl [(h0, .inr (3, [.ref q_1, .ref q_3, .ref q_5, .ref q_7, .ref q_9])), (q_1, .inl (cA_2, 5, .inl (fun _ => 0))), (q_3, .inl (cA_4, 200, .inr (.inl (fun _ => 0)))), (q_5, .inl (cA_6, 200, .inl (fun _ => 0))), (q_7, .inl (cA_8, 200, .inl (fun _ => 0))), (q_9, .inl (cA_10, 600, .inl (fun _ => 0))), (q_11, .inl (cA_12, 3, .inl (fun _ => 0)))] H := hP
  have hD : va_D A [(h0, .inr (3, [.ref q_1, .ref q_3, .ref q_5, .ref q_7, .ref q_9])), (q_1, .inl (cA_2, 5, .inl (fun _ => 0))), (q_3, .inl (cA_4, 200, .inr (.inl (fun _ => 0)))), (q_5, .inl (cA_6, 200, .inl (fun _ => 0))), (q_7, .inl (cA_8, 200, .inl (fun _ => 0))), (q_9, .inl (cA_10, 600, .inl (fun _ => 0))), (q_11, .inl (cA_12, 3, .inl (fun _ => 0)))] := hD
  have hK : va_K (dC, dI) vwCl [(cA_2, .int), (cA_4, .long), (cA_6, .int), (cA_8, .int), (cA_10, .int), (cA_12, .int)] s := hK
  refine W.widen (k := 6) (n := 1208) (by omega) (by omega) ?_
  refine lv_astore_n (lv' := [(1, .ref q_11), (0, .ref h0)]) hx hb dX3_init_50 rfl hl (by decide) rfl (fun ls hl => ?_)
  refine lv_aload_n hx hb dX3_init_51 rfl (lv_at hl 1 rfl) ?_
  refine lv_iconst (v := 0) hx hb dX3_init_52 (by decide) ?_
  refine va_ldcS hx hb hown hR1 dX3_init_53 ?_
  have hPc := hP.sub (ws' := []) [] rfl
  have hDc := hD.sub (ws' := []) [] (by decide) rfl
  have hKc := hK.sub (tys' := []) [] rfl
  have hFc := va_free (wc := []) hD hS hA [] rfl
  refine va_calll (va_runS (As := [.ref b1]) (rest := [.int 0, .ref h0]) ⟨hx, hb, hml, hown, hts⟩ (c_keyOf l dC dI H.size b1 v1 n1 f1 hn1) (va_cwS 1 hts gX3_init_X3_keyOf rfl rfl rfl (by decide +kernel) ⟨Nat.le_of_ble_eq_true rfl, Nat.le_of_ble_eq_true rfl⟩) ⟨fun a U g mk q => by obtain ⟨q0, q1, qP, qK, qD, qE0⟩ := q; exact ⟨q0, q1, qP, va_K.moved (u := U) (U := U.calling g mk a) (Vm.Alike.refl U.vm) qK, qD, st_S.moved (u := U) (U := U.calling g mk a) (Vm.Alike.refl U.vm) qE0⟩, fun U hU hW => ⟨rfl, by rw [hU], by rw [hU]; exact hPc, va_K.moved hW.alike hKc, hDc.weaken (fun _ _ _ _ => trivial), by rw [hU]; exact st_S.moved hW.alike ((hst1.kept hS.2.1).narrow hFc)⟩⟩ rfl rfl hl.1 rfl (lv_room (Nat.le_of_ble_eq_true rfl)) dX3_init_55 ⟨(show 6 + 0 ≤ 6 by omega), (show 1208 + 0 ≤ 1208 by omega)⟩) hS (fun q _ h => hFc q h) hFc (fun y_13 u t H1 locs ht hvm hw hB hz1 hk1 hS => ?_)
  obtain ⟨hP1, hK1, hD1⟩ := hB
  rw [ht] at hP1
  have hK1 := va_K.moved hvm.symm hK1
  obtain ⟨hP, hD⟩ := va_join (wr := [(h0, .inr (3, [.ref q_1, .ref q_3, .ref q_5, .ref q_7, .ref q_9])), (q_1, .inl (cA_2, 5, .inl (fun _ => 0))), (q_3, .inl (cA_4, 200, .inr (.inl (fun _ => 0)))), (q_5, .inl (cA_6, 200, .inl (fun _ => 0))), (q_7, .inl (cA_8, 200, .inl (fun _ => 0))), (q_9, .inl (cA_10, 600, .inl (fun _ => 0))), (q_11, .inl (cA_12, 3, .inl (fun _ => 0)))]) (w1 := []) hP hD [] [0, 1, 2, 3, 4, 5, 6] rfl rfl (by decide) (by decide) hk1 hFc hP1 hD1
  have hK := (hK.sub (tys' := [(cA_2, .int), (cA_4, .long), (cA_6, .int), (cA_8, .int), (cA_10, .int), (cA_12, .int)]) [0, 1, 2, 3, 4, 5] rfl).app hK1
  generalize H1 = H at hP hS ⊢
  have hP : va_P (dC, dI) vwCl [(h0, .inr (3, [.ref q_1, .ref q_3, .ref q_5, .ref q_7, .ref q_9])), (q_1, .inl (cA_2, 5, .inl (fun _ => 0))), (q_3, .inl (cA_4, 200, .inr (.inl (fun _ => 0)))), (q_5, .inl (cA_6, 200, .inl (fun _ => 0))), (q_7, .inl (cA_8, 200, .inl (fun _ => 0))), (q_9, .inl (cA_10, 600, .inl (fun _ => 0))), (q_11, .inl (cA_12, 3, .inl (fun _ => 0)))] H := hP
  have hD : va_D A [(h0, .inr (3, [.ref q_1, .ref q_3, .ref q_5, .ref q_7, .ref q_9])), (q_1, .inl (cA_2, 5, .inl (fun _ => 0))), (q_3, .inl (cA_4, 200, .inr (.inl (fun _ => 0)))), (q_5, .inl (cA_6, 200, .inl (fun _ => 0))), (q_7, .inl (cA_8, 200, .inl (fun _ => 0))), (q_9, .inl (cA_10, 600, .inl (fun _ => 0))), (q_11, .inl (cA_12, 3, .inl (fun _ => 0)))] := hD
  have hK : va_K (dC, dI) vwCl [(cA_2, .int), (cA_4, .long), (cA_6, .int), (cA_8, .int), (cA_10, .int), (cA_12, .int)] s := hK
  refine W.widen (k := 6) (n := 1208) (by omega) (by omega) ?_
  refine lv_iconst (v := 0) hx hb dX3_init_58 (by decide) ?_
  refine lv_aload_n hx hb dX3_init_59 rfl (lv_at hl 0 rfl) ?_
  refine lv_iconst (v := 0) hx hb dX3_init_60 (by decide) ?_
  have hPc := hP.sub (ws' := [(h0, .inr (3, [.ref q_1, .ref q_3, .ref q_5, .ref q_7, .ref q_9])), (q_1, .inl (cA_2, 5, .inl (fun _ => 0))), (q_3, .inl (cA_4, 200, .inr (.inl (fun _ => 0)))), (q_5, .inl (cA_6, 200, .inl (fun _ => 0))), (q_7, .inl (cA_8, 200, .inl (fun _ => 0))), (q_9, .inl (cA_10, 600, .inl (fun _ => 0))), (q_11, .inl (cA_12, 3, .inl (fun _ => 0)))]) [0, 1, 2, 3, 4, 5, 6] rfl
  have hDc := hD.sub (ws' := [(h0, .inr (3, [.ref q_1, .ref q_3, .ref q_5, .ref q_7, .ref q_9])), (q_1, .inl (cA_2, 5, .inl (fun _ => 0))), (q_3, .inl (cA_4, 200, .inr (.inl (fun _ => 0)))), (q_5, .inl (cA_6, 200, .inl (fun _ => 0))), (q_7, .inl (cA_8, 200, .inl (fun _ => 0))), (q_9, .inl (cA_10, 600, .inl (fun _ => 0))), (q_11, .inl (cA_12, 3, .inl (fun _ => 0)))]) [0, 1, 2, 3, 4, 5, 6] (by decide) rfl
  have hKc := hK.sub (tys' := [(cA_2, .int), (cA_4, .long), (cA_6, .int), (cA_8, .int), (cA_10, .int), (cA_12, .int)]) [0, 1, 2, 3, 4, 5] rfl
  have hFc := va_free (wc := [(h0, .inr (3, [.ref q_1, .ref q_3, .ref q_5, .ref q_7, .ref q_9])), (q_1, .inl (cA_2, 5, .inl (fun _ => 0))), (q_3, .inl (cA_4, 200, .inr (.inl (fun _ => 0)))), (q_5, .inl (cA_6, 200, .inl (fun _ => 0))), (q_7, .inl (cA_8, 200, .inl (fun _ => 0))), (q_9, .inl (cA_10, 600, .inl (fun _ => 0))), (q_11, .inl (cA_12, 3, .inl (fun _ => 0)))]) hD hS hA [0, 1, 2, 3, 4, 5, 6] rfl
  refine va_calli (va_runV (As := [.int 0, .long y_13, .int 0, .ref q_11, .int 0]) (rest := []) ⟨hx, hb, hml, hown, hts⟩ (c_tell_0 l dC dI H.size h0 q_1 q_3 q_5 q_7 q_9 q_11 cA_2 cA_4 cA_6 cA_8 cA_10 cA_12 (fun _ => 0) (fun _ => 0) (fun _ => 0) (fun _ => 0) (fun _ => 0) (fun _ => 0) y_13 rfl rfl rfl) (cwV 5 hts gX3_init_X3_tell rfl rfl rfl (by decide +kernel) ⟨Nat.le_of_ble_eq_true rfl, Nat.le_of_ble_eq_true rfl⟩) ⟨fun a U g mk q => by obtain ⟨q0, q1, qP, qK, qD⟩ := q; exact ⟨q0, q1, qP, va_K.moved (u := U) (U := U.calling g mk a) (Vm.Alike.refl U.vm) qK, qD⟩, va_recv hKc hPc (ci := 3) (q0 := 0) rfl rfl, fun U hU hW => ⟨rfl, by rw [hU], by rw [hU]; exact hPc, va_K.moved hW.alike hKc, hDc.weaken (fun _ _ _ _ => trivial)⟩⟩ rfl rfl hl.1 rfl (lv_room (Nat.le_of_ble_eq_true rfl)) dX3_init_61 ⟨(show 6 + 0 ≤ 6 by omega), (show 1208 + 0 ≤ 1208 by omega)⟩) hS (fun q _ h => hFc q h) hFc (fun r_18 u t H1 locs ht hvm hw hB hz1 hk1 hS => ?_)
  obtain ⟨f_17, f_14, f_15, f_16, hP1, hK1, hD1, hg4, hg2⟩ := hB
  rw [ht] at hP1
  have hK1 := va_K.moved hvm.symm hK1
  obtain ⟨hP, hD⟩ := va_join (wr := []) (w1 := [(h0, .inr (3, [.ref q_1, .ref q_3, .ref q_5, .ref q_7, .ref q_9])), (q_1, .inl (cA_2, 5, .inl (f_17))), (q_3, .inl (cA_4, 200, .inr (.inl (f_14)))), (q_5, .inl (cA_6, 200, .inl (f_15))), (q_7, .inl (cA_8, 200, .inl (f_16))), (q_9, .inl (cA_10, 600, .inl (fun _ => 0))), (q_11, .inl (cA_12, 3, .inl (fun _ => 0)))]) hP hD [0, 1, 2, 3, 4, 5, 6] [] rfl rfl (by decide) (by decide) hk1 hFc hP1 hD1
  have hK := (hK.sub (tys' := [(cA_2, .int), (cA_4, .long), (cA_6, .int), (cA_8, .int), (cA_10, .int), (cA_12, .int)]) [0, 1, 2, 3, 4, 5] rfl).app hK1
  generalize H1 = H at hP hS ⊢
  have hP : va_P (dC, dI) vwCl [(h0, .inr (3, [.ref q_1, .ref q_3, .ref q_5, .ref q_7, .ref q_9])), (q_1, .inl (cA_2, 5, .inl (f_17))), (q_3, .inl (cA_4, 200, .inr (.inl (f_14)))), (q_5, .inl (cA_6, 200, .inl (f_15))), (q_7, .inl (cA_8, 200, .inl (f_16))), (q_9, .inl (cA_10, 600, .inl (fun _ => 0))), (q_11, .inl (cA_12, 3, .inl (fun _ => 0)))] H := hP
  have hD : va_D A [(h0, .inr (3, [.ref q_1, .ref q_3, .ref q_5, .ref q_7, .ref q_9])), (q_1, .inl (cA_2, 5, .inl (f_17))), (q_3, .inl (cA_4, 200, .inr (.inl (f_14)))), (q_5, .inl (cA_6, 200, .inl (f_15))), (q_7, .inl (cA_8, 200, .inl (f_16))), (q_9, .inl (cA_10, 600, .inl (fun _ => 0))), (q_11, .inl (cA_12, 3, .inl (fun _ => 0)))] := hD
  have hK : va_K (dC, dI) vwCl [(cA_2, .int), (cA_4, .long), (cA_6, .int), (cA_8, .int), (cA_10, .int), (cA_12, .int), (cA_2, .int), (cA_4, .long), (cA_6, .int), (cA_8, .int), (cA_10, .int), (cA_12, .int)] s := hK
  refine W.widen (k := 6) (n := 1208) (by omega) (by omega) ?_
  refine lv_pop hx hb dX3_init_64 rfl ?_
  refine lv_aload_n hx hb dX3_init_65 rfl (lv_at hl 1 rfl) ?_
  refine lv_iconst (v := 2) hx hb dX3_init_66 (by decide) ?_
  refine va_ldcS hx hb hown hR2 dX3_init_67 ?_
  have hPc := hP.sub (ws' := []) [] rfl
  have hDc := hD.sub (ws' := []) [] (by decide) rfl
  have hKc := hK.sub (tys' := []) [] rfl
  have hFc := va_free (wc := []) hD hS hA [] rfl
  refine va_calll (va_runS (As := [.ref b2]) (rest := [.int 2, .ref h0]) ⟨hx, hb, hml, hown, hts⟩ (c_keyOf l dC dI H.size b2 v2 n2 f2 hn2) (va_cwS 1 hts gX3_init_X3_keyOf rfl rfl rfl (by decide +kernel) ⟨Nat.le_of_ble_eq_true rfl, Nat.le_of_ble_eq_true rfl⟩) ⟨fun a U g mk q => by obtain ⟨q0, q1, qP, qK, qD, qE0⟩ := q; exact ⟨q0, q1, qP, va_K.moved (u := U) (U := U.calling g mk a) (Vm.Alike.refl U.vm) qK, qD, st_S.moved (u := U) (U := U.calling g mk a) (Vm.Alike.refl U.vm) qE0⟩, fun U hU hW => ⟨rfl, by rw [hU], by rw [hU]; exact hPc, va_K.moved hW.alike hKc, hDc.weaken (fun _ _ _ _ => trivial), by rw [hU]; exact st_S.moved hW.alike ((hst2.kept hS.2.1).narrow hFc)⟩⟩ rfl rfl hl.1 rfl (lv_room (Nat.le_of_ble_eq_true rfl)) dX3_init_69 ⟨(show 6 + 0 ≤ 6 by omega), (show 1208 + 0 ≤ 1208 by omega)⟩) hS (fun q _ h => hFc q h) hFc (fun y_19 u t H1 locs ht hvm hw hB hz1 hk1 hS => ?_)
  obtain ⟨hP1, hK1, hD1⟩ := hB
  rw [ht] at hP1
  have hK1 := va_K.moved hvm.symm hK1
  obtain ⟨hP, hD⟩ := va_join (wr := [(h0, .inr (3, [.ref q_1, .ref q_3, .ref q_5, .ref q_7, .ref q_9])), (q_1, .inl (cA_2, 5, .inl (f_17))), (q_3, .inl (cA_4, 200, .inr (.inl (f_14)))), (q_5, .inl (cA_6, 200, .inl (f_15))), (q_7, .inl (cA_8, 200, .inl (f_16))), (q_9, .inl (cA_10, 600, .inl (fun _ => 0))), (q_11, .inl (cA_12, 3, .inl (fun _ => 0)))]) (w1 := []) hP hD [] [0, 1, 2, 3, 4, 5, 6] rfl rfl (by decide) (by decide) hk1 hFc hP1 hD1
  have hK := (hK.sub (tys' := [(cA_2, .int), (cA_4, .long), (cA_6, .int), (cA_8, .int), (cA_10, .int), (cA_12, .int), (cA_2, .int), (cA_4, .long), (cA_6, .int), (cA_8, .int), (cA_10, .int), (cA_12, .int)]) [0, 1, 2, 3, 4, 5, 6, 7, 8, 9, 10, 11] rfl).app hK1
  generalize H1 = H at hP hS ⊢
  have hP : va_P (dC, dI) vwCl [(h0, .inr (3, [.ref q_1, .ref q_3, .ref q_5, .ref q_7, .ref q_9])), (q_1, .inl (cA_2, 5, .inl (f_17))), (q_3, .inl (cA_4, 200, .inr (.inl (f_14)))), (q_5, .inl (cA_6, 200, .inl (f_15))), (q_7, .inl (cA_8, 200, .inl (f_16))), (q_9, .inl (cA_10, 600, .inl (fun _ => 0))), (q_11, .inl (cA_12, 3, .inl (fun _ => 0)))] H := hP
  have hD : va_D A [(h0, .inr (3, [.ref q_1, .ref q_3, .ref q_5, .ref q_7, .ref q_9])), (q_1, .inl (cA_2, 5, .inl (f_17))), (q_3, .inl (cA_4, 200, .inr (.inl (f_14)))), (q_5, .inl (cA_6, 200, .inl (f_15))), (q_7, .inl (cA_8, 200, .inl (f_16))), (q_9, .inl (cA_10, 600, .inl (fun _ => 0))), (q_11, .inl (cA_12, 3, .inl (fun _ => 0)))] := hD
  have hK : va_K (dC, dI) vwCl [(cA_2, .int), (cA_4, .long), (cA_6, .int), (cA_8, .int), (cA_10, .int), (cA_12, .int), (cA_2, .int), (cA_4, .long), (cA_6, .int), (cA_8, .int), (cA_10, .int), (cA_12, .int)] s := hK
  refine W.widen (k := 6) (n := 1208) (by omega) (by omega) ?_
  refine lv_iconst (v := 0) hx hb dX3_init_72 (by decide) ?_
  refine lv_aload_n hx hb dX3_init_73 rfl (lv_at hl 0 rfl) ?_
  refine lv_iconst (v := 1) hx hb dX3_init_74 (by decide) ?_
  have hPc := hP.sub (ws' := [(h0, .inr (3, [.ref q_1, .ref q_3, .ref q_5, .ref q_7, .ref q_9])), (q_1, .inl (cA_2, 5, .inl (f_17))), (q_3, .inl (cA_4, 200, .inr (.inl (f_14)))), (q_5, .inl (cA_6, 200, .inl (f_15))), (q_7, .inl (cA_8, 200, .inl (f_16))), (q_9, .inl (cA_10, 600, .inl (fun _ => 0))), (q_11, .inl (cA_12, 3, .inl (fun _ => 0)))]) [0, 1, 2, 3, 4, 5, 6] rfl
  have hDc := hD.sub (ws' := [(h0, .inr (3, [.ref q_1, .ref q_3, .ref q_5, .ref q_7, .ref q_9])), (q_1, .inl (cA_2, 5, .inl (f_17))), (q_3, .inl (cA_4, 200, .inr (.inl (f_14)))), (q_5, .inl (cA_6, 200, .inl (f_15))), (q_7, .inl (cA_8, 200, .inl (f_16))), (q_9, .inl (cA_10, 600, .inl (fun _ => 0))), (q_11, .inl (cA_12, 3, .inl (fun _ => 0)))]) [0, 1, 2, 3, 4, 5, 6] (by decide) rfl
  have hKc := hK.sub (tys' := [(cA_2, .int), (cA_4, .long), (cA_6, .int), (cA_8, .int), (cA_10, .int), (cA_12, .int)]) [0, 1, 2, 3, 4, 5] rfl
  have hFc := va_free (wc := [(h0, .inr (3, [.ref q_1, .ref q_3, .ref q_5, .ref q_7, .ref q_9])), (q_1, .inl (cA_2, 5, .inl (f_17))), (q_3, .inl (cA_4, 200, .inr (.inl (f_14)))), (q_5, .inl (cA_6, 200, .inl (f_15))), (q_7, .inl (cA_8, 200, .inl (f_16))), (q_9, .inl (cA_10, 600, .inl (fun _ => 0))), (q_11, .inl (cA_12, 3, .inl (fun _ => 0)))]) hD hS hA [0, 1, 2, 3, 4, 5, 6] rfl
  refine va_calli (va_runV (As := [.int 2, .long y_19, .int 0, .ref q_11, .int 1]) (rest := []) ⟨hx, hb, hml, hown, hts⟩ (c_tell_2 l dC dI H.size h0 q_1 q_3 q_5 q_7 q_9 q_11 cA_2 cA_4 cA_6 cA_8 cA_10 cA_12 (f_17) (f_14) (f_15) (f_16) (fun _ => 0) (fun _ => 0) y_19 hg2 hg4) (cwV 5 hts gX3_init_X3_tell rfl rfl rfl (by decide +kernel) ⟨Nat.le_of_ble_eq_true rfl, Nat.le_of_ble_eq_true rfl⟩) ⟨fun a U g mk q => by obtain ⟨q0, q1, qP, qK, qD⟩ := q; exact ⟨q0, q1, qP, va_K.moved (u := U) (U := U.calling g mk a) (Vm.Alike.refl U.vm) qK, qD⟩, va_recv hKc hPc (ci := 3) (q0 := 0) rfl rfl, fun U hU hW => ⟨rfl, by rw [hU], by rw [hU]; exact hPc, va_K.moved hW.alike hKc, hDc.weaken (fun _ _ _ _ => trivial)⟩⟩ rfl rfl hl.1 rfl (lv_room (Nat.le_of_ble_eq_true rfl)) dX3_init_75 ⟨(show 6 + 0 ≤ 6 by omega), (show 1208 + 0 ≤ 1208 by omega)⟩) hS (fun q _ h => hFc q h) hFc (fun r_25 u t H1 locs ht hvm hw hB hz1 hk1 hS => ?_)
  obtain ⟨f_24, f_20, f_21, f_22, f_23, hP1, hK1, hD1, hg4⟩ := hB
  rw [ht] at hP1
  have hK1 := va_K.moved hvm.symm hK1
  obtain ⟨hP, hD⟩ := va_join (wr := []) (w1 := [(h0, .inr (3, [.ref q_1, .ref q_3, .ref q_5, .ref q_7, .ref q_9])), (q_1, .inl (cA_2, 5, .inl (f_24))), (q_3, .inl (cA_4, 200, .inr (.inl (f_20)))), (q_5, .inl (cA_6, 200, .inl (f_21))), (q_7, .inl (cA_8, 200, .inl (f_22))), (q_9, .inl (cA_10, 600, .inl (f_23))), (q_11, .inl (cA_12, 3, .inl (fun _ => 0)))]) hP hD [0, 1, 2, 3, 4, 5, 6] [] rfl rfl (by decide) (by decide) hk1 hFc hP1 hD1
  have hK := (hK.sub (tys' := [(cA_2, .int), (cA_4, .long), (cA_6, .int), (cA_8, .int), (cA_10, .int), (cA_12, .int), (cA_2, .int), (cA_4, .long), (cA_6, .int), (cA_8, .int), (cA_10, .int), (cA_12, .int)]) [0, 1, 2, 3, 4, 5, 6, 7, 8, 9, 10, 11] rfl).app hK1
  generalize H1 = H at hP hS ⊢
  have hP : va_P (dC, dI) vwCl [(h0, .inr (3, [.ref q_1, .ref q_3, .ref q_5, .ref q_7, .ref q_9])), (q_1, .inl (cA_2, 5, .inl (f_24))), (q_3, .inl (cA_4, 200, .inr (.inl (f_20)))), (q_5, .inl (cA_6, 200, .inl (f_21))), (q_7, .inl (cA_8, 200, .inl (f_22))), (q_9, .inl (cA_10, 600, .inl (f_23))), (q_11, .inl (cA_12, 3, .inl (fun _ => 0)))] H := hP
  have hD : va_D A [(h0, .inr (3, [.ref q_1, .ref q_3, .ref q_5, .ref q_7, .ref q_9])), (q_1, .inl (cA_2, 5, .inl (f_24))), (q_3, .inl (cA_4, 200, .inr (.inl (f_20)))), (q_5, .inl (cA_6, 200, .inl (f_21))), (q_7, .inl (cA_8, 200, .inl (f_22))), (q_9, .inl (cA_10, 600, .inl (f_23))), (q_11, .inl (cA_12, 3, .inl (fun _ => 0)))] := hD
  have hK : va_K (dC, dI) vwCl [(cA_2, .int), (cA_4, .long), (cA_6, .int), (cA_8, .int), (cA_10, .int), (cA_12, .int), (cA_2, .int), (cA_4, .long), (cA_6, .int), (cA_8, .int), (cA_10, .int), (cA_12, .int), (cA_2, .int), (cA_4, .long), (cA_6, .int), (cA_8, .int), (cA_10, .int), (cA_12, .int)] s := hK
  refine W.widen (k := 6) (n := 1208) (by omega) (by omega) ?_
  refine lv_pop hx hb dX3_init_78 rfl ?_
  have hP9 := hP.sub (ws' := [(h0, .inr (3, [.ref q_1, .ref q_3, .ref q_5, .ref q_7, .ref q_9])), (q_1, .inl (cA_2, 5, .inl (f_24)))]) [0, 1] rfl
  have hD9 := hD.sub (ws' := [(h0, .inr (3, [.ref q_1, .ref q_3, .ref q_5, .ref q_7, .ref q_9])), (q_1, .inl (cA_2, 5, .inl (f_24)))]) [0, 1] (by decide) rfl
  have hK9 := hK.sub (tys' := [(cA_2, .int)]) [0] rfl
  refine W.widen (k := 6) (n := 1208) (by omega) (by omega) ?_
  exact W.vret hx hb hr (fun t ht hW => ⟨⟨(), rfl, trivial, q_1, q_3, q_5, q_7, q_9, cA_2, f_24, by rw [ht]; exact hP9, va_K.moved hW.alike hK9, hD9, hg4⟩, hS.F ht⟩) hS.2.2 dX3_init_79
set_option maxHeartbeats 1000000 in
set_option maxRecDepth 100000 in
theorem lp_tapeIn {p : Program} {l : Launch} {e : Env} {s : State} {m : MethodId} {args : Array Value} {below : List Frame} {meth : Method} {c : Code} {Q : State → Prop} {dC : Nat → ClassId} {dI : Nat → Nat → Nat} {A : Nat → Prop} {h0 a1 a2 a3 a4 a5 a6 b v n : Nat} {f : Nat → Int32} {cA1 cA2 cA3 cA4 cA5 : ClassId} (hn : n < 2 ^ 30) (hx : p.tables.exec = Jvm.exec) (hb : c.code = cX9_init) (hml : c.maxLocals = 3) (hown : s.vm.findClass RX9 = some m.cls) (hts : ∀ w ∈ wsX9_init, w.before args s = true) (hA : ∀ q : Nat, s.heap.size ≤ q → A q) (hR : vk_R RX9 32 "SORT a;FUN aSs;REL aS;VAR as;AXIOM aF;DEFINE aVF;PROOF ;THEOREM a;SHOW p;FROM pk;TELL t;ALIKE XX;PUT FvU;SIZE sz;ZERO o;VALUE fKw;HOLDS rK;LACKS rK;JUDGE F;ASSUME F;BOTH pp;LEFT p;RIGHT p;FIRST pF;SECOND pF;CASE ppp;APPLY pp;DISCHARGE pF;GENERALISE pv;SPECIALISE pT;WITNESS pTF;OPEN ppv;SAME T;REPLACE ppvF;ABSURD pF;INDUCTION ppiF;COUNT c;USE t;SEARCH F*;" b s) (hst : st_S b v n f A s s.heap) (hK : va_K (dC, dI) vwCl [(cA1, .byte), (cA2, .int), (cA3, .int), (cA4, .long), (cA5, .int)] s) {k M : Nat} {g : Nat → Int32} (hM : n ≤ M) (hM2 : M < 2 ^ 31) (hexit : ∀ (j : Nat) (H : Heap) (locs : List Loc) (ls : Array Slot), j ≤ M → va_P (dC, dI) vwCl [(h0, .inr (9, [.ref a1, .ref a2, .ref a3, .ref a4, .ref a5, .ref a6, .int 0, .int 0, .int 0, .int 0, .int 0])), (a1, .inl (cA1, 4000, .inl (fun _ => 0))), (a2, .inl (cA2, 4002, .inl (fun _ => 0))), (a3, .inl (cA3, 4002, .inl (fun _ => 0))), (a4, .inl (cA4, 4002, .inr (.inl (fun _ => 0)))), (a5, .inl (cA5, 39, .inl (g)))] H → va_D A [(h0, .inr (9, [.ref a1, .ref a2, .ref a3, .ref a4, .ref a5, .ref a6, .int 0, .int 0, .int 0, .int 0, .int 0])), (a1, .inl (cA1, 4000, .inl (fun _ => 0))), (a2, .inl (cA2, 4002, .inl (fun _ => 0))), (a3, .inl (cA3, 4002, .inl (fun _ => 0))), (a4, .inl (cA4, 4002, .inr (.inl (fun _ => 0)))), (a5, .inl (cA5, 39, .inl (g)))] → va_S A s.heap H locs → lv_has ls 3 [(0, .ref h0), (1, .int (nI j)), (2, .int (nI k))] → W p l e ({ frames := 4, cells := 6, slots := 16049, locals := 85 } : Room) s m args below meth c H locs 6 16049 Q (F0 m 98 ls [])) : ∀ (d j : Nat), n ≤ j + d → j ≤ M → ∀ (H : Heap) (locs : List Loc) (ls : Array Slot), va_P (dC, dI) vwCl [(h0, .inr (9, [.ref a1, .ref a2, .ref a3, .ref a4, .ref a5, .ref a6, .int 0, .int 0, .int 0, .int 0, .int 0])), (a1, .inl (cA1, 4000, .inl (fun _ => 0))), (a2, .inl (cA2, 4002, .inl (fun _ => 0))), (a3, .inl (cA3, 4002, .inl (fun _ => 0))), (a4, .inl (cA4, 4002, .inr (.inl (fun _ => 0)))), (a5, .inl (cA5, 39, .inl (g)))] H → va_D A [(h0, .inr (9, [.ref a1, .ref a2, .ref a3, .ref a4, .ref a5, .ref a6, .int 0, .int 0, .int 0, .int 0, .int 0])), (a1, .inl (cA1, 4000, .inl (fun _ => 0))), (a2, .inl (cA2, 4002, .inl (fun _ => 0))), (a3, .inl (cA3, 4002, .inl (fun _ => 0))), (a4, .inl (cA4, 4002, .inr (.inl (fun _ => 0)))), (a5, .inl (cA5, 39, .inl (g)))] → va_S A s.heap H locs → lv_has ls 3 [(0, .ref h0), (1, .int (nI j)), (2, .int (nI k))] → W p l e ({ frames := 4, cells := 6, slots := 16049, locals := 85 } : Room) s m args below meth c H locs 6 16049 Q (F0 m 72 ls []) := by
  intro d
  induction d with
  | zero =>
    intro j hj hjM H locs ls hP hD hS hl
    refine lv_iload_n hx hb dX9_init_72 rfl (lv_at hl 1 rfl) ?_
    refine va_ldcS hx hb hown hR dX9_init_73 ?_
    have hPc := hP.sub (ws' := []) [] rfl
    have hDc := hD.sub (ws' := []) [] (by decide) rfl
    have hKc := hK.sub (tys' := []) [] rfl
    have hFc := va_free (wc := []) hD hS hA [] rfl
    refine va_calli (va_runV (As := []) (rest := [.int (nI j)]) ⟨hx, hb, hml, hown, hts⟩ (c_length l dC dI H.size b v n f) (cwV 0 hts gX9_init_J0_length_8abf5 rfl rfl rfl (by decide +kernel) ⟨Nat.le_of_ble_eq_true rfl, Nat.le_of_ble_eq_true rfl⟩) ⟨fun a U g mk q => by obtain ⟨q0, q1, qP, qK, qD, qE0⟩ := q; exact ⟨q0, q1, qP, va_K.moved (u := U) (U := U.calling g mk a) (Vm.Alike.refl U.vm) qK, qD, st_S.moved (u := U) (U := U.calling g mk a) (Vm.Alike.refl U.vm) qE0⟩, hst.recv hS, fun U hU hW => ⟨rfl, by rw [hU], by rw [hU]; exact hPc, va_K.moved hW.alike hKc, hDc.weaken (fun _ _ _ _ => trivial), by rw [hU]; exact st_S.moved hW.alike ((hst.kept hS.2.1).narrow hFc)⟩⟩ rfl rfl hl.1 rfl (lv_room (Nat.le_of_ble_eq_true rfl)) dX9_init_75 ⟨(show 6 + 0 ≤ 6 by omega), (show 16049 + 0 ≤ 16049 by omega)⟩) hS (fun q _ h => hFc q h) hFc (fun r0 u t H1 locs ht hvm hw hB hz1 hk1 hS => ?_)
    obtain ⟨hP1, hK1, hD1⟩ := hB
    rw [ht] at hP1
    have hK1 := va_K.moved hvm.symm hK1
    obtain ⟨hP, hD⟩ := va_join (wr := [(h0, .inr (9, [.ref a1, .ref a2, .ref a3, .ref a4, .ref a5, .ref a6, .int 0, .int 0, .int 0, .int 0, .int 0])), (a1, .inl (cA1, 4000, .inl (fun _ => 0))), (a2, .inl (cA2, 4002, .inl (fun _ => 0))), (a3, .inl (cA3, 4002, .inl (fun _ => 0))), (a4, .inl (cA4, 4002, .inr (.inl (fun _ => 0)))), (a5, .inl (cA5, 39, .inl (g)))]) (w1 := []) hP hD [] [0, 1, 2, 3, 4, 5] rfl rfl (by decide) (by decide) hk1 hFc hP1 hD1
    have hK := (hK.sub (tys' := [(cA1, .byte), (cA2, .int), (cA3, .int), (cA4, .long), (cA5, .int)]) [0, 1, 2, 3, 4] rfl).app hK1
    generalize H1 = H at hP hS ⊢
    have hP : va_P (dC, dI) vwCl [(h0, .inr (9, [.ref a1, .ref a2, .ref a3, .ref a4, .ref a5, .ref a6, .int 0, .int 0, .int 0, .int 0, .int 0])), (a1, .inl (cA1, 4000, .inl (fun _ => 0))), (a2, .inl (cA2, 4002, .inl (fun _ => 0))), (a3, .inl (cA3, 4002, .inl (fun _ => 0))), (a4, .inl (cA4, 4002, .inr (.inl (fun _ => 0)))), (a5, .inl (cA5, 39, .inl (g)))] H := hP
    have hD : va_D A [(h0, .inr (9, [.ref a1, .ref a2, .ref a3, .ref a4, .ref a5, .ref a6, .int 0, .int 0, .int 0, .int 0, .int 0])), (a1, .inl (cA1, 4000, .inl (fun _ => 0))), (a2, .inl (cA2, 4002, .inl (fun _ => 0))), (a3, .inl (cA3, 4002, .inl (fun _ => 0))), (a4, .inl (cA4, 4002, .inr (.inl (fun _ => 0)))), (a5, .inl (cA5, 39, .inl (g)))] := hD
    have hK : va_K (dC, dI) vwCl [(cA1, .byte), (cA2, .int), (cA3, .int), (cA4, .long), (cA5, .int)] s := hK
    refine W.widen (k := 6) (n := 16049) (by omega) (by omega) ?_
    subst hw
    refine lv_icmp_ge (tgt := 98) hx hb dX9_init_78 (by decide) (fun c9 => ?_) (fun c9 => absurd (nI_le (by omega) (by omega)) c9)
    exact hexit j _ _ ls hjM hP hD hS hl
  | succ d ih =>
    intro j hj hjM H locs ls hP hD hS hl
    refine lv_iload_n hx hb dX9_init_72 rfl (lv_at hl 1 rfl) ?_
    refine va_ldcS hx hb hown hR dX9_init_73 ?_
    have hPc := hP.sub (ws' := []) [] rfl
    have hDc := hD.sub (ws' := []) [] (by decide) rfl
    have hKc := hK.sub (tys' := []) [] rfl
    have hFc := va_free (wc := []) hD hS hA [] rfl
    refine va_calli (va_runV (As := []) (rest := [.int (nI j)]) ⟨hx, hb, hml, hown, hts⟩ (c_length l dC dI H.size b v n f) (cwV 0 hts gX9_init_J0_length_8abf5 rfl rfl rfl (by decide +kernel) ⟨Nat.le_of_ble_eq_true rfl, Nat.le_of_ble_eq_true rfl⟩) ⟨fun a U g mk q => by obtain ⟨q0, q1, qP, qK, qD, qE0⟩ := q; exact ⟨q0, q1, qP, va_K.moved (u := U) (U := U.calling g mk a) (Vm.Alike.refl U.vm) qK, qD, st_S.moved (u := U) (U := U.calling g mk a) (Vm.Alike.refl U.vm) qE0⟩, hst.recv hS, fun U hU hW => ⟨rfl, by rw [hU], by rw [hU]; exact hPc, va_K.moved hW.alike hKc, hDc.weaken (fun _ _ _ _ => trivial), by rw [hU]; exact st_S.moved hW.alike ((hst.kept hS.2.1).narrow hFc)⟩⟩ rfl rfl hl.1 rfl (lv_room (Nat.le_of_ble_eq_true rfl)) dX9_init_75 ⟨(show 6 + 0 ≤ 6 by omega), (show 16049 + 0 ≤ 16049 by omega)⟩) hS (fun q _ h => hFc q h) hFc (fun r0 u t H1 locs ht hvm hw hB hz1 hk1 hS => ?_)
    obtain ⟨hP1, hK1, hD1⟩ := hB
    rw [ht] at hP1
    have hK1 := va_K.moved hvm.symm hK1
    obtain ⟨hP, hD⟩ := va_join (wr := [(h0, .inr (9, [.ref a1, .ref a2, .ref a3, .ref a4, .ref a5, .ref a6, .int 0, .int 0, .int 0, .int 0, .int 0])), (a1, .inl (cA1, 4000, .inl (fun _ => 0))), (a2, .inl (cA2, 4002, .inl (fun _ => 0))), (a3, .inl (cA3, 4002, .inl (fun _ => 0))), (a4, .inl (cA4, 4002, .inr (.inl (fun _ => 0)))), (a5, .inl (cA5, 39, .inl (g)))]) (w1 := []) hP hD [] [0, 1, 2, 3, 4, 5] rfl rfl (by decide) (by decide) hk1 hFc hP1 hD1
    have hK := (hK.sub (tys' := [(cA1, .byte), (cA2, .int), (cA3, .int), (cA4, .long), (cA5, .int)]) [0, 1, 2, 3, 4] rfl).app hK1
    generalize H1 = H at hP hS ⊢
    have hP : va_P (dC, dI) vwCl [(h0, .inr (9, [.ref a1, .ref a2, .ref a3, .ref a4, .ref a5, .ref a6, .int 0, .int 0, .int 0, .int 0, .int 0])), (a1, .inl (cA1, 4000, .inl (fun _ => 0))), (a2, .inl (cA2, 4002, .inl (fun _ => 0))), (a3, .inl (cA3, 4002, .inl (fun _ => 0))), (a4, .inl (cA4, 4002, .inr (.inl (fun _ => 0)))), (a5, .inl (cA5, 39, .inl (g)))] H := hP
    have hD : va_D A [(h0, .inr (9, [.ref a1, .ref a2, .ref a3, .ref a4, .ref a5, .ref a6, .int 0, .int 0, .int 0, .int 0, .int 0])), (a1, .inl (cA1, 4000, .inl (fun _ => 0))), (a2, .inl (cA2, 4002, .inl (fun _ => 0))), (a3, .inl (cA3, 4002, .inl (fun _ => 0))), (a4, .inl (cA4, 4002, .inr (.inl (fun _ => 0)))), (a5, .inl (cA5, 39, .inl (g)))] := hD
    have hK : va_K (dC, dI) vwCl [(cA1, .byte), (cA2, .int), (cA3, .int), (cA4, .long), (cA5, .int)] s := hK
    refine W.widen (k := 6) (n := 16049) (by omega) (by omega) ?_
    subst hw
    by_cases hjn : n ≤ j
    · refine lv_icmp_ge (tgt := 98) hx hb dX9_init_78 (by decide) (fun c9 => ?_) (fun c9 => absurd (nI_le hjn (by omega)) c9)
      exact hexit j _ _ ls hjM hP hD hS hl
    · refine lv_icmp_ge (tgt := 98) hx hb dX9_init_78 (by decide) (fun c9 => absurd c9 (nI_ge (by omega) (by omega))) (fun c9 => ?_)
      refine va_ldcS hx hb hown hR dX9_init_81 ?_
      refine lv_iload_n hx hb dX9_init_83 rfl (lv_at hl 1 rfl) ?_
      have hPc := hP.sub (ws' := []) [] rfl
      have hDc := hD.sub (ws' := []) [] (by decide) rfl
      have hKc := hK.sub (tys' := []) [] rfl
      have hFc := va_free (wc := []) hD hS hA [] rfl
      refine va_calli (va_runV (As := [.int (nI j)]) (rest := []) ⟨hx, hb, hml, hown, hts⟩ (c_charAt l dC dI H.size b v n f j (by omega) (by omega)) (cwV 1 hts gX9_init_J0_charAt_5068e rfl rfl rfl (by decide +kernel) ⟨Nat.le_of_ble_eq_true rfl, Nat.le_of_ble_eq_true rfl⟩) ⟨fun a U g mk q => by obtain ⟨q0, q1, qP, qK, qD, qE0⟩ := q; exact ⟨q0, q1, qP, va_K.moved (u := U) (U := U.calling g mk a) (Vm.Alike.refl U.vm) qK, qD, st_S.moved (u := U) (U := U.calling g mk a) (Vm.Alike.refl U.vm) qE0⟩, hst.recv hS, fun U hU hW => ⟨rfl, by rw [hU], by rw [hU]; exact hPc, va_K.moved hW.alike hKc, hDc.weaken (fun _ _ _ _ => trivial), by rw [hU]; exact st_S.moved hW.alike ((hst.kept hS.2.1).narrow hFc)⟩⟩ rfl rfl hl.1 rfl (lv_room (Nat.le_of_ble_eq_true rfl)) dX9_init_84 ⟨(show 6 + 0 ≤ 6 by omega), (show 16049 + 0 ≤ 16049 by omega)⟩) hS (fun q _ h => hFc q h) hFc (fun r1 u t H1 locs ht hvm hw hB hz1 hk1 hS => ?_)
      obtain ⟨hP1, hK1, hD1⟩ := hB
      rw [ht] at hP1
      have hK1 := va_K.moved hvm.symm hK1
      obtain ⟨hP, hD⟩ := va_join (wr := [(h0, .inr (9, [.ref a1, .ref a2, .ref a3, .ref a4, .ref a5, .ref a6, .int 0, .int 0, .int 0, .int 0, .int 0])), (a1, .inl (cA1, 4000, .inl (fun _ => 0))), (a2, .inl (cA2, 4002, .inl (fun _ => 0))), (a3, .inl (cA3, 4002, .inl (fun _ => 0))), (a4, .inl (cA4, 4002, .inr (.inl (fun _ => 0)))), (a5, .inl (cA5, 39, .inl (g)))]) (w1 := []) hP hD [] [0, 1, 2, 3, 4, 5] rfl rfl (by decide) (by decide) hk1 hFc hP1 hD1
      have hK := (hK.sub (tys' := [(cA1, .byte), (cA2, .int), (cA3, .int), (cA4, .long), (cA5, .int)]) [0, 1, 2, 3, 4] rfl).app hK1
      generalize H1 = H at hP hS ⊢
      have hP : va_P (dC, dI) vwCl [(h0, .inr (9, [.ref a1, .ref a2, .ref a3, .ref a4, .ref a5, .ref a6, .int 0, .int 0, .int 0, .int 0, .int 0])), (a1, .inl (cA1, 4000, .inl (fun _ => 0))), (a2, .inl (cA2, 4002, .inl (fun _ => 0))), (a3, .inl (cA3, 4002, .inl (fun _ => 0))), (a4, .inl (cA4, 4002, .inr (.inl (fun _ => 0)))), (a5, .inl (cA5, 39, .inl (g)))] H := hP
      have hD : va_D A [(h0, .inr (9, [.ref a1, .ref a2, .ref a3, .ref a4, .ref a5, .ref a6, .int 0, .int 0, .int 0, .int 0, .int 0])), (a1, .inl (cA1, 4000, .inl (fun _ => 0))), (a2, .inl (cA2, 4002, .inl (fun _ => 0))), (a3, .inl (cA3, 4002, .inl (fun _ => 0))), (a4, .inl (cA4, 4002, .inr (.inl (fun _ => 0)))), (a5, .inl (cA5, 39, .inl (g)))] := hD
      have hK : va_K (dC, dI) vwCl [(cA1, .byte), (cA2, .int), (cA3, .int), (cA4, .long), (cA5, .int)] s := hK
      refine W.widen (k := 6) (n := 16049) (by omega) (by omega) ?_
      refine lv_bipush (v := 59) hx hb dX9_init_87 (by decide) ?_
      refine lv_icmp_eq (tgt := 98) hx hb dX9_init_89 (by decide) (fun c9 => ?_) (fun c9 => ?_)
      · exact hexit j _ _ ls hjM hP hD hS hl
      · refine lv_iinc (v := nI (j + 1)) (lv' := [(1, .int (nI (j + 1))), (0, .ref h0), (2, .int (nI k))]) hx hb dX9_init_92 hl (k := 1) rfl (by rw [← nI_1]; rfl) (by decide) rfl (fun ls hl => ?_)
        refine lv_goto (tgt := 72) hx hb dX9_init_95 (by decide) ?_
        exact ih (j + 1) (by omega) (by omega) _ _ ls hP hD hS (lv_sub hl [1, 0, 2] rfl)
set_option maxHeartbeats 1000000 in
set_option maxRecDepth 100000 in
theorem lp_tapeOut {p : Program} {l : Launch} {e : Env} {s : State} {m : MethodId} {args : Array Value} {below : List Frame} {meth : Method} {c : Code} {Q : State → Prop} {dC : Nat → ClassId} {dI : Nat → Nat → Nat} {A : Nat → Prop} {h0 a1 a2 a3 a4 a5 a6 b v n : Nat} {f : Nat → Int32} {cA1 cA2 cA3 cA4 cA5 : ClassId} (hn : n < 2 ^ 30) (hx : p.tables.exec = Jvm.exec) (hb : c.code = cX9_init) (hml : c.maxLocals = 3) (hown : s.vm.findClass RX9 = some m.cls) (hts : ∀ w ∈ wsX9_init, w.before args s = true) (hA : ∀ q : Nat, s.heap.size ≤ q → A q) (hR : vk_R RX9 32 "SORT a;FUN aSs;REL aS;VAR as;AXIOM aF;DEFINE aVF;PROOF ;THEOREM a;SHOW p;FROM pk;TELL t;ALIKE XX;PUT FvU;SIZE sz;ZERO o;VALUE fKw;HOLDS rK;LACKS rK;JUDGE F;ASSUME F;BOTH pp;LEFT p;RIGHT p;FIRST pF;SECOND pF;CASE ppp;APPLY pp;DISCHARGE pF;GENERALISE pv;SPECIALISE pT;WITNESS pTF;OPEN ppv;SAME T;REPLACE ppvF;ABSURD pF;INDUCTION ppiF;COUNT c;USE t;SEARCH F*;" b s) (hst : st_S b v n f A s s.heap) (hK : va_K (dC, dI) vwCl [(cA1, .byte), (cA2, .int), (cA3, .int), (cA4, .long), (cA5, .int)] s) (hexit : ∀ (g : Nat → Int32) (j k : Nat) (H : Heap) (locs : List Loc) (ls : Array Slot), va_P (dC, dI) vwCl [(h0, .inr (9, [.ref a1, .ref a2, .ref a3, .ref a4, .ref a5, .ref a6, .int 0, .int 0, .int 0, .int 0, .int 0])), (a1, .inl (cA1, 4000, .inl (fun _ => 0))), (a2, .inl (cA2, 4002, .inl (fun _ => 0))), (a3, .inl (cA3, 4002, .inl (fun _ => 0))), (a4, .inl (cA4, 4002, .inr (.inl (fun _ => 0)))), (a5, .inl (cA5, 39, .inl (g)))] H → va_D A [(h0, .inr (9, [.ref a1, .ref a2, .ref a3, .ref a4, .ref a5, .ref a6, .int 0, .int 0, .int 0, .int 0, .int 0])), (a1, .inl (cA1, 4000, .inl (fun _ => 0))), (a2, .inl (cA2, 4002, .inl (fun _ => 0))), (a3, .inl (cA3, 4002, .inl (fun _ => 0))), (a4, .inl (cA4, 4002, .inr (.inl (fun _ => 0)))), (a5, .inl (cA5, 39, .inl (g)))] → va_S A s.heap H locs → lv_has ls 3 [(0, .ref h0), (1, .int (nI j)), (2, .int (nI k))] → W p l e ({ frames := 4, cells := 6, slots := 16049, locals := 85 } : Room) s m args below meth c H locs 6 16049 Q (F0 m 107 ls [])) : ∀ (d k j : Nat), 39 = k + d → j ≤ n + k → ∀ (g : Nat → Int32) (H : Heap) (locs : List Loc) (ls : Array Slot), va_P (dC, dI) vwCl [(h0, .inr (9, [.ref a1, .ref a2, .ref a3, .ref a4, .ref a5, .ref a6, .int 0, .int 0, .int 0, .int 0, .int 0])), (a1, .inl (cA1, 4000, .inl (fun _ => 0))), (a2, .inl (cA2, 4002, .inl (fun _ => 0))), (a3, .inl (cA3, 4002, .inl (fun _ => 0))), (a4, .inl (cA4, 4002, .inr (.inl (fun _ => 0)))), (a5, .inl (cA5, 39, .inl (g)))] H → va_D A [(h0, .inr (9, [.ref a1, .ref a2, .ref a3, .ref a4, .ref a5, .ref a6, .int 0, .int 0, .int 0, .int 0, .int 0])), (a1, .inl (cA1, 4000, .inl (fun _ => 0))), (a2, .inl (cA2, 4002, .inl (fun _ => 0))), (a3, .inl (cA3, 4002, .inl (fun _ => 0))), (a4, .inl (cA4, 4002, .inr (.inl (fun _ => 0)))), (a5, .inl (cA5, 39, .inl (g)))] → va_S A s.heap H locs → lv_has ls 3 [(0, .ref h0), (1, .int (nI j)), (2, .int (nI k))] → W p l e ({ frames := 4, cells := 6, slots := 16049, locals := 85 } : Room) s m args below meth c H locs 6 16049 Q (F0 m 59 ls []) := by
  intro d
  induction d with
  | zero =>
    intro k j hk hj g H locs ls hP hD hS hl
    refine lv_iload_n hx hb dX9_init_59 rfl (lv_at hl 2 rfl) ?_
    refine lv_bipush (v := 39) hx hb dX9_init_60 (by decide) ?_
    refine lv_icmp_ge (tgt := 107) hx hb dX9_init_62 (by decide) (fun c9 => ?_) (fun c9 => absurd (show (39 : Int32) ≤ nI k from by rw [show k = 39 by omega]; decide) c9)
    exact hexit g j k _ _ ls hP hD hS hl
  | succ d ih =>
    intro k j hk hj g H locs ls hP hD hS hl
    refine lv_iload_n hx hb dX9_init_59 rfl (lv_at hl 2 rfl) ?_
    refine lv_bipush (v := 39) hx hb dX9_init_60 (by decide) ?_
    refine lv_icmp_ge (tgt := 107) hx hb dX9_init_62 (by decide) (fun c9 => absurd c9 (show ¬ (39 : Int32) ≤ nI k from nI_ge (b := 39) (by omega) (by decide))) (fun c9 => ?_)
    refine lv_aload_n hx hb dX9_init_65 rfl (lv_at hl 0 rfl) ?_
    refine va_get (D := (dC, dI)) (ci := 9) (v := .ref a5) (C := RX9) (T := TX9) (N := 11) hx hb hts (by decide +kernel) hown hK hP 0 rfl rfl 4 (by decide) (hts (.fieldLink RX9 26 "ProofBench$Tape" "formAt" "[I") (by decide +kernel)) (fun _ h9 => h9) rfl dX9_init_66 ?_
    refine lv_iload_n hx hb dX9_init_69 rfl (lv_at hl 2 rfl) ?_
    refine lv_iload_n hx hb dX9_init_70 rfl (lv_at hl 1 rfl) ?_
    refine va_iast hx hb hK hP hD hS 5 4 rfl rfl (vp_in_nI (N := 39) (by omega) (by decide)) dX9_init_71 (fun H locs hP hD hS => ?_)
    obtain ⟨f_1, hP, hD⟩ : ∃ f9 : Nat → Int32, va_P (dC, dI) vwCl [(h0, .inr (9, [.ref a1, .ref a2, .ref a3, .ref a4, .ref a5, .ref a6, .int 0, .int 0, .int 0, .int 0, .int 0])), (a1, .inl (cA1, 4000, .inl (fun _ => 0))), (a2, .inl (cA2, 4002, .inl (fun _ => 0))), (a3, .inl (cA3, 4002, .inl (fun _ => 0))), (a4, .inl (cA4, 4002, .inr (.inl (fun _ => 0)))), (a5, .inl (cA5, 39, .inl (f9)))] H ∧ va_D A [(h0, .inr (9, [.ref a1, .ref a2, .ref a3, .ref a4, .ref a5, .ref a6, .int 0, .int 0, .int 0, .int 0, .int 0])), (a1, .inl (cA1, 4000, .inl (fun _ => 0))), (a2, .inl (cA2, 4002, .inl (fun _ => 0))), (a3, .inl (cA3, 4002, .inl (fun _ => 0))), (a4, .inl (cA4, 4002, .inr (.inl (fun _ => 0)))), (a5, .inl (cA5, 39, .inl (f9)))] := ⟨_, hP, hD⟩
    refine lp_tapeIn hn hx hb hml hown hts hA hR hst hK (M := n + k) (by omega) (by omega) (fun j2 H locs ls hj2 hP hD hS hl => ?_) n j (by omega) hj _ _ ls hP hD hS hl
    refine lv_iinc (v := nI (j2 + 1)) (lv' := [(1, .int (nI (j2 + 1))), (0, .ref h0), (2, .int (nI k))]) hx hb dX9_init_98 hl (k := 1) rfl (by rw [← nI_1]; rfl) (by decide) rfl (fun ls hl => ?_)
    refine lv_iinc (v := nI (k + 1)) (lv' := [(2, .int (nI (k + 1))), (1, .int (nI (j2 + 1))), (0, .ref h0)]) hx hb dX9_init_101 hl (k := 2) rfl (by rw [← nI_1]; rfl) (by decide) rfl (fun ls hl => ?_)
    refine lv_goto (tgt := 59) hx hb dX9_init_104 (by decide) ?_
    exact ih (k + 1) (j2 + 1) (by omega) (by omega) _ _ _ ls hP hD hS (lv_sub hl [2, 1, 0] rfl)
set_option maxHeartbeats 1000000 in
set_option maxRecDepth 100000 in
/-- Tape(): empty -/
theorem c_Tape_init (l : Launch) (dC : Nat → ClassId) (dI : Nat → Nat → Nat) (sz : Nat) (h0 b v n : Nat) (f : Nat → Int32) (hn : n < 2 ^ 30) : Met l yX9_init wsX9_init ({ frames := 4, cells := 6, slots := 16049, locals := 85 }) (va_Pc [.ref h0] (fun U => U.heap.size = sz ∧ va_P (dC, dI) vwCl [(h0, .inr (9, [.null, .null, .null, .null, .null, .null, .int 0, .int 0, .int 0, .int 0, .int 0]))] U.heap ∧ va_K (dC, dI) vwCl [] U ∧ va_D (fun _ => True) [(h0, .inr (9, [.null, .null, .null, .null, .null, .null, .int 0, .int 0, .int 0, .int 0, .int 0]))] ∧ vk_R RX9 32 "SORT a;FUN aSs;REL aS;VAR as;AXIOM aF;DEFINE aVF;PROOF ;THEOREM a;SHOW p;FROM pk;TELL t;ALIKE XX;PUT FvU;SIZE sz;ZERO o;VALUE fKw;HOLDS rK;LACKS rK;JUDGE F;ASSUME F;BOTH pp;LEFT p;RIGHT p;FIRST pF;SECOND pF;CASE ppp;APPLY pp;DISCHARGE pF;GENERALISE pv;SPECIALISE pT;WITNESS pTF;OPEN ppv;SAME T;REPLACE ppvF;ABSURD pF;INDUCTION ppiF;COUNT c;USE t;SEARCH F*;" b U ∧ st_S b v n f (va_A [(h0, .inr (9, [.null, .null, .null, .null, .null, .null, .int 0, .int 0, .int 0, .int 0, .int 0]))] sz) U U.heap)) (va_Qv (fun _ : Unit => True) (fun _ t => ∃ (q_1 q_3 q_5 q_7 q_9 q_11 : Nat) (cA_2 cA_4 cA_6 cA_8 : ClassId), va_P (dC, dI) vwCl [(h0, .inr (9, [.ref q_1, .ref q_3, .ref q_5, .ref q_7, .ref q_9, .ref q_11, .int 0, .int 0, .int 0, .int 0, .int 0])), (q_1, .inl (cA_2, 4000, .inl (fun _ => 0))), (q_3, .inl (cA_4, 4002, .inl (fun _ => 0))), (q_5, .inl (cA_6, 4002, .inl (fun _ => 0))), (q_7, .inl (cA_8, 4002, .inr (.inl (fun _ => 0))))] t.heap ∧ va_K (dC, dI) vwCl [(cA_2, .byte), (cA_4, .int), (cA_6, .int), (cA_8, .long)] t ∧ va_D (va_A [(h0, .inr (9, [.null, .null, .null, .null, .null, .null, .int 0, .int 0, .int 0, .int 0, .int 0]))] sz) [(h0, .inr (9, [.ref q_1, .ref q_3, .ref q_5, .ref q_7, .ref q_9, .ref q_11, .int 0, .int 0, .int 0, .int 0, .int 0])), (q_1, .inl (cA_2, 4000, .inl (fun _ => 0))), (q_3, .inl (cA_4, 4002, .inl (fun _ => 0))), (q_5, .inl (cA_6, 4002, .inl (fun _ => 0))), (q_7, .inl (cA_8, 4002, .inr (.inl (fun _ => 0))))]) (va_A [(h0, .inr (9, [.null, .null, .null, .null, .null, .null, .int 0, .int 0, .int 0, .int 0, .int 0]))] sz)) (6) (16049) (va_A [(h0, .inr (9, [.null, .null, .null, .null, .null, .null, .int 0, .int 0, .int 0, .int 0, .int 0]))] sz) := by
  refine Met.ofW (cc := cX9_init) (maxL := 3) (ret := none) (by decide) rfl ?_
  intro p e s m args below meth c s₁ B hml hv
  obtain ⟨rfl, hsz, hP, hK, hD0, hR, hst⟩ := hv
  have hx := B.exec
  have hb := B.bytes
  have hr := B.returns
  have hts := atoms_spec (ws := wsX9_init) B.pre
  have hown : s.vm.findClass RX9 = some m.cls := findClass_of_methodNamed B.named
  have hlocks := B.notSynchronized
  have hin : meth.name = "<init>" := (name_of_methodNamed B.named B.method).1
  subst hsz
  have hD := hD0.self (sz := s.heap.size)
  generalize hAe : va_A [(h0, .inr (9, [.null, .null, .null, .null, .null, .null, .int 0, .int 0, .int 0, .int 0, .int 0]))] s.heap.size = A at hD hst ⊢
  have hA : ∀ q : Nat, s.heap.size ≤ q → A q := fun q h => by rw [← hAe]; exact Or.inr h
  have hS : va_S A s.heap s.heap [] := va_S.rf
  have hl := lv_entry ([.ref h0]) (n := 3) (Nat.le_of_ble_eq_true rfl)
  rw [lg_entry_eq]
  generalize (lg_sl ([.ref h0]) ++ List.replicate (3 - (lg_sl ([.ref h0])).length) Slot.unset).toArray = ls at hl ⊢
  have hl : lv_has ls 3 [(0, .ref h0)] := hl
  refine lv_aload_n hx hb dX9_init_0 rfl (lv_at hl 0 rfl) ?_
  refine W.objInit hx hb hown (hts (.methodLink RX9 3 objectInit) (by decide +kernel)) (hts (.instanceMethod objectInit) (by decide +kernel)) (hts (.code objectInit ⟨#[0xb1]⟩ 1 none) (by decide +kernel)) rfl (by rw [hml]; exact hl.1) rfl dX9_init_1 (Nat.le_of_ble_eq_true rfl) (Nat.le_of_ble_eq_true rfl) ?_
  refine W.eq (g2 := F0 m 4 ls []) rfl ?_
  refine lv_aload_n hx hb dX9_init_4 rfl (lv_at hl 0 rfl) ?_
  refine lv_sipush (v := 4000) hx hb dX9_init_5 (by decide) ?_
  refine va_newa (atype := .byte) (n := 4000) (N' := 4000) (ty := .byte) (a0 := (4000, .inl (fun _ => 0))) hx hb (hts (.arrayClass .byte) (by decide +kernel)) rfl hK hP hD hS hA (fun _ => rfl) (by decide) (by decide) (by decide) (show 0 + 1 ≤ 6 by omega) (show 0 + 4000 ≤ 16049 by omega) dX9_init_8 (fun q_1 cA_2 H hK hP hD hS => ?_)
  have hP : va_P (dC, dI) vwCl [(h0, .inr (9, [.null, .null, .null, .null, .null, .null, .int 0, .int 0, .int 0, .int 0, .int 0])), (q_1, .inl (cA_2, 4000, .inl (fun _ => 0)))] H := hP
  have hD : va_D A [(h0, .inr (9, [.null, .null, .null, .null, .null, .null, .int 0, .int 0, .int 0, .int 0, .int 0])), (q_1, .inl (cA_2, 4000, .inl (fun _ => 0)))] := hD
  have hK : va_K (dC, dI) vwCl [(cA_2, .byte)] s := hK
  refine W.widen (k := 1) (n := 4000) (by omega) (by omega) ?_
  refine va_putF (D := (dC, dI)) (ci := 9) (v := .ref q_1) (ty := .array .byte) (C := RX9) (T := TX9) (N := 11) hx hb hts (by decide +kernel) tyX9 tyX9_ok nmX9 hown hK hP hD hS 0 rfl rfl 0 (by decide) (hts (.fieldLink RX9 9 "ProofBench$Tape" "bytes" "[B") (by decide +kernel)) (fun _ h9 => h9) rfl hin rfl (by decide +kernel) rfl rfl (Nat.le_of_ble_eq_true rfl) dX9_init_10 (fun H locs hP hD hS => ?_)
  have hP : va_P (dC, dI) vwCl [(h0, .inr (9, [.ref q_1, .null, .null, .null, .null, .null, .int 0, .int 0, .int 0, .int 0, .int 0])), (q_1, .inl (cA_2, 4000, .inl (fun _ => 0)))] H := hP
  have hD : va_D A [(h0, .inr (9, [.ref q_1, .null, .null, .null, .null, .null, .int 0, .int 0, .int 0, .int 0, .int 0])), (q_1, .inl (cA_2, 4000, .inl (fun _ => 0)))] := hD
  refine lv_aload_n hx hb dX9_init_13 rfl (lv_at hl 0 rfl) ?_
  refine lv_sipush (v := 4002) hx hb dX9_init_14 (by decide) ?_
  refine va_newa (atype := .int) (n := 4002) (N' := 4002) (ty := .int) (a0 := (4002, .inl (fun _ => 0))) hx hb (hts (.arrayClass .int) (by decide +kernel)) rfl hK hP hD hS hA (fun _ => rfl) (by decide) (by decide) (by decide) (show 1 + 1 ≤ 6 by omega) (show 4000 + 4002 ≤ 16049 by omega) dX9_init_17 (fun q_3 cA_4 H hK hP hD hS => ?_)
  have hP : va_P (dC, dI) vwCl [(h0, .inr (9, [.ref q_1, .null, .null, .null, .null, .null, .int 0, .int 0, .int 0, .int 0, .int 0])), (q_1, .inl (cA_2, 4000, .inl (fun _ => 0))), (q_3, .inl (cA_4, 4002, .inl (fun _ => 0)))] H := hP
  have hD : va_D A [(h0, .inr (9, [.ref q_1, .null, .null, .null, .null, .null, .int 0, .int 0, .int 0, .int 0, .int 0])), (q_1, .inl (cA_2, 4000, .inl (fun _ => 0))), (q_3, .inl (cA_4, 4002, .inl (fun _ => 0)))] := hD
  have hK : va_K (dC, dI) vwCl [(cA_2, .byte), (cA_4, .int)] s := hK
  refine W.widen (k := 2) (n := 8002) (by omega) (by omega) ?_
  refine va_putF (D := (dC, dI)) (ci := 9) (v := .ref q_3) (ty := .array .int) (C := RX9) (T := TX9) (N := 11) hx hb hts (by decide +kernel) tyX9 tyX9_ok nmX9 hown hK hP hD hS 0 rfl rfl 1 (by decide) (hts (.fieldLink RX9 15 "ProofBench$Tape" "kinds" "[I") (by decide +kernel)) (fun _ h9 => h9) rfl hin rfl (by decide +kernel) rfl rfl (Nat.le_of_ble_eq_true rfl) dX9_init_19 (fun H locs hP hD hS => ?_)
  have hP : va_P (dC, dI) vwCl [(h0, .inr (9, [.ref q_1, .ref q_3, .null, .null, .null, .null, .int 0, .int 0, .int 0, .int 0, .int 0])), (q_1, .inl (cA_2, 4000, .inl (fun _ => 0))), (q_3, .inl (cA_4, 4002, .inl (fun _ => 0)))] H := hP
  have hD : va_D A [(h0, .inr (9, [.ref q_1, .ref q_3, .null, .null, .null, .null, .int 0, .int 0, .int 0, .int 0, .int 0])), (q_1, .inl (cA_2, 4000, .inl (fun _ => 0))), (q_3, .inl (cA_4, 4002, .inl (fun _ => 0)))] := hD
  refine lv_aload_n hx hb dX9_init_22 rfl (lv_at hl 0 rfl) ?_
  refine lv_sipush (v := 4002) hx hb dX9_init_23 (by decide) ?_
  refine va_newa (atype := .int) (n := 4002) (N' := 4002) (ty := .int) (a0 := (4002, .inl (fun _ => 0))) hx hb (hts (.arrayClass .int) (by decide +kernel)) rfl hK hP hD hS hA (fun _ => rfl) (by decide) (by decide) (by decide) (show 2 + 1 ≤ 6 by omega) (show 8002 + 4002 ≤ 16049 by omega) dX9_init_26 (fun q_5 cA_6 H hK hP hD hS => ?_)
  have hP : va_P (dC, dI) vwCl [(h0, .inr (9, [.ref q_1, .ref q_3, .null, .null, .null, .null, .int 0, .int 0, .int 0, .int 0, .int 0])), (q_1, .inl (cA_2, 4000, .inl (fun _ => 0))), (q_3, .inl (cA_4, 4002, .inl (fun _ => 0))), (q_5, .inl (cA_6, 4002, .inl (fun _ => 0)))] H := hP
  have hD : va_D A [(h0, .inr (9, [.ref q_1, .ref q_3, .null, .null, .null, .null, .int 0, .int 0, .int 0, .int 0, .int 0])), (q_1, .inl (cA_2, 4000, .inl (fun _ => 0))), (q_3, .inl (cA_4, 4002, .inl (fun _ => 0))), (q_5, .inl (cA_6, 4002, .inl (fun _ => 0)))] := hD
  have hK : va_K (dC, dI) vwCl [(cA_2, .byte), (cA_4, .int), (cA_6, .int)] s := hK
  refine W.widen (k := 3) (n := 12004) (by omega) (by omega) ?_
  refine va_putF (D := (dC, dI)) (ci := 9) (v := .ref q_5) (ty := .array .int) (C := RX9) (T := TX9) (N := 11) hx hb hts (by decide +kernel) tyX9 tyX9_ok nmX9 hown hK hP hD hS 0 rfl rfl 2 (by decide) (hts (.fieldLink RX9 19 "ProofBench$Tape" "starts" "[I") (by decide +kernel)) (fun _ h9 => h9) rfl hin rfl (by decide +kernel) rfl rfl (Nat.le_of_ble_eq_true rfl) dX9_init_28 (fun H locs hP hD hS => ?_)
  have hP : va_P (dC, dI) vwCl [(h0, .inr (9, [.ref q_1, .ref q_3, .ref q_5, .null, .null, .null, .int 0, .int 0, .int 0, .int 0, .int 0])), (q_1, .inl (cA_2, 4000, .inl (fun _ => 0))), (q_3, .inl (cA_4, 4002, .inl (fun _ => 0))), (q_5, .inl (cA_6, 4002, .inl (fun _ => 0)))] H := hP
  have hD : va_D A [(h0, .inr (9, [.ref q_1, .ref q_3, .ref q_5, .null, .null, .null, .int 0, .int 0, .int 0, .int 0, .int 0])), (q_1, .inl (cA_2, 4000, .inl (fun _ => 0))), (q_3, .inl (cA_4, 4002, .inl (fun _ => 0))), (q_5, .inl (cA_6, 4002, .inl (fun _ => 0)))] := hD
  refine lv_aload_n hx hb dX9_init_31 rfl (lv_at hl 0 rfl) ?_
  refine lv_sipush (v := 4002) hx hb dX9_init_32 (by decide) ?_
  refine va_newa (atype := .long) (n := 4002) (N' := 4002) (ty := .long) (a0 := (4002, .inr (.inl (fun _ => 0)))) hx hb (hts (.arrayClass .long) (by decide +kernel)) rfl hK hP hD hS hA (fun _ => rfl) (by decide) (by decide) (by decide) (show 3 + 1 ≤ 6 by omega) (show 12004 + 4002 ≤ 16049 by omega) dX9_init_35 (fun q_7 cA_8 H hK hP hD hS => ?_)
  have hP : va_P (dC, dI) vwCl [(h0, .inr (9, [.ref q_1, .ref q_3, .ref q_5, .null, .null, .null, .int 0, .int 0, .int 0, .int 0, .int 0])), (q_1, .inl (cA_2, 4000, .inl (fun _ => 0))), (q_3, .inl (cA_4, 4002, .inl (fun _ => 0))), (q_5, .inl (cA_6, 4002, .inl (fun _ => 0))), (q_7, .inl (cA_8, 4002, .inr (.inl (fun _ => 0))))] H := hP
  have hD : va_D A [(h0, .inr (9, [.ref q_1, .ref q_3, .ref q_5, .null, .null, .null, .int 0, .int 0, .int 0, .int 0, .int 0])), (q_1, .inl (cA_2, 4000, .inl (fun _ => 0))), (q_3, .inl (cA_4, 4002, .inl (fun _ => 0))), (q_5, .inl (cA_6, 4002, .inl (fun _ => 0))), (q_7, .inl (cA_8, 4002, .inr (.inl (fun _ => 0))))] := hD
  have hK : va_K (dC, dI) vwCl [(cA_2, .byte), (cA_4, .int), (cA_6, .int), (cA_8, .long)] s := hK
  refine W.widen (k := 4) (n := 16006) (by omega) (by omega) ?_
  refine va_putF (D := (dC, dI)) (ci := 9) (v := .ref q_7) (ty := .array .long) (C := RX9) (T := TX9) (N := 11) hx hb hts (by decide +kernel) tyX9 tyX9_ok nmX9 hown hK hP hD hS 0 rfl rfl 3 (by decide) (hts (.fieldLink RX9 22 "ProofBench$Tape" "worths" "[J") (by decide +kernel)) (fun _ h9 => h9) rfl hin rfl (by decide +kernel) rfl rfl (Nat.le_of_ble_eq_true rfl) dX9_init_37 (fun H locs hP hD hS => ?_)
  have hP : va_P (dC, dI) vwCl [(h0, .inr (9, [.ref q_1, .ref q_3, .ref q_5, .ref q_7, .null, .null, .int 0, .int 0, .int 0, .int 0, .int 0])), (q_1, .inl (cA_2, 4000, .inl (fun _ => 0))), (q_3, .inl (cA_4, 4002, .inl (fun _ => 0))), (q_5, .inl (cA_6, 4002, .inl (fun _ => 0))), (q_7, .inl (cA_8, 4002, .inr (.inl (fun _ => 0))))] H := hP
  have hD : va_D A [(h0, .inr (9, [.ref q_1, .ref q_3, .ref q_5, .ref q_7, .null, .null, .int 0, .int 0, .int 0, .int 0, .int 0])), (q_1, .inl (cA_2, 4000, .inl (fun _ => 0))), (q_3, .inl (cA_4, 4002, .inl (fun _ => 0))), (q_5, .inl (cA_6, 4002, .inl (fun _ => 0))), (q_7, .inl (cA_8, 4002, .inr (.inl (fun _ => 0))))] := hD
  refine lv_aload_n hx hb dX9_init_40 rfl (lv_at hl 0 rfl) ?_
  refine lv_bipush (v := 39) hx hb dX9_init_41 (by decide) ?_
  refine va_newa (atype := .int) (n := 39) (N' := 39) (ty := .int) (a0 := (39, .inl (fun _ => 0))) hx hb (hts (.arrayClass .int) (by decide +kernel)) rfl hK hP hD hS hA (fun _ => rfl) (by decide) (by decide) (by decide) (show 4 + 1 ≤ 6 by omega) (show 16006 + 39 ≤ 16049 by omega) dX9_init_43 (fun q_9 cA_10 H hK hP hD hS => ?_)
  have hP : va_P (dC, dI) vwCl [(h0, .inr (9, [.ref q_1, .ref q_3, .ref q_5, .ref q_7, .null, .null, .int 0, .int 0, .int 0, .int 0, .int 0])), (q_1, .inl (cA_2, 4000, .inl (fun _ => 0))), (q_3, .inl (cA_4, 4002, .inl (fun _ => 0))), (q_5, .inl (cA_6, 4002, .inl (fun _ => 0))), (q_7, .inl (cA_8, 4002, .inr (.inl (fun _ => 0)))), (q_9, .inl (cA_10, 39, .inl (fun _ => 0)))] H := hP
  have hD : va_D A [(h0, .inr (9, [.ref q_1, .ref q_3, .ref q_5, .ref q_7, .null, .null, .int 0, .int 0, .int 0, .int 0, .int 0])), (q_1, .inl (cA_2, 4000, .inl (fun _ => 0))), (q_3, .inl (cA_4, 4002, .inl (fun _ => 0))), (q_5, .inl (cA_6, 4002, .inl (fun _ => 0))), (q_7, .inl (cA_8, 4002, .inr (.inl (fun _ => 0)))), (q_9, .inl (cA_10, 39, .inl (fun _ => 0)))] := hD
  have hK : va_K (dC, dI) vwCl [(cA_2, .byte), (cA_4, .int), (cA_6, .int), (cA_8, .long), (cA_10, .int)] s := hK
  refine W.widen (k := 5) (n := 16045) (by omega) (by omega) ?_
  refine va_putF (D := (dC, dI)) (ci := 9) (v := .ref q_9) (ty := .array .int) (C := RX9) (T := TX9) (N := 11) hx hb hts (by decide +kernel) tyX9 tyX9_ok nmX9 hown hK hP hD hS 0 rfl rfl 4 (by decide) (hts (.fieldLink RX9 26 "ProofBench$Tape" "formAt" "[I") (by decide +kernel)) (fun _ h9 => h9) rfl hin rfl (by decide +kernel) rfl rfl (Nat.le_of_ble_eq_true rfl) dX9_init_45 (fun H locs hP hD hS => ?_)
  have hP : va_P (dC, dI) vwCl [(h0, .inr (9, [.ref q_1, .ref q_3, .ref q_5, .ref q_7, .ref q_9, .null, .int 0, .int 0, .int 0, .int 0, .int 0])), (q_1, .inl (cA_2, 4000, .inl (fun _ => 0))), (q_3, .inl (cA_4, 4002, .inl (fun _ => 0))), (q_5, .inl (cA_6, 4002, .inl (fun _ => 0))), (q_7, .inl (cA_8, 4002, .inr (.inl (fun _ => 0)))), (q_9, .inl (cA_10, 39, .inl (fun _ => 0)))] H := hP
  have hD : va_D A [(h0, .inr (9, [.ref q_1, .ref q_3, .ref q_5, .ref q_7, .ref q_9, .null, .int 0, .int 0, .int 0, .int 0, .int 0])), (q_1, .inl (cA_2, 4000, .inl (fun _ => 0))), (q_3, .inl (cA_4, 4002, .inl (fun _ => 0))), (q_5, .inl (cA_6, 4002, .inl (fun _ => 0))), (q_7, .inl (cA_8, 4002, .inr (.inl (fun _ => 0)))), (q_9, .inl (cA_10, 39, .inl (fun _ => 0)))] := hD
  refine lv_aload_n hx hb dX9_init_48 rfl (lv_at hl 0 rfl) ?_
  refine lv_iconst (v := 4) hx hb dX9_init_49 (by decide) ?_
  refine va_newa (atype := .int) (n := 4) (N' := 4) (ty := .int) (a0 := (4, .inl (fun _ => 0))) hx hb (hts (.arrayClass .int) (by decide +kernel)) rfl hK hP hD hS hA (fun _ => rfl) (by decide) (by decide) (by decide) (show 5 + 1 ≤ 6 by omega) (show 16045 + 4 ≤ 16049 by omega) dX9_init_50 (fun q_11 cA_12 H hK hP hD hS => ?_)
  have hP : va_P (dC, dI) vwCl [(h0, .inr (9, [.ref q_1, .ref q_3, .ref q_5, .ref q_7, .ref q_9, .null, .int 0, .int 0, .int 0, .int 0, .int 0])), (q_1, .inl (cA_2, 4000, .inl (fun _ => 0))), (q_3, .inl (cA_4, 4002, .inl (fun _ => 0))), (q_5, .inl (cA_6, 4002, .inl (fun _ => 0))), (q_7, .inl (cA_8, 4002, .inr (.inl (fun _ => 0)))), (q_9, .inl (cA_10, 39, .inl (fun _ => 0))), (q_11, .inl (cA_12, 4, .inl (fun _ => 0)))] H := hP
  have hD : va_D A [(h0, .inr (9, [.ref q_1, .ref q_3, .ref q_5, .ref q_7, .ref q_9, .null, .int 0, .int 0, .int 0, .int 0, .int 0])), (q_1, .inl (cA_2, 4000, .inl (fun _ => 0))), (q_3, .inl (cA_4, 4002, .inl (fun _ => 0))), (q_5, .inl (cA_6, 4002, .inl (fun _ => 0))), (q_7, .inl (cA_8, 4002, .inr (.inl (fun _ => 0)))), (q_9, .inl (cA_10, 39, .inl (fun _ => 0))), (q_11, .inl (cA_12, 4, .inl (fun _ => 0)))] := hD
  have hK : va_K (dC, dI) vwCl [(cA_2, .byte), (cA_4, .int), (cA_6, .int), (cA_8, .long), (cA_10, .int), (cA_12, .int)] s := hK
  refine W.widen (k := 6) (n := 16049) (by omega) (by omega) ?_
  refine va_putF (D := (dC, dI)) (ci := 9) (v := .ref q_11) (ty := .array .int) (C := RX9) (T := TX9) (N := 11) hx hb hts (by decide +kernel) tyX9 tyX9_ok nmX9 hown hK hP hD hS 0 rfl rfl 5 (by decide) (hts (.fieldLink RX9 29 "ProofBench$Tape" "operandAt" "[I") (by decide +kernel)) (fun _ h9 => h9) rfl hin rfl (by decide +kernel) rfl rfl (Nat.le_of_ble_eq_true rfl) dX9_init_52 (fun H locs hP hD hS => ?_)
  have hP : va_P (dC, dI) vwCl [(h0, .inr (9, [.ref q_1, .ref q_3, .ref q_5, .ref q_7, .ref q_9, .ref q_11, .int 0, .int 0, .int 0, .int 0, .int 0])), (q_1, .inl (cA_2, 4000, .inl (fun _ => 0))), (q_3, .inl (cA_4, 4002, .inl (fun _ => 0))), (q_5, .inl (cA_6, 4002, .inl (fun _ => 0))), (q_7, .inl (cA_8, 4002, .inr (.inl (fun _ => 0)))), (q_9, .inl (cA_10, 39, .inl (fun _ => 0))), (q_11, .inl (cA_12, 4, .inl (fun _ => 0)))] H := hP
  have hD : va_D A [(h0, .inr (9, [.ref q_1, .ref q_3, .ref q_5, .ref q_7, .ref q_9, .ref q_11, .int 0, .int 0, .int 0, .int 0, .int 0])), (q_1, .inl (cA_2, 4000, .inl (fun _ => 0))), (q_3, .inl (cA_4, 4002, .inl (fun _ => 0))), (q_5, .inl (cA_6, 4002, .inl (fun _ => 0))), (q_7, .inl (cA_8, 4002, .inr (.inl (fun _ => 0)))), (q_9, .inl (cA_10, 39, .inl (fun _ => 0))), (q_11, .inl (cA_12, 4, .inl (fun _ => 0)))] := hD
  refine lv_iconst (v := 0) hx hb dX9_init_55 (by decide) ?_
  refine lv_istore_n (lv' := [(1, .int 0), (0, .ref h0)]) hx hb dX9_init_56 rfl hl (by decide) rfl (fun ls hl => ?_)
  refine lv_iconst (v := 0) hx hb dX9_init_57 (by decide) ?_
  refine lv_istore_n (lv' := [(2, .int 0), (1, .int 0), (0, .ref h0)]) hx hb dX9_init_58 rfl hl (by decide) rfl (fun ls hl => ?_)
  have hP := hP.sub (ws' := [(h0, .inr (9, [.ref q_1, .ref q_3, .ref q_5, .ref q_7, .ref q_9, .ref q_11, .int 0, .int 0, .int 0, .int 0, .int 0])), (q_1, .inl (cA_2, 4000, .inl (fun _ => 0))), (q_3, .inl (cA_4, 4002, .inl (fun _ => 0))), (q_5, .inl (cA_6, 4002, .inl (fun _ => 0))), (q_7, .inl (cA_8, 4002, .inr (.inl (fun _ => 0)))), (q_9, .inl (cA_10, 39, .inl (fun _ => 0)))]) [0, 1, 2, 3, 4, 5] rfl
  have hD := hD.sub (ws' := [(h0, .inr (9, [.ref q_1, .ref q_3, .ref q_5, .ref q_7, .ref q_9, .ref q_11, .int 0, .int 0, .int 0, .int 0, .int 0])), (q_1, .inl (cA_2, 4000, .inl (fun _ => 0))), (q_3, .inl (cA_4, 4002, .inl (fun _ => 0))), (q_5, .inl (cA_6, 4002, .inl (fun _ => 0))), (q_7, .inl (cA_8, 4002, .inr (.inl (fun _ => 0)))), (q_9, .inl (cA_10, 39, .inl (fun _ => 0)))]) [0, 1, 2, 3, 4, 5] (by decide) rfl
  have hK := hK.sub (tys' := [(cA_2, .byte), (cA_4, .int), (cA_6, .int), (cA_8, .long), (cA_10, .int)]) [0, 1, 2, 3, 4] rfl
  refine W.widen (k := 6) (n := 16049) (by omega) (by omega) ?_
  refine lp_tapeOut hn hx hb hml hown hts hA hR hst hK (fun g j k H locs ls hP hD hS hl => ?_) 39 0 0 (by omega) (by omega) _ _ _ ls hP hD hS (lv_sub hl [2, 1, 0] rfl)
  have hP9 := hP.sub (ws' := [(h0, .inr (9, [.ref q_1, .ref q_3, .ref q_5, .ref q_7, .ref q_9, .ref q_11, .int 0, .int 0, .int 0, .int 0, .int 0])), (q_1, .inl (cA_2, 4000, .inl (fun _ => 0))), (q_3, .inl (cA_4, 4002, .inl (fun _ => 0))), (q_5, .inl (cA_6, 4002, .inl (fun _ => 0))), (q_7, .inl (cA_8, 4002, .inr (.inl (fun _ => 0))))]) [0, 1, 2, 3, 4] rfl
  have hD9 := hD.sub (ws' := [(h0, .inr (9, [.ref q_1, .ref q_3, .ref q_5, .ref q_7, .ref q_9, .ref q_11, .int 0, .int 0, .int 0, .int 0, .int 0])), (q_1, .inl (cA_2, 4000, .inl (fun _ => 0))), (q_3, .inl (cA_4, 4002, .inl (fun _ => 0))), (q_5, .inl (cA_6, 4002, .inl (fun _ => 0))), (q_7, .inl (cA_8, 4002, .inr (.inl (fun _ => 0))))]) [0, 1, 2, 3, 4] (by decide) rfl
  have hK9 := hK.sub (tys' := [(cA_2, .byte), (cA_4, .int), (cA_6, .int), (cA_8, .long)]) [0, 1, 2, 3] rfl
  refine W.widen (k := 6) (n := 16049) (by omega) (by omega) ?_
  exact W.vret hx hb hr (fun t ht hW => ⟨⟨(), rfl, trivial, q_1, q_3, q_5, q_7, q_9, q_11, cA_2, cA_4, cA_6, cA_8, by rw [ht]; exact hP9, va_K.moved hW.alike hK9, hD9⟩, hS.F ht⟩) hS.2.2 dX9_init_107
end
section
abbrev cX11_init : ByteArray := prog_1_method_1_code
def yX11_init : MethodName := ⟨RX11, "<init>", "()V"⟩
def wsX11_init_r1 : List Cond := [Cond.methodLink RX11 1 objectInit, Cond.instanceMethod objectInit, Cond.code objectInit ⟨#[0xb1]⟩ 1 none, Cond.classLink RX11 7 RX9, Cond.instantiable RX9 11, Cond.initialized RX9, Cond.fieldLink RX11 10 "ProofBench" "tape" "LProofBench$Tape;", Cond.classLink RX11 16 RX3, Cond.instantiable RX3 5, Cond.initialized RX3, Cond.fieldLink RX11 19 "ProofBench" "names" "LProofBench$Names;", Cond.classLink RX11 23 RX0, Cond.instantiable RX0 9, Cond.initialized RX0, Cond.fieldLink RX11 28 "ProofBench" "forms" "LProofBench$Forms;", Cond.classLink RX11 32 RX2, Cond.instantiable RX2 6, Cond.initialized RX2, Cond.fieldLink RX11 37 "ProofBench" "model" "LProofBench$Model;", Cond.classLink RX11 41 RX1, Cond.instantiable RX1 12, Cond.initialized RX1, Cond.fieldLink RX11 46 "ProofBench" "look" "LProofBench$Look;", Cond.classLink RX11 50 RX5]
def wsX11_init_r2 : List Cond := [Cond.instantiable RX5 17, Cond.initialized RX5, Cond.fieldLink RX11 55 "ProofBench" "proof" "LProofBench$Proof;", Cond.classLink RX11 59 RX4, Cond.instantiable RX4 5, Cond.initialized RX4, Cond.fieldLink RX11 62 "ProofBench" "said" "LProofBench$Out;", Cond.arrayClass .int, Cond.fieldLink RX11 66 "ProofBench" "refused" "[I", Cond.fieldLink RX11 70 "ProofBench" "wrongAt" "I", Cond.methodLink RX11 9 yX9_init, Cond.instanceMethod yX9_init, Cond.code yX9_init cX9_init 3 none, Cond.methodLink RX9 3 objectInit, Cond.arrayClass .byte, Cond.fieldLink RX9 9 "ProofBench$Tape" "bytes" "[B", Cond.fieldLink RX9 15 "ProofBench$Tape" "kinds" "[I", Cond.fieldLink RX9 19 "ProofBench$Tape" "starts" "[I", Cond.arrayClass .long, Cond.fieldLink RX9 22 "ProofBench$Tape" "worths" "[J", Cond.fieldLink RX9 26 "ProofBench$Tape" "formAt" "[I", Cond.fieldLink RX9 29 "ProofBench$Tape" "operandAt" "[I", Cond.methodLink RX9 34 yJ0_length_8abf5, Cond.instanceMethod yJ0_length_8abf5]
def wsX11_init_r3 : List Cond := [Cond.selects RJ0 yJ0_length_8abf5 yJ0_length_8abf5, Cond.initialized RJ0, Cond.code yJ0_length_8abf5 cJ0_length_8abf5 1 (some .int), Cond.fieldLink RJ0 9 "java/lang/String" "value" "[B", Cond.methodLink RJ0 335 yJ0_coder_7d493, Cond.instanceMethod yJ0_coder_7d493, Cond.selects RJ0 yJ0_coder_7d493 yJ0_coder_7d493, Cond.code yJ0_coder_7d493 cJ0_coder_7d493 1 (some .byte), Cond.fieldLink RJ0 38 "java/lang/String" "COMPACT_STRINGS" "Z", Cond.fieldLink RJ0 15 "java/lang/String" "coder" "B", Cond.methodLink RX9 40 yJ0_charAt_5068e, Cond.instanceMethod yJ0_charAt_5068e, Cond.selects RJ0 yJ0_charAt_5068e yJ0_charAt_5068e, Cond.code yJ0_charAt_5068e cJ0_charAt_5068e 2 (some .char), Cond.methodLink RJ0 492 yJ0_isLatin1_aae02, Cond.instanceMethod yJ0_isLatin1_aae02, Cond.selects RJ0 yJ0_isLatin1_aae02 yJ0_isLatin1_aae02, Cond.code yJ0_isLatin1_aae02 cJ0_isLatin1_aae02 1 (some .boolean), Cond.methodLink RJ0 495 yJ1_charAt_3b067, Cond.static yJ1_charAt_3b067, Cond.initialized RJ1, Cond.code yJ1_charAt_3b067 cJ1_charAt_3b067 2 (some .char), Cond.methodLink RJ1 9 yJ0_checkIndex_df160, Cond.static yJ0_checkIndex_df160]
def wsX11_init_r4 : List Cond := [Cond.code yJ0_checkIndex_df160 cJ0_checkIndex_df160 2 none, Cond.fieldLink RJ0 1053 "jdk/internal/util/Preconditions" "SIOOBE_FORMATTER" "Ljava/util/function/BiFunction;", Cond.methodLink RJ0 1059 yJ3_checkIndex_8e157, Cond.static yJ3_checkIndex_8e157, Cond.initialized RJ3, Cond.code yJ3_checkIndex_8e157 cJ3_checkIndex_8e157 3 (some .int), Cond.methodLink RJ0 498 yJ2_charAt_3b067, Cond.static yJ2_charAt_3b067, Cond.initialized RJ2, Cond.code yJ2_charAt_3b067 cJ2_charAt_3b067 2 (some .char), Cond.methodLink RJ2 67 yJ2_checkIndex_2214a, Cond.static yJ2_checkIndex_2214a, Cond.code yJ2_checkIndex_2214a cJ2_checkIndex_2214a 2 none, Cond.methodLink RJ2 48 yJ2_length_9d52b, Cond.static yJ2_length_9d52b, Cond.code yJ2_length_9d52b cJ2_length_9d52b 1 (some .int), Cond.methodLink RJ2 414 yJ0_checkIndex_df160, Cond.methodLink RJ2 71 yJ2_getChar_3b067, Cond.static yJ2_getChar_3b067, Cond.code yJ2_getChar_3b067 cJ2_getChar_3b067 2 (some .char), Cond.fieldLink RJ2 44 "java/lang/StringUTF16" "$assertionsDisabled" "Z", Cond.fieldLink RJ2 59 "java/lang/StringUTF16" "HI_BYTE_SHIFT" "I", Cond.fieldLink RJ2 63 "java/lang/StringUTF16" "LO_BYTE_SHIFT" "I", Cond.methodLink RX11 18 yX3_init]
def wsX11_init_r5 : List Cond := [Cond.instanceMethod yX3_init, Cond.code yX3_init cX3_init 2 none, Cond.methodLink RX3 3 objectInit, Cond.fieldLink RX3 9 "ProofBench$Names" "counts" "[I", Cond.fieldLink RX3 15 "ProofBench$Names" "keys" "[J", Cond.fieldLink RX3 19 "ProofBench$Names" "sorts" "[I", Cond.fieldLink RX3 22 "ProofBench$Names" "arities" "[I", Cond.fieldLink RX3 25 "ProofBench$Names" "parts" "[I", Cond.methodLink RX3 30 yX3_keyOf, Cond.static yX3_keyOf, Cond.code yX3_keyOf cX3_keyOf 4 (some .long), Cond.constantLong RX3 46 (37), Cond.methodLink RX3 40 yJ0_length_8abf5, Cond.methodLink RX3 48 yJ0_charAt_5068e, Cond.methodLink RX3 52 yX3_symbol, Cond.static yX3_symbol, Cond.code yX3_symbol cX3_symbol 1 (some .int), Cond.methodLink RX3 34 yX3_tell, Cond.instanceMethod yX3_tell, Cond.selects RX3 yX3_tell yX3_tell, Cond.code yX3_tell cX3_tell 9 (some .int), Cond.methodLink RX3 61 yX3_full, Cond.instanceMethod yX3_full, Cond.selects RX3 yX3_full yX3_full]
def wsX11_init_r6 : List Cond := [Cond.code yX3_full cX3_full 2 (some .boolean), Cond.methodLink RX3 58 yX3_most, Cond.static yX3_most, Cond.code yX3_most cX3_most 1 (some .int), Cond.methodLink RX11 25 yX0_init, Cond.instanceMethod yX0_init, Cond.code yX0_init cX0_init 2 none, Cond.methodLink RX0 3 objectInit, Cond.fieldLink RX0 9 "ProofBench$Forms" "codes" "[I", Cond.fieldLink RX0 15 "ProofBench$Forms" "ends" "[I", Cond.fieldLink RX0 18 "ProofBench$Forms" "frees" "[I", Cond.fieldLink RX0 21 "ProofBench$Forms" "heights" "[I", Cond.fieldLink RX0 24 "ProofBench$Forms" "lefts" "[I", Cond.fieldLink RX0 27 "ProofBench$Forms" "rights" "[I", Cond.fieldLink RX0 30 "ProofBench$Forms" "needs" "[I", Cond.fieldLink RX0 33 "ProofBench$Forms" "names" "LProofBench$Names;", Cond.methodLink RX11 34 yX2_init, Cond.instanceMethod yX2_init, Cond.code yX2_init cX2_init 3 none, Cond.methodLink RX2 3 objectInit, Cond.fieldLink RX2 9 "ProofBench$Model" "sizes" "[I", Cond.fieldLink RX2 15 "ProofBench$Model" "tables" "[I", Cond.fieldLink RX2 18 "ProofBench$Model" "things" "[I", Cond.fieldLink RX2 21 "ProofBench$Model" "names" "LProofBench$Names;"]
def wsX11_init_r7 : List Cond := [Cond.fieldLink RX2 25 "ProofBench$Model" "forms" "LProofBench$Forms;", Cond.methodLink RX2 29 yJ7_fill_53178, Cond.static yJ7_fill_53178, Cond.initialized RJ7, Cond.code yJ7_fill_53178 cJ7_fill_53178 4 none, Cond.methodLink RX11 43 yX1_init, Cond.instanceMethod yX1_init, Cond.code yX1_init cX1_init 4 none, Cond.methodLink RX1 3 objectInit, Cond.classLink RX1 9 RX6, Cond.instantiable RX6 2, Cond.initialized RX6, Cond.fieldLink RX1 14 "ProofBench$Look" "first" "LProofBench$Row;", Cond.fieldLink RX1 20 "ProofBench$Look" "second" "LProofBench$Row;", Cond.fieldLink RX1 25 "ProofBench$Look" "values" "[I", Cond.fieldLink RX1 29 "ProofBench$Look" "row" "[I", Cond.fieldLink RX1 32 "ProofBench$Look" "tape" "LProofBench$Tape;", Cond.fieldLink RX1 36 "ProofBench$Look" "names" "LProofBench$Names;", Cond.fieldLink RX1 40 "ProofBench$Look" "model" "LProofBench$Model;", Cond.fieldLink RX1 44 "ProofBench$Look" "into" "LProofBench$Row;", Cond.methodLink RX1 11 yX6_init, Cond.instanceMethod yX6_init, Cond.code yX6_init cX6_init 2 none, Cond.methodLink RX6 1 objectInit]
def wsX11_init_r8 : List Cond := [Cond.fieldLink RX6 7 "ProofBench$Row" "codes" "[I", Cond.methodLink RX11 52 yX5_init, Cond.instanceMethod yX5_init, Cond.code yX5_init cX5_init 5 none, Cond.methodLink RX5 3 objectInit, Cond.classLink RX5 9 RX8, Cond.fieldLink RX5 11 "ProofBench$Proof" "steps" "[LProofBench$Step;", Cond.fieldLink RX5 17 "ProofBench$Proof" "facts" "[LProofBench$Step;", Cond.fieldLink RX5 22 "ProofBench$Proof" "named" "[LProofBench$Step;", Cond.classLink RX5 25 RX6, Cond.fieldLink RX5 30 "ProofBench$Proof" "made" "LProofBench$Row;", Cond.fieldLink RX5 34 "ProofBench$Proof" "other" "LProofBench$Row;", Cond.classLink RX5 37 RX10, Cond.fieldLink RX5 39 "ProofBench$Proof" "kept" "[LProofBench$Thing;", Cond.fieldLink RX5 43 "ProofBench$Proof" "names" "LProofBench$Names;", Cond.fieldLink RX5 47 "ProofBench$Proof" "forms" "LProofBench$Forms;", Cond.fieldLink RX5 51 "ProofBench$Proof" "look" "LProofBench$Look;", Cond.classLink RX5 55 RX7, Cond.instantiable RX7 6, Cond.initialized RX7, Cond.fieldLink RX5 60 "ProofBench$Proof" "search" "LProofBench$Search;", Cond.instantiable RX8 4, Cond.initialized RX8, Cond.instantiable RX10 2]
def wsX11_init_r9 : List Cond := [Cond.initialized RX10, Cond.fieldLink RX5 70 "ProofBench$Proof" "nothing" "LProofBench$Step;", Cond.fieldLink RX5 74 "ProofBench$Step" "shows" "LProofBench$Thing;", Cond.methodLink RX5 27 yX6_init, Cond.methodLink RX5 57 yX7_init, Cond.instanceMethod yX7_init, Cond.code yX7_init cX7_init 3 none, Cond.methodLink RX7 3 objectInit, Cond.classLink RX7 11 RX6, Cond.fieldLink RX7 13 "ProofBench$Search" "letters" "[LProofBench$Row;", Cond.fieldLink RX7 17 "ProofBench$Search" "forms" "LProofBench$Forms;", Cond.methodLink RX7 21 yX6_init, Cond.methodLink RX5 64 yX10_init, Cond.instanceMethod yX10_init, Cond.code yX10_init cX10_init 3 none, Cond.methodLink RX10 3 objectInit, Cond.fieldLink RX10 9 "ProofBench$Thing" "codes" "[I", Cond.fieldLink RX10 15 "ProofBench$Thing" "free" "I", Cond.methodLink RX5 67 yX8_init, Cond.instanceMethod yX8_init, Cond.code yX8_init cX8_init 6 none, Cond.methodLink RX8 1 objectInit, Cond.fieldLink RX8 7 "ProofBench$Step" "shows" "LProofBench$Thing;", Cond.fieldLink RX8 13 "ProofBench$Step" "from" "[LProofBench$Thing;"]
def wsX11_init_r10 : List Cond := [Cond.fieldLink RX8 17 "ProofBench$Step" "leaning" "J", Cond.fieldLink RX8 21 "ProofBench$Step" "induced" "Z", Cond.methodLink RX11 61 yX4_init, Cond.instanceMethod yX4_init, Cond.code yX4_init cX4_init 2 none, Cond.methodLink RX4 3 objectInit, Cond.fieldLink RX4 11 "ProofBench$Out" "numbers" "[I", Cond.fieldLink RX4 15 "ProofBench$Out" "lefts" "[I", Cond.fieldLink RX4 20 "ProofBench$Out" "turned" "[I", Cond.fieldLink RX4 23 "ProofBench$Out" "names" "LProofBench$Names;"]
def wsX11_init : List Cond := .code yX11_init cX11_init 1 none :: ((wsX11_init_r1 ++ (wsX11_init_r2 ++ (wsX11_init_r3 ++ (wsX11_init_r4 ++ (wsX11_init_r5 ++ (wsX11_init_r6 ++ (wsX11_init_r7 ++ (wsX11_init_r8 ++ (wsX11_init_r9 ++ wsX11_init_r10))))))))) ++ wsX90 ++ wsX110 ++ wsX30 ++ wsX00 ++ wsX20 ++ wsX10 ++ wsX50 ++ wsX40 ++ wsX60 ++ wsX70 ++ wsX80 ++ wsX100)
theorem dX11_init_0 : decode cX11_init 0 = .ok (.aload_n 0, 1) := by decide +kernel
theorem dX11_init_1 : decode cX11_init 1 = .ok (.invokespecial 1, 3) := by decide +kernel
theorem dX11_init_4 : decode cX11_init 4 = .ok (.aload_n 0, 1) := by decide +kernel
theorem dX11_init_5 : decode cX11_init 5 = .ok (.new 7, 3) := by decide +kernel
theorem dX11_init_8 : decode cX11_init 8 = .ok (.dup, 1) := by decide +kernel
theorem dX11_init_9 : decode cX11_init 9 = .ok (.invokespecial 9, 3) := by decide +kernel
theorem dX11_init_12 : decode cX11_init 12 = .ok (.putfield 10, 3) := by decide +kernel
theorem dX11_init_15 : decode cX11_init 15 = .ok (.aload_n 0, 1) := by decide +kernel
theorem dX11_init_16 : decode cX11_init 16 = .ok (.new 16, 3) := by decide +kernel
theorem dX11_init_19 : decode cX11_init 19 = .ok (.dup, 1) := by decide +kernel
theorem dX11_init_20 : decode cX11_init 20 = .ok (.invokespecial 18, 3) := by decide +kernel
theorem dX11_init_23 : decode cX11_init 23 = .ok (.putfield 19, 3) := by decide +kernel
theorem dX11_init_26 : decode cX11_init 26 = .ok (.aload_n 0, 1) := by decide +kernel
theorem dX11_init_27 : decode cX11_init 27 = .ok (.new 23, 3) := by decide +kernel
theorem dX11_init_30 : decode cX11_init 30 = .ok (.dup, 1) := by decide +kernel
theorem dX11_init_31 : decode cX11_init 31 = .ok (.aload_n 0, 1) := by decide +kernel
theorem dX11_init_32 : decode cX11_init 32 = .ok (.getfield 19, 3) := by decide +kernel
theorem dX11_init_35 : decode cX11_init 35 = .ok (.invokespecial 25, 3) := by decide +kernel
theorem dX11_init_38 : decode cX11_init 38 = .ok (.putfield 28, 3) := by decide +kernel
theorem dX11_init_41 : decode cX11_init 41 = .ok (.aload_n 0, 1) := by decide +kernel
theorem dX11_init_42 : decode cX11_init 42 = .ok (.new 32, 3) := by decide +kernel
theorem dX11_init_45 : decode cX11_init 45 = .ok (.dup, 1) := by decide +kernel
theorem dX11_init_46 : decode cX11_init 46 = .ok (.aload_n 0, 1) := by decide +kernel
theorem dX11_init_47 : decode cX11_init 47 = .ok (.getfield 19, 3) := by decide +kernel
theorem dX11_init_50 : decode cX11_init 50 = .ok (.aload_n 0, 1) := by decide +kernel
theorem dX11_init_51 : decode cX11_init 51 = .ok (.getfield 28, 3) := by decide +kernel
theorem dX11_init_54 : decode cX11_init 54 = .ok (.invokespecial 34, 3) := by decide +kernel
theorem dX11_init_57 : decode cX11_init 57 = .ok (.putfield 37, 3) := by decide +kernel
theorem dX11_init_60 : decode cX11_init 60 = .ok (.aload_n 0, 1) := by decide +kernel
theorem dX11_init_61 : decode cX11_init 61 = .ok (.new 41, 3) := by decide +kernel
theorem dX11_init_64 : decode cX11_init 64 = .ok (.dup, 1) := by decide +kernel
theorem dX11_init_65 : decode cX11_init 65 = .ok (.aload_n 0, 1) := by decide +kernel
theorem dX11_init_66 : decode cX11_init 66 = .ok (.getfield 10, 3) := by decide +kernel
theorem dX11_init_69 : decode cX11_init 69 = .ok (.aload_n 0, 1) := by decide +kernel
theorem dX11_init_70 : decode cX11_init 70 = .ok (.getfield 19, 3) := by decide +kernel
theorem dX11_init_73 : decode cX11_init 73 = .ok (.aload_n 0, 1) := by decide +kernel
theorem dX11_init_74 : decode cX11_init 74 = .ok (.getfield 37, 3) := by decide +kernel
theorem dX11_init_77 : decode cX11_init 77 = .ok (.invokespecial 43, 3) := by decide +kernel
theorem dX11_init_80 : decode cX11_init 80 = .ok (.putfield 46, 3) := by decide +kernel
theorem dX11_init_83 : decode cX11_init 83 = .ok (.aload_n 0, 1) := by decide +kernel
theorem dX11_init_84 : decode cX11_init 84 = .ok (.new 50, 3) := by decide +kernel
theorem dX11_init_87 : decode cX11_init 87 = .ok (.dup, 1) := by decide +kernel
theorem dX11_init_88 : decode cX11_init 88 = .ok (.aload_n 0, 1) := by decide +kernel
theorem dX11_init_89 : decode cX11_init 89 = .ok (.getfield 19, 3) := by decide +kernel
theorem dX11_init_92 : decode cX11_init 92 = .ok (.aload_n 0, 1) := by decide +kernel
theorem dX11_init_93 : decode cX11_init 93 = .ok (.getfield 28, 3) := by decide +kernel
theorem dX11_init_96 : decode cX11_init 96 = .ok (.aload_n 0, 1) := by decide +kernel
theorem dX11_init_97 : decode cX11_init 97 = .ok (.getfield 46, 3) := by decide +kernel
theorem dX11_init_100 : decode cX11_init 100 = .ok (.invokespecial 52, 3) := by decide +kernel
theorem dX11_init_103 : decode cX11_init 103 = .ok (.putfield 55, 3) := by decide +kernel
theorem dX11_init_106 : decode cX11_init 106 = .ok (.aload_n 0, 1) := by decide +kernel
theorem dX11_init_107 : decode cX11_init 107 = .ok (.new 59, 3) := by decide +kernel
theorem dX11_init_110 : decode cX11_init 110 = .ok (.dup, 1) := by decide +kernel
theorem dX11_init_111 : decode cX11_init 111 = .ok (.aload_n 0, 1) := by decide +kernel
theorem dX11_init_112 : decode cX11_init 112 = .ok (.getfield 19, 3) := by decide +kernel
theorem dX11_init_115 : decode cX11_init 115 = .ok (.invokespecial 61, 3) := by decide +kernel
theorem dX11_init_118 : decode cX11_init 118 = .ok (.putfield 62, 3) := by decide +kernel
theorem dX11_init_121 : decode cX11_init 121 = .ok (.aload_n 0, 1) := by decide +kernel
theorem dX11_init_122 : decode cX11_init 122 = .ok (.bipush 16, 2) := by decide +kernel
theorem dX11_init_124 : decode cX11_init 124 = .ok (.newarray .int, 2) := by decide +kernel
theorem dX11_init_126 : decode cX11_init 126 = .ok (.putfield 66, 3) := by decide +kernel
theorem dX11_init_129 : decode cX11_init 129 = .ok (.aload_n 0, 1) := by decide +kernel
theorem dX11_init_130 : decode cX11_init 130 = .ok (.iconst (-1), 1) := by decide +kernel
theorem dX11_init_131 : decode cX11_init 131 = .ok (.putfield 70, 3) := by decide +kernel
theorem dX11_init_134 : decode cX11_init 134 = .ok (.return_, 1) := by decide +kernel
set_option maxRecDepth 20000 in
theorem ggX11_init_X9_init : GoodIn wsX11_init wsX9_init := goodIn_r _ [37, 38, 2, 3, 39, 40, 32, 41, 42, 43, 44, 45, 46, 47, 48, 49, 50, 51, 52, 53, 54, 55, 56, 57, 58, 59, 60, 61, 62, 63, 64, 65, 66, 67, 68, 69, 70, 71, 72, 73, 74, 75, 76, 77, 78, 79, 80, 81, 82, 83, 84, 85, 86, 87, 88, 89, 90, 91, 92, 93, 94, 95, 227, 228, 229, 230, 231, 232, 233, 234, 235, 236, 237] (by decide +kernel) (by decide +kernel)
set_option maxRecDepth 20000 in
theorem gX11_init_X9_init : GoodIn wsX11_init (wsX9_init) := ggX11_init_X9_init
set_option maxRecDepth 20000 in
theorem ggX11_init_X3_init : GoodIn wsX11_init wsX3_init := goodIn_r _ [98, 99, 2, 3, 32, 100, 43, 101, 102, 103, 104, 105, 106, 10, 107, 108, 109, 48, 49, 50, 51, 52, 53, 54, 55, 56, 57, 58, 110, 60, 61, 62, 63, 64, 65, 66, 67, 68, 69, 70, 71, 72, 73, 74, 75, 76, 77, 78, 79, 80, 81, 82, 83, 84, 85, 86, 87, 88, 89, 90, 91, 92, 93, 94, 95, 111, 112, 113, 114, 115, 116, 117, 118, 119, 120, 121, 122, 123, 124, 247, 248, 249, 250, 251] (by decide +kernel) (by decide +kernel)
set_option maxRecDepth 20000 in
theorem gX11_init_X3_init : GoodIn wsX11_init (wsX3_init) := ggX11_init_X3_init
set_option maxRecDepth 20000 in
theorem ggX11_init_X0_init : GoodIn wsX11_init wsX0_init := goodIn_r _ [127, 128, 2, 3, 32, 129, 130, 131, 132, 133, 134, 135, 136, 252, 253, 254, 255, 256, 257, 258, 259, 260] (by decide +kernel) (by decide +kernel)
set_option maxRecDepth 20000 in
theorem gX11_init_X0_init : GoodIn wsX11_init (wsX0_init) := ggX11_init_X0_init
set_option maxRecDepth 20000 in
theorem ggX11_init_X2_init : GoodIn wsX11_init wsX2_init := goodIn_r _ [139, 140, 2, 3, 32, 141, 142, 143, 144, 145, 146, 147, 148, 149, 261, 262, 263, 264, 265, 266] (by decide +kernel) (by decide +kernel)
set_option maxRecDepth 20000 in
theorem gX11_init_X2_init : GoodIn wsX11_init (wsX2_init) := ggX11_init_X2_init
set_option maxRecDepth 20000 in
theorem ggX11_init_X1_init : GoodIn wsX11_init wsX1_init := goodIn_r _ [152, 153, 2, 3, 154, 155, 156, 157, 158, 32, 159, 160, 161, 162, 163, 164, 165, 166, 167, 168, 169, 301, 302, 267, 268, 269, 270, 271, 272, 273, 274, 275, 276, 277, 278] (by decide +kernel) (by decide +kernel)
set_option maxRecDepth 20000 in
theorem gX11_init_X1_init : GoodIn wsX11_init (wsX1_init) := ggX11_init_X1_init
set_option maxRecDepth 20000 in
theorem ggX11_init_X5_init : GoodIn wsX11_init wsX5_init := goodIn_r _ [172, 173, 2, 3, 174, 175, 176, 177, 178, 155, 156, 179, 180, 181, 182, 183, 184, 185, 186, 187, 188, 189, 190, 191, 192, 193, 32, 194, 195, 196, 166, 167, 168, 169, 197, 198, 199, 200, 201, 202, 203, 204, 205, 206, 207, 208, 209, 210, 211, 212, 213, 214, 215, 216, 217, 218, 279, 280, 281, 282, 283, 284, 285, 286, 287, 288, 289, 290, 291, 292, 293, 294, 295, 301, 302, 303, 304, 305, 306, 307, 308, 309, 310, 311, 312, 313, 314] (by decide +kernel) (by decide +kernel)
set_option maxRecDepth 20000 in
theorem gX11_init_X5_init : GoodIn wsX11_init (wsX5_init) := ggX11_init_X5_init
set_option maxRecDepth 20000 in
theorem ggX11_init_X4_init : GoodIn wsX11_init wsX4_init := goodIn_r _ [221, 222, 2, 3, 32, 223, 224, 225, 226, 296, 297, 298, 299, 300] (by decide +kernel) (by decide +kernel)
set_option maxRecDepth 20000 in
theorem gX11_init_X4_init : GoodIn wsX11_init (wsX4_init) := ggX11_init_X4_init
set_option maxHeartbeats 1000000 in
set_option maxRecDepth 100000 in
/-- ProofBench(): nothing but num and next; no FACT, no step, nothing OUT -/
theorem c_Bench_init (l : Launch) (dC : Nat → ClassId) (dI : Nat → Nat → Nat) (sz : Nat) (h0 b0 v0 n0 b1 v1 n1 b2 v2 n2 : Nat) (f0 f1 f2 : Nat → Int32) (hn0 : n0 < 2 ^ 30) (hn1 : n1 < 2 ^ 31) (hn2 : n2 < 2 ^ 31) : Met l yX11_init wsX11_init ({ frames := 6, cells := 61, slots := 46933, locals := 129 }) (va_Pc [.ref h0] (fun U => U.heap.size = sz ∧ va_P (dC, dI) vwCl [(h0, .inr (11, [.null, .null, .null, .null, .null, .null, .null, .null, .int 0]))] U.heap ∧ va_K (dC, dI) vwCl [] U ∧ va_D (fun _ => True) [(h0, .inr (11, [.null, .null, .null, .null, .null, .null, .null, .null, .int 0]))] ∧ vk_R RX9 32 "SORT a;FUN aSs;REL aS;VAR as;AXIOM aF;DEFINE aVF;PROOF ;THEOREM a;SHOW p;FROM pk;TELL t;ALIKE XX;PUT FvU;SIZE sz;ZERO o;VALUE fKw;HOLDS rK;LACKS rK;JUDGE F;ASSUME F;BOTH pp;LEFT p;RIGHT p;FIRST pF;SECOND pF;CASE ppp;APPLY pp;DISCHARGE pF;GENERALISE pv;SPECIALISE pT;WITNESS pTF;OPEN ppv;SAME T;REPLACE ppvF;ABSURD pF;INDUCTION ppiF;COUNT c;USE t;SEARCH F*;" b0 U ∧ vk_R RX3 28 "num" b1 U ∧ vk_R RX3 38 "next" b2 U ∧ st_S b0 v0 n0 f0 (va_A [(h0, .inr (11, [.null, .null, .null, .null, .null, .null, .null, .null, .int 0]))] sz) U U.heap ∧ st_S b1 v1 n1 f1 (va_A [(h0, .inr (11, [.null, .null, .null, .null, .null, .null, .null, .null, .int 0]))] sz) U U.heap ∧ st_S b2 v2 n2 f2 (va_A [(h0, .inr (11, [.null, .null, .null, .null, .null, .null, .null, .null, .int 0]))] sz) U U.heap ∧ va_AO RX6 U ∧ va_AO RX8 U ∧ va_AO RX10 U)) (va_Qv (fun _ : Unit => True) (fun _ t => ∃ (q_1 : Nat) (q_12 : Nat) (q_20 : Nat) (q_21 : Nat) (q_22 : Nat) (q_23 : Nat) (q_32 : Nat) (q_36 : Nat) (q_2 : Nat) (q_3 : Nat) (q_4 : Nat) (q_5 : Nat) (q_6 : Nat) (q_7 : Nat) (cA_8 : ClassId) (cA_9 : ClassId) (cA_10 : ClassId) (cA_11 : ClassId) (q_13 : Nat) (q_14 : Nat) (q_15 : Nat) (q_16 : Nat) (q_17 : Nat) (cA_18 : ClassId) (f_19 : Nat → Int32) (q_24 : Nat) (q_25 : Nat) (q_26 : Nat) (q_27 : Nat) (q_28 : Nat) (q_29 : Nat) (q_30 : Nat) (q_31 : Nat) (q_33 : Nat) (q_34 : Nat) (q_35 : Nat) (cA_37 : ClassId), va_P (dC, dI) vwCl [(h0, .inr (11, [.ref q_1, .ref q_12, .ref q_20, .ref q_21, .ref q_22, .ref q_23, .ref q_32, .ref q_36, .int (-1)])), (q_1, .inr (9, [.ref q_2, .ref q_3, .ref q_4, .ref q_5, .ref q_6, .ref q_7, .int 0, .int 0, .int 0, .int 0, .int 0])), (q_2, .inl (cA_8, 4000, .inl (fun _ => 0))), (q_3, .inl (cA_9, 4002, .inl (fun _ => 0))), (q_4, .inl (cA_10, 4002, .inl (fun _ => 0))), (q_5, .inl (cA_11, 4002, .inr (.inl (fun _ => 0)))), (q_12, .inr (3, [.ref q_13, .ref q_14, .ref q_15, .ref q_16, .ref q_17])), (q_13, .inl (cA_18, 5, .inl (f_19))), (q_23, .inr (5, [.ref q_12, .ref q_20, .ref q_22, .ref q_24, .ref q_25, .ref q_26, .ref q_27, .ref q_28, .ref q_29, .ref q_30, .int 0, .int 0, .ref q_31, .int 0, .int 0, .long 0, .int 0])), (q_32, .inr (4, [.ref q_12, .ref q_33, .ref q_34, .ref q_35, .int 0])), (q_36, .inl (cA_37, 16, .inl (fun _ => 0)))] t.heap ∧ va_K (dC, dI) vwCl [(cA_8, .byte), (cA_9, .int), (cA_10, .int), (cA_11, .long), (cA_18, .int), (cA_37, .int)] t ∧ va_D (va_A [(h0, .inr (11, [.null, .null, .null, .null, .null, .null, .null, .null, .int 0]))] sz) [(h0, .inr (11, [.ref q_1, .ref q_12, .ref q_20, .ref q_21, .ref q_22, .ref q_23, .ref q_32, .ref q_36, .int (-1)])), (q_1, .inr (9, [.ref q_2, .ref q_3, .ref q_4, .ref q_5, .ref q_6, .ref q_7, .int 0, .int 0, .int 0, .int 0, .int 0])), (q_2, .inl (cA_8, 4000, .inl (fun _ => 0))), (q_3, .inl (cA_9, 4002, .inl (fun _ => 0))), (q_4, .inl (cA_10, 4002, .inl (fun _ => 0))), (q_5, .inl (cA_11, 4002, .inr (.inl (fun _ => 0)))), (q_12, .inr (3, [.ref q_13, .ref q_14, .ref q_15, .ref q_16, .ref q_17])), (q_13, .inl (cA_18, 5, .inl (f_19))), (q_23, .inr (5, [.ref q_12, .ref q_20, .ref q_22, .ref q_24, .ref q_25, .ref q_26, .ref q_27, .ref q_28, .ref q_29, .ref q_30, .int 0, .int 0, .ref q_31, .int 0, .int 0, .long 0, .int 0])), (q_32, .inr (4, [.ref q_12, .ref q_33, .ref q_34, .ref q_35, .int 0])), (q_36, .inl (cA_37, 16, .inl (fun _ => 0)))] ∧ f_19 4 = 0) (va_A [(h0, .inr (11, [.null, .null, .null, .null, .null, .null, .null, .null, .int 0]))] sz)) (61) (46933) (va_A [(h0, .inr (11, [.null, .null, .null, .null, .null, .null, .null, .null, .int 0]))] sz) := by
  refine Met.ofW (cc := cX11_init) (maxL := 1) (ret := none) (by decide) rfl ?_
  intro p e s m args below meth c s₁ B hml hv
  obtain ⟨rfl, hsz, hP, hK, hD0, hR0, hR1, hR2, hst0, hst1, hst2, hao6, hao8, hao10⟩ := hv
  have hx := B.exec
  have hb := B.bytes
  have hr := B.returns
  have hts := atoms_spec (ws := wsX11_init) B.pre
  have hown : s.vm.findClass RX11 = some m.cls := findClass_of_methodNamed B.named
  have hlocks := B.notSynchronized
  have hin : meth.name = "<init>" := (name_of_methodNamed B.named B.method).1
  subst hsz
  have hD := hD0.self (sz := s.heap.size)
  generalize hAe : va_A [(h0, .inr (11, [.null, .null, .null, .null, .null, .null, .null, .null, .int 0]))] s.heap.size = A at hD hst0 hst1 hst2 ⊢
  have hA : ∀ q : Nat, s.heap.size ≤ q → A q := fun q h => by rw [← hAe]; exact Or.inr h
  have hS : va_S A s.heap s.heap [] := va_S.rf
  have hl := lv_entry ([.ref h0]) (n := 1) (Nat.le_of_ble_eq_true rfl)
  rw [lg_entry_eq]
  generalize (lg_sl ([.ref h0]) ++ List.replicate (1 - (lg_sl ([.ref h0])).length) Slot.unset).toArray = ls at hl ⊢
  have hl : lv_has ls 1 [(0, .ref h0)] := hl
  refine lv_aload_n hx hb dX11_init_0 rfl (lv_at hl 0 rfl) ?_
  refine W.objInit hx hb hown (hts (.methodLink RX11 1 objectInit) (by decide +kernel)) (hts (.instanceMethod objectInit) (by decide +kernel)) (hts (.code objectInit ⟨#[0xb1]⟩ 1 none) (by decide +kernel)) rfl (by rw [hml]; exact hl.1) rfl dX11_init_1 (Nat.le_of_ble_eq_true rfl) (Nat.le_of_ble_eq_true rfl) ?_
  refine W.eq (g2 := F0 m 4 ls []) rfl ?_
  refine lv_aload_n hx hb dX11_init_4 rfl (lv_at hl 0 rfl) ?_
  refine va_new (ci := 9) (fs := [.null, .null, .null, .null, .null, .null, .int 0, .int 0, .int 0, .int 0, .int 0]) (C := RX9) (T := TX9) (N := 11) hx hb hts (by decide +kernel) tyX9 tyX9_ok hown (hts (.classLink RX11 7 RX9) (by decide +kernel)) (hts (.instantiable RX9 11) (by decide +kernel)) (hts (.initialized RX9) (by decide +kernel)) hK hP hD hS hA rfl (fun j hj => by rcases (show j = 0 ∨ j = 1 ∨ j = 2 ∨ j = 3 ∨ j = 4 ∨ j = 5 ∨ j = 6 ∨ j = 7 ∨ j = 8 ∨ j = 9 ∨ j = 10 by omega) with rfl | rfl | rfl | rfl | rfl | rfl | rfl | rfl | rfl | rfl | rfl <;> rfl) (show 0 + 1 ≤ 61 by omega) (show 0 + 11 ≤ 46933 by omega) dX11_init_5 (fun q_1 H hP hD hS => ?_)
  have hP : va_P (dC, dI) vwCl [(h0, .inr (11, [.null, .null, .null, .null, .null, .null, .null, .null, .int 0])), (q_1, .inr (9, [.null, .null, .null, .null, .null, .null, .int 0, .int 0, .int 0, .int 0, .int 0]))] H := hP
  have hD : va_D A [(h0, .inr (11, [.null, .null, .null, .null, .null, .null, .null, .null, .int 0])), (q_1, .inr (9, [.null, .null, .null, .null, .null, .null, .int 0, .int 0, .int 0, .int 0, .int 0]))] := hD
  refine W.widen (k := 1) (n := 11) (by omega) (by omega) ?_
  refine lv_dup hx hb dX11_init_8 rfl ?_
  have hPc := hP.sub (ws' := [(q_1, .inr (9, [.null, .null, .null, .null, .null, .null, .int 0, .int 0, .int 0, .int 0, .int 0]))]) [1] rfl
  have hDc := hD.sub (ws' := [(q_1, .inr (9, [.null, .null, .null, .null, .null, .null, .int 0, .int 0, .int 0, .int 0, .int 0]))]) [1] (by decide) rfl
  have hKc := hK.sub (tys' := []) [] rfl
  have hFc := va_free (wc := [(q_1, .inr (9, [.null, .null, .null, .null, .null, .null, .int 0, .int 0, .int 0, .int 0, .int 0]))]) hD hS hA [1] rfl
  refine va_callv (va_runI (As := []) (rest := [.ref q_1, .ref h0]) ⟨hx, hb, hml, hown, hts⟩ (c_Tape_init l dC dI H.size q_1 b0 v0 n0 f0 hn0) (cwI 0 hts gX11_init_X9_init rfl rfl rfl (hts (.initialized RX9) (by decide +kernel)) (hts (.methodLink RX11 9 yX9_init) (by decide +kernel)) (hts (.instanceMethod yX9_init) (by decide +kernel)) rfl (by decide +kernel) ⟨Nat.le_of_ble_eq_true rfl, Nat.le_of_ble_eq_true rfl⟩) ⟨fun a U g mk q => by obtain ⟨q0, q1, qP, qK, qD, qE0, qE1⟩ := q; exact ⟨q0, q1, qP, va_K.moved (u := U) (U := U.calling g mk a) (Vm.Alike.refl U.vm) qK, qD, vk_R.same (u := U) (U := U.calling g mk a) rfl qE0, st_S.moved (u := U) (U := U.calling g mk a) (Vm.Alike.refl U.vm) qE1⟩, fun U hU hW => ⟨rfl, by rw [hU], by rw [hU]; exact hPc, va_K.moved hW.alike hKc, hDc.weaken (fun _ _ _ _ => trivial), vk_R.warm hW hR0, by rw [hU]; exact st_S.moved hW.alike ((hst0.kept hS.2.1).narrow hFc)⟩⟩ rfl rfl hl.1 rfl (lv_room (Nat.le_of_ble_eq_true rfl)) dX11_init_9 ⟨(show 1 + 6 ≤ 61 by omega), (show 11 + 16049 ≤ 46933 by omega)⟩) hS (fun q _ h => hFc q h) hFc (fun u t H1 locs ht hvm hw hB hz1 hk1 hS => ?_)
  obtain ⟨q_2, q_3, q_4, q_5, q_6, q_7, cA_8, cA_9, cA_10, cA_11, hP1, hK1, hD1⟩ := hB
  rw [ht] at hP1
  have hK1 := va_K.moved hvm.symm hK1
  obtain ⟨hP, hD⟩ := va_join (wr := [(h0, .inr (11, [.null, .null, .null, .null, .null, .null, .null, .null, .int 0]))]) (w1 := [(q_1, .inr (9, [.ref q_2, .ref q_3, .ref q_4, .ref q_5, .ref q_6, .ref q_7, .int 0, .int 0, .int 0, .int 0, .int 0])), (q_2, .inl (cA_8, 4000, .inl (fun _ => 0))), (q_3, .inl (cA_9, 4002, .inl (fun _ => 0))), (q_4, .inl (cA_10, 4002, .inl (fun _ => 0))), (q_5, .inl (cA_11, 4002, .inr (.inl (fun _ => 0))))]) hP hD [1] [0] rfl rfl (by decide) (by decide) hk1 hFc hP1 hD1
  have hK := (hK.sub (tys' := []) [] rfl).app hK1
  generalize H1 = H at hP hS ⊢
  have hP : va_P (dC, dI) vwCl [(h0, .inr (11, [.null, .null, .null, .null, .null, .null, .null, .null, .int 0])), (q_1, .inr (9, [.ref q_2, .ref q_3, .ref q_4, .ref q_5, .ref q_6, .ref q_7, .int 0, .int 0, .int 0, .int 0, .int 0])), (q_2, .inl (cA_8, 4000, .inl (fun _ => 0))), (q_3, .inl (cA_9, 4002, .inl (fun _ => 0))), (q_4, .inl (cA_10, 4002, .inl (fun _ => 0))), (q_5, .inl (cA_11, 4002, .inr (.inl (fun _ => 0))))] H := hP
  have hD : va_D A [(h0, .inr (11, [.null, .null, .null, .null, .null, .null, .null, .null, .int 0])), (q_1, .inr (9, [.ref q_2, .ref q_3, .ref q_4, .ref q_5, .ref q_6, .ref q_7, .int 0, .int 0, .int 0, .int 0, .int 0])), (q_2, .inl (cA_8, 4000, .inl (fun _ => 0))), (q_3, .inl (cA_9, 4002, .inl (fun _ => 0))), (q_4, .inl (cA_10, 4002, .inl (fun _ => 0))), (q_5, .inl (cA_11, 4002, .inr (.inl (fun _ => 0))))] := hD
  have hK : va_K (dC, dI) vwCl [(cA_8, .byte), (cA_9, .int), (cA_10, .int), (cA_11, .long)] s := hK
  refine W.widen (k := 7) (n := 16060) (by omega) (by omega) ?_
  refine va_putF (D := (dC, dI)) (ci := 11) (v := .ref q_1) (ty := .object "ProofBench$Tape") (C := RX11) (T := TX11) (N := 9) hx hb hts (by decide +kernel) tyX11 tyX11_ok nmX11 hown hK hP hD hS 0 rfl rfl 0 (by decide) (hts (.fieldLink RX11 10 "ProofBench" "tape" "LProofBench$Tape;") (by decide +kernel)) (fun _ h9 => h9) rfl hin rfl (by decide +kernel) rfl rfl (Nat.le_of_ble_eq_true rfl) dX11_init_12 (fun H locs hP hD hS => ?_)
  have hP : va_P (dC, dI) vwCl [(h0, .inr (11, [.ref q_1, .null, .null, .null, .null, .null, .null, .null, .int 0])), (q_1, .inr (9, [.ref q_2, .ref q_3, .ref q_4, .ref q_5, .ref q_6, .ref q_7, .int 0, .int 0, .int 0, .int 0, .int 0])), (q_2, .inl (cA_8, 4000, .inl (fun _ => 0))), (q_3, .inl (cA_9, 4002, .inl (fun _ => 0))), (q_4, .inl (cA_10, 4002, .inl (fun _ => 0))), (q_5, .inl (cA_11, 4002, .inr (.inl (fun _ => 0))))] H := hP
  have hD : va_D A [(h0, .inr (11, [.ref q_1, .null, .null, .null, .null, .null, .null, .null, .int 0])), (q_1, .inr (9, [.ref q_2, .ref q_3, .ref q_4, .ref q_5, .ref q_6, .ref q_7, .int 0, .int 0, .int 0, .int 0, .int 0])), (q_2, .inl (cA_8, 4000, .inl (fun _ => 0))), (q_3, .inl (cA_9, 4002, .inl (fun _ => 0))), (q_4, .inl (cA_10, 4002, .inl (fun _ => 0))), (q_5, .inl (cA_11, 4002, .inr (.inl (fun _ => 0))))] := hD
  refine lv_aload_n hx hb dX11_init_15 rfl (lv_at hl 0 rfl) ?_
  refine va_new (ci := 3) (fs := [.null, .null, .null, .null, .null]) (C := RX3) (T := TX3) (N := 5) hx hb hts (by decide +kernel) tyX3 tyX3_ok hown (hts (.classLink RX11 16 RX3) (by decide +kernel)) (hts (.instantiable RX3 5) (by decide +kernel)) (hts (.initialized RX3) (by decide +kernel)) hK hP hD hS hA rfl (fun j hj => by rcases (show j = 0 ∨ j = 1 ∨ j = 2 ∨ j = 3 ∨ j = 4 by omega) with rfl | rfl | rfl | rfl | rfl <;> rfl) (show 7 + 1 ≤ 61 by omega) (show 16060 + 5 ≤ 46933 by omega) dX11_init_16 (fun q_12 H hP hD hS => ?_)
  have hP : va_P (dC, dI) vwCl [(h0, .inr (11, [.ref q_1, .null, .null, .null, .null, .null, .null, .null, .int 0])), (q_1, .inr (9, [.ref q_2, .ref q_3, .ref q_4, .ref q_5, .ref q_6, .ref q_7, .int 0, .int 0, .int 0, .int 0, .int 0])), (q_2, .inl (cA_8, 4000, .inl (fun _ => 0))), (q_3, .inl (cA_9, 4002, .inl (fun _ => 0))), (q_4, .inl (cA_10, 4002, .inl (fun _ => 0))), (q_5, .inl (cA_11, 4002, .inr (.inl (fun _ => 0)))), (q_12, .inr (3, [.null, .null, .null, .null, .null]))] H := hP
  have hD : va_D A [(h0, .inr (11, [.ref q_1, .null, .null, .null, .null, .null, .null, .null, .int 0])), (q_1, .inr (9, [.ref q_2, .ref q_3, .ref q_4, .ref q_5, .ref q_6, .ref q_7, .int 0, .int 0, .int 0, .int 0, .int 0])), (q_2, .inl (cA_8, 4000, .inl (fun _ => 0))), (q_3, .inl (cA_9, 4002, .inl (fun _ => 0))), (q_4, .inl (cA_10, 4002, .inl (fun _ => 0))), (q_5, .inl (cA_11, 4002, .inr (.inl (fun _ => 0)))), (q_12, .inr (3, [.null, .null, .null, .null, .null]))] := hD
  refine W.widen (k := 8) (n := 16065) (by omega) (by omega) ?_
  refine lv_dup hx hb dX11_init_19 rfl ?_
  have hPc := hP.sub (ws' := [(q_12, .inr (3, [.null, .null, .null, .null, .null]))]) [6] rfl
  have hDc := hD.sub (ws' := [(q_12, .inr (3, [.null, .null, .null, .null, .null]))]) [6] (by decide) rfl
  have hKc := hK.sub (tys' := []) [] rfl
  have hFc := va_free (wc := [(q_12, .inr (3, [.null, .null, .null, .null, .null]))]) hD hS hA [6] rfl
  refine va_callv (va_runI (As := []) (rest := [.ref q_12, .ref h0]) ⟨hx, hb, hml, hown, hts⟩ (c_Names_init l dC dI H.size q_12 b1 v1 n1 b2 v2 n2 f1 f2 hn1 hn2) (cwI 0 hts gX11_init_X3_init rfl rfl rfl (hts (.initialized RX3) (by decide +kernel)) (hts (.methodLink RX11 18 yX3_init) (by decide +kernel)) (hts (.instanceMethod yX3_init) (by decide +kernel)) rfl (by decide +kernel) ⟨Nat.le_of_ble_eq_true rfl, Nat.le_of_ble_eq_true rfl⟩) ⟨fun a U g mk q => by obtain ⟨q0, q1, qP, qK, qD, qE0, qE1, qE2, qE3⟩ := q; exact ⟨q0, q1, qP, va_K.moved (u := U) (U := U.calling g mk a) (Vm.Alike.refl U.vm) qK, qD, vk_R.same (u := U) (U := U.calling g mk a) rfl qE0, vk_R.same (u := U) (U := U.calling g mk a) rfl qE1, st_S.moved (u := U) (U := U.calling g mk a) (Vm.Alike.refl U.vm) qE2, st_S.moved (u := U) (U := U.calling g mk a) (Vm.Alike.refl U.vm) qE3⟩, fun U hU hW => ⟨rfl, by rw [hU], by rw [hU]; exact hPc, va_K.moved hW.alike hKc, hDc.weaken (fun _ _ _ _ => trivial), vk_R.warm hW hR1, vk_R.warm hW hR2, by rw [hU]; exact st_S.moved hW.alike ((hst1.kept hS.2.1).narrow hFc), by rw [hU]; exact st_S.moved hW.alike ((hst2.kept hS.2.1).narrow hFc)⟩⟩ rfl rfl hl.1 rfl (lv_room (Nat.le_of_ble_eq_true rfl)) dX11_init_20 ⟨(show 8 + 6 ≤ 61 by omega), (show 16065 + 1208 ≤ 46933 by omega)⟩) hS (fun q _ h => hFc q h) hFc (fun u t H1 locs ht hvm hw hB hz1 hk1 hS => ?_)
  obtain ⟨q_13, q_14, q_15, q_16, q_17, cA_18, f_19, hP1, hK1, hD1, hg4⟩ := hB
  rw [ht] at hP1
  have hK1 := va_K.moved hvm.symm hK1
  obtain ⟨hP, hD⟩ := va_join (wr := [(h0, .inr (11, [.ref q_1, .null, .null, .null, .null, .null, .null, .null, .int 0])), (q_1, .inr (9, [.ref q_2, .ref q_3, .ref q_4, .ref q_5, .ref q_6, .ref q_7, .int 0, .int 0, .int 0, .int 0, .int 0])), (q_2, .inl (cA_8, 4000, .inl (fun _ => 0))), (q_3, .inl (cA_9, 4002, .inl (fun _ => 0))), (q_4, .inl (cA_10, 4002, .inl (fun _ => 0))), (q_5, .inl (cA_11, 4002, .inr (.inl (fun _ => 0))))]) (w1 := [(q_12, .inr (3, [.ref q_13, .ref q_14, .ref q_15, .ref q_16, .ref q_17])), (q_13, .inl (cA_18, 5, .inl (f_19)))]) hP hD [6] [0, 1, 2, 3, 4, 5] rfl rfl (by decide) (by decide) hk1 hFc hP1 hD1
  have hK := (hK.sub (tys' := [(cA_8, .byte), (cA_9, .int), (cA_10, .int), (cA_11, .long)]) [0, 1, 2, 3] rfl).app hK1
  generalize H1 = H at hP hS ⊢
  have hP : va_P (dC, dI) vwCl [(h0, .inr (11, [.ref q_1, .null, .null, .null, .null, .null, .null, .null, .int 0])), (q_1, .inr (9, [.ref q_2, .ref q_3, .ref q_4, .ref q_5, .ref q_6, .ref q_7, .int 0, .int 0, .int 0, .int 0, .int 0])), (q_2, .inl (cA_8, 4000, .inl (fun _ => 0))), (q_3, .inl (cA_9, 4002, .inl (fun _ => 0))), (q_4, .inl (cA_10, 4002, .inl (fun _ => 0))), (q_5, .inl (cA_11, 4002, .inr (.inl (fun _ => 0)))), (q_12, .inr (3, [.ref q_13, .ref q_14, .ref q_15, .ref q_16, .ref q_17])), (q_13, .inl (cA_18, 5, .inl (f_19)))] H := hP
  have hD : va_D A [(h0, .inr (11, [.ref q_1, .null, .null, .null, .null, .null, .null, .null, .int 0])), (q_1, .inr (9, [.ref q_2, .ref q_3, .ref q_4, .ref q_5, .ref q_6, .ref q_7, .int 0, .int 0, .int 0, .int 0, .int 0])), (q_2, .inl (cA_8, 4000, .inl (fun _ => 0))), (q_3, .inl (cA_9, 4002, .inl (fun _ => 0))), (q_4, .inl (cA_10, 4002, .inl (fun _ => 0))), (q_5, .inl (cA_11, 4002, .inr (.inl (fun _ => 0)))), (q_12, .inr (3, [.ref q_13, .ref q_14, .ref q_15, .ref q_16, .ref q_17])), (q_13, .inl (cA_18, 5, .inl (f_19)))] := hD
  have hK : va_K (dC, dI) vwCl [(cA_8, .byte), (cA_9, .int), (cA_10, .int), (cA_11, .long), (cA_18, .int)] s := hK
  refine W.widen (k := 14) (n := 17273) (by omega) (by omega) ?_
  refine va_putF (D := (dC, dI)) (ci := 11) (v := .ref q_12) (ty := .object "ProofBench$Names") (C := RX11) (T := TX11) (N := 9) hx hb hts (by decide +kernel) tyX11 tyX11_ok nmX11 hown hK hP hD hS 0 rfl rfl 1 (by decide) (hts (.fieldLink RX11 19 "ProofBench" "names" "LProofBench$Names;") (by decide +kernel)) (fun _ h9 => h9) rfl hin rfl (by decide +kernel) rfl rfl (Nat.le_of_ble_eq_true rfl) dX11_init_23 (fun H locs hP hD hS => ?_)
  have hP : va_P (dC, dI) vwCl [(h0, .inr (11, [.ref q_1, .ref q_12, .null, .null, .null, .null, .null, .null, .int 0])), (q_1, .inr (9, [.ref q_2, .ref q_3, .ref q_4, .ref q_5, .ref q_6, .ref q_7, .int 0, .int 0, .int 0, .int 0, .int 0])), (q_2, .inl (cA_8, 4000, .inl (fun _ => 0))), (q_3, .inl (cA_9, 4002, .inl (fun _ => 0))), (q_4, .inl (cA_10, 4002, .inl (fun _ => 0))), (q_5, .inl (cA_11, 4002, .inr (.inl (fun _ => 0)))), (q_12, .inr (3, [.ref q_13, .ref q_14, .ref q_15, .ref q_16, .ref q_17])), (q_13, .inl (cA_18, 5, .inl (f_19)))] H := hP
  have hD : va_D A [(h0, .inr (11, [.ref q_1, .ref q_12, .null, .null, .null, .null, .null, .null, .int 0])), (q_1, .inr (9, [.ref q_2, .ref q_3, .ref q_4, .ref q_5, .ref q_6, .ref q_7, .int 0, .int 0, .int 0, .int 0, .int 0])), (q_2, .inl (cA_8, 4000, .inl (fun _ => 0))), (q_3, .inl (cA_9, 4002, .inl (fun _ => 0))), (q_4, .inl (cA_10, 4002, .inl (fun _ => 0))), (q_5, .inl (cA_11, 4002, .inr (.inl (fun _ => 0)))), (q_12, .inr (3, [.ref q_13, .ref q_14, .ref q_15, .ref q_16, .ref q_17])), (q_13, .inl (cA_18, 5, .inl (f_19)))] := hD
  refine lv_aload_n hx hb dX11_init_26 rfl (lv_at hl 0 rfl) ?_
  refine va_new (ci := 0) (fs := [.null, .null, .null, .null, .int 0, .null, .null, .null, .null]) (C := RX0) (T := TX0) (N := 9) hx hb hts (by decide +kernel) tyX0 tyX0_ok hown (hts (.classLink RX11 23 RX0) (by decide +kernel)) (hts (.instantiable RX0 9) (by decide +kernel)) (hts (.initialized RX0) (by decide +kernel)) hK hP hD hS hA rfl (fun j hj => by rcases (show j = 0 ∨ j = 1 ∨ j = 2 ∨ j = 3 ∨ j = 4 ∨ j = 5 ∨ j = 6 ∨ j = 7 ∨ j = 8 by omega) with rfl | rfl | rfl | rfl | rfl | rfl | rfl | rfl | rfl <;> rfl) (show 14 + 1 ≤ 61 by omega) (show 17273 + 9 ≤ 46933 by omega) dX11_init_27 (fun q_20 H hP hD hS => ?_)
  have hP : va_P (dC, dI) vwCl [(h0, .inr (11, [.ref q_1, .ref q_12, .null, .null, .null, .null, .null, .null, .int 0])), (q_1, .inr (9, [.ref q_2, .ref q_3, .ref q_4, .ref q_5, .ref q_6, .ref q_7, .int 0, .int 0, .int 0, .int 0, .int 0])), (q_2, .inl (cA_8, 4000, .inl (fun _ => 0))), (q_3, .inl (cA_9, 4002, .inl (fun _ => 0))), (q_4, .inl (cA_10, 4002, .inl (fun _ => 0))), (q_5, .inl (cA_11, 4002, .inr (.inl (fun _ => 0)))), (q_12, .inr (3, [.ref q_13, .ref q_14, .ref q_15, .ref q_16, .ref q_17])), (q_13, .inl (cA_18, 5, .inl (f_19))), (q_20, .inr (0, [.null, .null, .null, .null, .int 0, .null, .null, .null, .null]))] H := hP
  have hD : va_D A [(h0, .inr (11, [.ref q_1, .ref q_12, .null, .null, .null, .null, .null, .null, .int 0])), (q_1, .inr (9, [.ref q_2, .ref q_3, .ref q_4, .ref q_5, .ref q_6, .ref q_7, .int 0, .int 0, .int 0, .int 0, .int 0])), (q_2, .inl (cA_8, 4000, .inl (fun _ => 0))), (q_3, .inl (cA_9, 4002, .inl (fun _ => 0))), (q_4, .inl (cA_10, 4002, .inl (fun _ => 0))), (q_5, .inl (cA_11, 4002, .inr (.inl (fun _ => 0)))), (q_12, .inr (3, [.ref q_13, .ref q_14, .ref q_15, .ref q_16, .ref q_17])), (q_13, .inl (cA_18, 5, .inl (f_19))), (q_20, .inr (0, [.null, .null, .null, .null, .int 0, .null, .null, .null, .null]))] := hD
  refine W.widen (k := 15) (n := 17282) (by omega) (by omega) ?_
  refine lv_dup hx hb dX11_init_30 rfl ?_
  refine lv_aload_n hx hb dX11_init_31 rfl (lv_at hl 0 rfl) ?_
  refine va_get (D := (dC, dI)) (ci := 11) (v := .ref q_12) (C := RX11) (T := TX11) (N := 9) hx hb hts (by decide +kernel) hown hK hP 0 rfl rfl 1 (by decide) (hts (.fieldLink RX11 19 "ProofBench" "names" "LProofBench$Names;") (by decide +kernel)) (fun _ h9 => h9) rfl dX11_init_32 ?_
  have hPc := hP.sub (ws' := [(q_20, .inr (0, [.null, .null, .null, .null, .int 0, .null, .null, .null, .null]))]) [8] rfl
  have hDc := hD.sub (ws' := [(q_20, .inr (0, [.null, .null, .null, .null, .int 0, .null, .null, .null, .null]))]) [8] (by decide) rfl
  have hKc := hK.sub (tys' := []) [] rfl
  have hFc := va_free (wc := [(q_20, .inr (0, [.null, .null, .null, .null, .int 0, .null, .null, .null, .null]))]) hD hS hA [8] rfl
  refine va_callv (va_runI (As := [.ref q_12]) (rest := [.ref q_20, .ref h0]) ⟨hx, hb, hml, hown, hts⟩ (c_Forms_init l dC dI H.size q_20 q_12) (cwI 1 hts gX11_init_X0_init rfl rfl rfl (hts (.initialized RX0) (by decide +kernel)) (hts (.methodLink RX11 25 yX0_init) (by decide +kernel)) (hts (.instanceMethod yX0_init) (by decide +kernel)) rfl (by decide +kernel) ⟨Nat.le_of_ble_eq_true rfl, Nat.le_of_ble_eq_true rfl⟩) ⟨fun a U g mk q => by obtain ⟨q0, q1, qP, qK, qD⟩ := q; exact ⟨q0, q1, qP, va_K.moved (u := U) (U := U.calling g mk a) (Vm.Alike.refl U.vm) qK, qD⟩, fun U hU hW => ⟨rfl, by rw [hU], by rw [hU]; exact hPc, va_K.moved hW.alike hKc, hDc.weaken (fun _ _ _ _ => trivial)⟩⟩ rfl rfl hl.1 rfl (lv_room (Nat.le_of_ble_eq_true rfl)) dX11_init_35 ⟨(show 15 + 7 ≤ 61 by omega), (show 17282 + 1723 ≤ 46933 by omega)⟩) hS (fun q _ h => hFc q h) hFc (fun u t H1 locs ht hvm hw hB hz1 hk1 hS => ?_)
  obtain ⟨hP1, hK1, hD1⟩ := hB
  rw [ht] at hP1
  have hK1 := va_K.moved hvm.symm hK1
  obtain ⟨hP, hD⟩ := va_join (wr := [(h0, .inr (11, [.ref q_1, .ref q_12, .null, .null, .null, .null, .null, .null, .int 0])), (q_1, .inr (9, [.ref q_2, .ref q_3, .ref q_4, .ref q_5, .ref q_6, .ref q_7, .int 0, .int 0, .int 0, .int 0, .int 0])), (q_2, .inl (cA_8, 4000, .inl (fun _ => 0))), (q_3, .inl (cA_9, 4002, .inl (fun _ => 0))), (q_4, .inl (cA_10, 4002, .inl (fun _ => 0))), (q_5, .inl (cA_11, 4002, .inr (.inl (fun _ => 0)))), (q_12, .inr (3, [.ref q_13, .ref q_14, .ref q_15, .ref q_16, .ref q_17])), (q_13, .inl (cA_18, 5, .inl (f_19)))]) (w1 := []) hP hD [8] [0, 1, 2, 3, 4, 5, 6, 7] rfl rfl (by decide) (by decide) hk1 hFc hP1 hD1
  have hK := (hK.sub (tys' := [(cA_8, .byte), (cA_9, .int), (cA_10, .int), (cA_11, .long), (cA_18, .int)]) [0, 1, 2, 3, 4] rfl).app hK1
  generalize H1 = H at hP hS ⊢
  have hP : va_P (dC, dI) vwCl [(h0, .inr (11, [.ref q_1, .ref q_12, .null, .null, .null, .null, .null, .null, .int 0])), (q_1, .inr (9, [.ref q_2, .ref q_3, .ref q_4, .ref q_5, .ref q_6, .ref q_7, .int 0, .int 0, .int 0, .int 0, .int 0])), (q_2, .inl (cA_8, 4000, .inl (fun _ => 0))), (q_3, .inl (cA_9, 4002, .inl (fun _ => 0))), (q_4, .inl (cA_10, 4002, .inl (fun _ => 0))), (q_5, .inl (cA_11, 4002, .inr (.inl (fun _ => 0)))), (q_12, .inr (3, [.ref q_13, .ref q_14, .ref q_15, .ref q_16, .ref q_17])), (q_13, .inl (cA_18, 5, .inl (f_19)))] H := hP
  have hD : va_D A [(h0, .inr (11, [.ref q_1, .ref q_12, .null, .null, .null, .null, .null, .null, .int 0])), (q_1, .inr (9, [.ref q_2, .ref q_3, .ref q_4, .ref q_5, .ref q_6, .ref q_7, .int 0, .int 0, .int 0, .int 0, .int 0])), (q_2, .inl (cA_8, 4000, .inl (fun _ => 0))), (q_3, .inl (cA_9, 4002, .inl (fun _ => 0))), (q_4, .inl (cA_10, 4002, .inl (fun _ => 0))), (q_5, .inl (cA_11, 4002, .inr (.inl (fun _ => 0)))), (q_12, .inr (3, [.ref q_13, .ref q_14, .ref q_15, .ref q_16, .ref q_17])), (q_13, .inl (cA_18, 5, .inl (f_19)))] := hD
  have hK : va_K (dC, dI) vwCl [(cA_8, .byte), (cA_9, .int), (cA_10, .int), (cA_11, .long), (cA_18, .int)] s := hK
  refine W.widen (k := 22) (n := 19005) (by omega) (by omega) ?_
  refine va_putF (D := (dC, dI)) (ci := 11) (v := .ref q_20) (ty := .object "ProofBench$Forms") (C := RX11) (T := TX11) (N := 9) hx hb hts (by decide +kernel) tyX11 tyX11_ok nmX11 hown hK hP hD hS 0 rfl rfl 2 (by decide) (hts (.fieldLink RX11 28 "ProofBench" "forms" "LProofBench$Forms;") (by decide +kernel)) (fun _ h9 => h9) rfl hin rfl (by decide +kernel) rfl rfl (Nat.le_of_ble_eq_true rfl) dX11_init_38 (fun H locs hP hD hS => ?_)
  have hP : va_P (dC, dI) vwCl [(h0, .inr (11, [.ref q_1, .ref q_12, .ref q_20, .null, .null, .null, .null, .null, .int 0])), (q_1, .inr (9, [.ref q_2, .ref q_3, .ref q_4, .ref q_5, .ref q_6, .ref q_7, .int 0, .int 0, .int 0, .int 0, .int 0])), (q_2, .inl (cA_8, 4000, .inl (fun _ => 0))), (q_3, .inl (cA_9, 4002, .inl (fun _ => 0))), (q_4, .inl (cA_10, 4002, .inl (fun _ => 0))), (q_5, .inl (cA_11, 4002, .inr (.inl (fun _ => 0)))), (q_12, .inr (3, [.ref q_13, .ref q_14, .ref q_15, .ref q_16, .ref q_17])), (q_13, .inl (cA_18, 5, .inl (f_19)))] H := hP
  have hD : va_D A [(h0, .inr (11, [.ref q_1, .ref q_12, .ref q_20, .null, .null, .null, .null, .null, .int 0])), (q_1, .inr (9, [.ref q_2, .ref q_3, .ref q_4, .ref q_5, .ref q_6, .ref q_7, .int 0, .int 0, .int 0, .int 0, .int 0])), (q_2, .inl (cA_8, 4000, .inl (fun _ => 0))), (q_3, .inl (cA_9, 4002, .inl (fun _ => 0))), (q_4, .inl (cA_10, 4002, .inl (fun _ => 0))), (q_5, .inl (cA_11, 4002, .inr (.inl (fun _ => 0)))), (q_12, .inr (3, [.ref q_13, .ref q_14, .ref q_15, .ref q_16, .ref q_17])), (q_13, .inl (cA_18, 5, .inl (f_19)))] := hD
  refine lv_aload_n hx hb dX11_init_41 rfl (lv_at hl 0 rfl) ?_
  refine va_new (ci := 2) (fs := [.null, .null, .null, .null, .null, .int 0]) (C := RX2) (T := TX2) (N := 6) hx hb hts (by decide +kernel) tyX2 tyX2_ok hown (hts (.classLink RX11 32 RX2) (by decide +kernel)) (hts (.instantiable RX2 6) (by decide +kernel)) (hts (.initialized RX2) (by decide +kernel)) hK hP hD hS hA rfl (fun j hj => by rcases (show j = 0 ∨ j = 1 ∨ j = 2 ∨ j = 3 ∨ j = 4 ∨ j = 5 by omega) with rfl | rfl | rfl | rfl | rfl | rfl <;> rfl) (show 22 + 1 ≤ 61 by omega) (show 19005 + 6 ≤ 46933 by omega) dX11_init_42 (fun q_21 H hP hD hS => ?_)
  have hP : va_P (dC, dI) vwCl [(h0, .inr (11, [.ref q_1, .ref q_12, .ref q_20, .null, .null, .null, .null, .null, .int 0])), (q_1, .inr (9, [.ref q_2, .ref q_3, .ref q_4, .ref q_5, .ref q_6, .ref q_7, .int 0, .int 0, .int 0, .int 0, .int 0])), (q_2, .inl (cA_8, 4000, .inl (fun _ => 0))), (q_3, .inl (cA_9, 4002, .inl (fun _ => 0))), (q_4, .inl (cA_10, 4002, .inl (fun _ => 0))), (q_5, .inl (cA_11, 4002, .inr (.inl (fun _ => 0)))), (q_12, .inr (3, [.ref q_13, .ref q_14, .ref q_15, .ref q_16, .ref q_17])), (q_13, .inl (cA_18, 5, .inl (f_19))), (q_21, .inr (2, [.null, .null, .null, .null, .null, .int 0]))] H := hP
  have hD : va_D A [(h0, .inr (11, [.ref q_1, .ref q_12, .ref q_20, .null, .null, .null, .null, .null, .int 0])), (q_1, .inr (9, [.ref q_2, .ref q_3, .ref q_4, .ref q_5, .ref q_6, .ref q_7, .int 0, .int 0, .int 0, .int 0, .int 0])), (q_2, .inl (cA_8, 4000, .inl (fun _ => 0))), (q_3, .inl (cA_9, 4002, .inl (fun _ => 0))), (q_4, .inl (cA_10, 4002, .inl (fun _ => 0))), (q_5, .inl (cA_11, 4002, .inr (.inl (fun _ => 0)))), (q_12, .inr (3, [.ref q_13, .ref q_14, .ref q_15, .ref q_16, .ref q_17])), (q_13, .inl (cA_18, 5, .inl (f_19))), (q_21, .inr (2, [.null, .null, .null, .null, .null, .int 0]))] := hD
  refine W.widen (k := 23) (n := 19011) (by omega) (by omega) ?_
  refine lv_dup hx hb dX11_init_45 rfl ?_
  refine lv_aload_n hx hb dX11_init_46 rfl (lv_at hl 0 rfl) ?_
  refine va_get (D := (dC, dI)) (ci := 11) (v := .ref q_12) (C := RX11) (T := TX11) (N := 9) hx hb hts (by decide +kernel) hown hK hP 0 rfl rfl 1 (by decide) (hts (.fieldLink RX11 19 "ProofBench" "names" "LProofBench$Names;") (by decide +kernel)) (fun _ h9 => h9) rfl dX11_init_47 ?_
  refine lv_aload_n hx hb dX11_init_50 rfl (lv_at hl 0 rfl) ?_
  refine va_get (D := (dC, dI)) (ci := 11) (v := .ref q_20) (C := RX11) (T := TX11) (N := 9) hx hb hts (by decide +kernel) hown hK hP 0 rfl rfl 2 (by decide) (hts (.fieldLink RX11 28 "ProofBench" "forms" "LProofBench$Forms;") (by decide +kernel)) (fun _ h9 => h9) rfl dX11_init_51 ?_
  have hPc := hP.sub (ws' := [(q_21, .inr (2, [.null, .null, .null, .null, .null, .int 0]))]) [8] rfl
  have hDc := hD.sub (ws' := [(q_21, .inr (2, [.null, .null, .null, .null, .null, .int 0]))]) [8] (by decide) rfl
  have hKc := hK.sub (tys' := []) [] rfl
  have hFc := va_free (wc := [(q_21, .inr (2, [.null, .null, .null, .null, .null, .int 0]))]) hD hS hA [8] rfl
  refine va_callv (va_runI (As := [.ref q_12, .ref q_20]) (rest := [.ref q_21, .ref h0]) ⟨hx, hb, hml, hown, hts⟩ (c_Model_init l dC dI H.size q_21 q_12 q_20) (cwI 2 hts gX11_init_X2_init rfl rfl rfl (hts (.initialized RX2) (by decide +kernel)) (hts (.methodLink RX11 34 yX2_init) (by decide +kernel)) (hts (.instanceMethod yX2_init) (by decide +kernel)) rfl (by decide +kernel) ⟨Nat.le_of_ble_eq_true rfl, Nat.le_of_ble_eq_true rfl⟩) ⟨fun a U g mk q => by obtain ⟨q0, q1, qP, qK, qD⟩ := q; exact ⟨q0, q1, qP, va_K.moved (u := U) (U := U.calling g mk a) (Vm.Alike.refl U.vm) qK, qD⟩, fun U hU hW => ⟨rfl, by rw [hU], by rw [hU]; exact hPc, va_K.moved hW.alike hKc, hDc.weaken (fun _ _ _ _ => trivial)⟩⟩ rfl rfl hl.1 rfl (lv_room (Nat.le_of_ble_eq_true rfl)) dX11_init_54 ⟨(show 23 + 3 ≤ 61 by omega), (show 19011 + 2596 ≤ 46933 by omega)⟩) hS (fun q _ h => hFc q h) hFc (fun u t H1 locs ht hvm hw hB hz1 hk1 hS => ?_)
  obtain ⟨hP1, hK1, hD1⟩ := hB
  rw [ht] at hP1
  have hK1 := va_K.moved hvm.symm hK1
  obtain ⟨hP, hD⟩ := va_join (wr := [(h0, .inr (11, [.ref q_1, .ref q_12, .ref q_20, .null, .null, .null, .null, .null, .int 0])), (q_1, .inr (9, [.ref q_2, .ref q_3, .ref q_4, .ref q_5, .ref q_6, .ref q_7, .int 0, .int 0, .int 0, .int 0, .int 0])), (q_2, .inl (cA_8, 4000, .inl (fun _ => 0))), (q_3, .inl (cA_9, 4002, .inl (fun _ => 0))), (q_4, .inl (cA_10, 4002, .inl (fun _ => 0))), (q_5, .inl (cA_11, 4002, .inr (.inl (fun _ => 0)))), (q_12, .inr (3, [.ref q_13, .ref q_14, .ref q_15, .ref q_16, .ref q_17])), (q_13, .inl (cA_18, 5, .inl (f_19)))]) (w1 := []) hP hD [8] [0, 1, 2, 3, 4, 5, 6, 7] rfl rfl (by decide) (by decide) hk1 hFc hP1 hD1
  have hK := (hK.sub (tys' := [(cA_8, .byte), (cA_9, .int), (cA_10, .int), (cA_11, .long), (cA_18, .int)]) [0, 1, 2, 3, 4] rfl).app hK1
  generalize H1 = H at hP hS ⊢
  have hP : va_P (dC, dI) vwCl [(h0, .inr (11, [.ref q_1, .ref q_12, .ref q_20, .null, .null, .null, .null, .null, .int 0])), (q_1, .inr (9, [.ref q_2, .ref q_3, .ref q_4, .ref q_5, .ref q_6, .ref q_7, .int 0, .int 0, .int 0, .int 0, .int 0])), (q_2, .inl (cA_8, 4000, .inl (fun _ => 0))), (q_3, .inl (cA_9, 4002, .inl (fun _ => 0))), (q_4, .inl (cA_10, 4002, .inl (fun _ => 0))), (q_5, .inl (cA_11, 4002, .inr (.inl (fun _ => 0)))), (q_12, .inr (3, [.ref q_13, .ref q_14, .ref q_15, .ref q_16, .ref q_17])), (q_13, .inl (cA_18, 5, .inl (f_19)))] H := hP
  have hD : va_D A [(h0, .inr (11, [.ref q_1, .ref q_12, .ref q_20, .null, .null, .null, .null, .null, .int 0])), (q_1, .inr (9, [.ref q_2, .ref q_3, .ref q_4, .ref q_5, .ref q_6, .ref q_7, .int 0, .int 0, .int 0, .int 0, .int 0])), (q_2, .inl (cA_8, 4000, .inl (fun _ => 0))), (q_3, .inl (cA_9, 4002, .inl (fun _ => 0))), (q_4, .inl (cA_10, 4002, .inl (fun _ => 0))), (q_5, .inl (cA_11, 4002, .inr (.inl (fun _ => 0)))), (q_12, .inr (3, [.ref q_13, .ref q_14, .ref q_15, .ref q_16, .ref q_17])), (q_13, .inl (cA_18, 5, .inl (f_19)))] := hD
  have hK : va_K (dC, dI) vwCl [(cA_8, .byte), (cA_9, .int), (cA_10, .int), (cA_11, .long), (cA_18, .int)] s := hK
  refine W.widen (k := 26) (n := 21607) (by omega) (by omega) ?_
  refine va_putF (D := (dC, dI)) (ci := 11) (v := .ref q_21) (ty := .object "ProofBench$Model") (C := RX11) (T := TX11) (N := 9) hx hb hts (by decide +kernel) tyX11 tyX11_ok nmX11 hown hK hP hD hS 0 rfl rfl 3 (by decide) (hts (.fieldLink RX11 37 "ProofBench" "model" "LProofBench$Model;") (by decide +kernel)) (fun _ h9 => h9) rfl hin rfl (by decide +kernel) rfl rfl (Nat.le_of_ble_eq_true rfl) dX11_init_57 (fun H locs hP hD hS => ?_)
  have hP : va_P (dC, dI) vwCl [(h0, .inr (11, [.ref q_1, .ref q_12, .ref q_20, .ref q_21, .null, .null, .null, .null, .int 0])), (q_1, .inr (9, [.ref q_2, .ref q_3, .ref q_4, .ref q_5, .ref q_6, .ref q_7, .int 0, .int 0, .int 0, .int 0, .int 0])), (q_2, .inl (cA_8, 4000, .inl (fun _ => 0))), (q_3, .inl (cA_9, 4002, .inl (fun _ => 0))), (q_4, .inl (cA_10, 4002, .inl (fun _ => 0))), (q_5, .inl (cA_11, 4002, .inr (.inl (fun _ => 0)))), (q_12, .inr (3, [.ref q_13, .ref q_14, .ref q_15, .ref q_16, .ref q_17])), (q_13, .inl (cA_18, 5, .inl (f_19)))] H := hP
  have hD : va_D A [(h0, .inr (11, [.ref q_1, .ref q_12, .ref q_20, .ref q_21, .null, .null, .null, .null, .int 0])), (q_1, .inr (9, [.ref q_2, .ref q_3, .ref q_4, .ref q_5, .ref q_6, .ref q_7, .int 0, .int 0, .int 0, .int 0, .int 0])), (q_2, .inl (cA_8, 4000, .inl (fun _ => 0))), (q_3, .inl (cA_9, 4002, .inl (fun _ => 0))), (q_4, .inl (cA_10, 4002, .inl (fun _ => 0))), (q_5, .inl (cA_11, 4002, .inr (.inl (fun _ => 0)))), (q_12, .inr (3, [.ref q_13, .ref q_14, .ref q_15, .ref q_16, .ref q_17])), (q_13, .inl (cA_18, 5, .inl (f_19)))] := hD
  refine lv_aload_n hx hb dX11_init_60 rfl (lv_at hl 0 rfl) ?_
  refine va_new (ci := 1) (fs := [.null, .null, .null, .null, .null, .null, .null, .int 0, .long 0, .null, .int 0, .int 0]) (C := RX1) (T := TX1) (N := 12) hx hb hts (by decide +kernel) tyX1 tyX1_ok hown (hts (.classLink RX11 41 RX1) (by decide +kernel)) (hts (.instantiable RX1 12) (by decide +kernel)) (hts (.initialized RX1) (by decide +kernel)) hK hP hD hS hA rfl (fun j hj => by rcases (show j = 0 ∨ j = 1 ∨ j = 2 ∨ j = 3 ∨ j = 4 ∨ j = 5 ∨ j = 6 ∨ j = 7 ∨ j = 8 ∨ j = 9 ∨ j = 10 ∨ j = 11 by omega) with rfl | rfl | rfl | rfl | rfl | rfl | rfl | rfl | rfl | rfl | rfl | rfl <;> rfl) (show 26 + 1 ≤ 61 by omega) (show 21607 + 12 ≤ 46933 by omega) dX11_init_61 (fun q_22 H hP hD hS => ?_)
  have hP : va_P (dC, dI) vwCl [(h0, .inr (11, [.ref q_1, .ref q_12, .ref q_20, .ref q_21, .null, .null, .null, .null, .int 0])), (q_1, .inr (9, [.ref q_2, .ref q_3, .ref q_4, .ref q_5, .ref q_6, .ref q_7, .int 0, .int 0, .int 0, .int 0, .int 0])), (q_2, .inl (cA_8, 4000, .inl (fun _ => 0))), (q_3, .inl (cA_9, 4002, .inl (fun _ => 0))), (q_4, .inl (cA_10, 4002, .inl (fun _ => 0))), (q_5, .inl (cA_11, 4002, .inr (.inl (fun _ => 0)))), (q_12, .inr (3, [.ref q_13, .ref q_14, .ref q_15, .ref q_16, .ref q_17])), (q_13, .inl (cA_18, 5, .inl (f_19))), (q_22, .inr (1, [.null, .null, .null, .null, .null, .null, .null, .int 0, .long 0, .null, .int 0, .int 0]))] H := hP
  have hD : va_D A [(h0, .inr (11, [.ref q_1, .ref q_12, .ref q_20, .ref q_21, .null, .null, .null, .null, .int 0])), (q_1, .inr (9, [.ref q_2, .ref q_3, .ref q_4, .ref q_5, .ref q_6, .ref q_7, .int 0, .int 0, .int 0, .int 0, .int 0])), (q_2, .inl (cA_8, 4000, .inl (fun _ => 0))), (q_3, .inl (cA_9, 4002, .inl (fun _ => 0))), (q_4, .inl (cA_10, 4002, .inl (fun _ => 0))), (q_5, .inl (cA_11, 4002, .inr (.inl (fun _ => 0)))), (q_12, .inr (3, [.ref q_13, .ref q_14, .ref q_15, .ref q_16, .ref q_17])), (q_13, .inl (cA_18, 5, .inl (f_19))), (q_22, .inr (1, [.null, .null, .null, .null, .null, .null, .null, .int 0, .long 0, .null, .int 0, .int 0]))] := hD
  refine W.widen (k := 27) (n := 21619) (by omega) (by omega) ?_
  refine lv_dup hx hb dX11_init_64 rfl ?_
  refine lv_aload_n hx hb dX11_init_65 rfl (lv_at hl 0 rfl) ?_
  refine va_get (D := (dC, dI)) (ci := 11) (v := .ref q_1) (C := RX11) (T := TX11) (N := 9) hx hb hts (by decide +kernel) hown hK hP 0 rfl rfl 0 (by decide) (hts (.fieldLink RX11 10 "ProofBench" "tape" "LProofBench$Tape;") (by decide +kernel)) (fun _ h9 => h9) rfl dX11_init_66 ?_
  refine lv_aload_n hx hb dX11_init_69 rfl (lv_at hl 0 rfl) ?_
  refine va_get (D := (dC, dI)) (ci := 11) (v := .ref q_12) (C := RX11) (T := TX11) (N := 9) hx hb hts (by decide +kernel) hown hK hP 0 rfl rfl 1 (by decide) (hts (.fieldLink RX11 19 "ProofBench" "names" "LProofBench$Names;") (by decide +kernel)) (fun _ h9 => h9) rfl dX11_init_70 ?_
  refine lv_aload_n hx hb dX11_init_73 rfl (lv_at hl 0 rfl) ?_
  refine va_get (D := (dC, dI)) (ci := 11) (v := .ref q_21) (C := RX11) (T := TX11) (N := 9) hx hb hts (by decide +kernel) hown hK hP 0 rfl rfl 3 (by decide) (hts (.fieldLink RX11 37 "ProofBench" "model" "LProofBench$Model;") (by decide +kernel)) (fun _ h9 => h9) rfl dX11_init_74 ?_
  have hPc := hP.sub (ws' := [(q_22, .inr (1, [.null, .null, .null, .null, .null, .null, .null, .int 0, .long 0, .null, .int 0, .int 0]))]) [8] rfl
  have hDc := hD.sub (ws' := [(q_22, .inr (1, [.null, .null, .null, .null, .null, .null, .null, .int 0, .long 0, .null, .int 0, .int 0]))]) [8] (by decide) rfl
  have hKc := hK.sub (tys' := []) [] rfl
  have hFc := va_free (wc := [(q_22, .inr (1, [.null, .null, .null, .null, .null, .null, .null, .int 0, .long 0, .null, .int 0, .int 0]))]) hD hS hA [8] rfl
  refine va_callv (va_runI (As := [.ref q_1, .ref q_12, .ref q_21]) (rest := [.ref q_22, .ref h0]) ⟨hx, hb, hml, hown, hts⟩ (c_Look_init l dC dI H.size q_22 q_1 q_12 q_21) (cwI 3 hts gX11_init_X1_init rfl rfl rfl (hts (.initialized RX1) (by decide +kernel)) (hts (.methodLink RX11 43 yX1_init) (by decide +kernel)) (hts (.instanceMethod yX1_init) (by decide +kernel)) rfl (by decide +kernel) ⟨Nat.le_of_ble_eq_true rfl, Nat.le_of_ble_eq_true rfl⟩) ⟨fun a U g mk q => by obtain ⟨q0, q1, qP, qK, qD⟩ := q; exact ⟨q0, q1, qP, va_K.moved (u := U) (U := U.calling g mk a) (Vm.Alike.refl U.vm) qK, qD⟩, fun U hU hW => ⟨rfl, by rw [hU], by rw [hU]; exact hPc, va_K.moved hW.alike hKc, hDc.weaken (fun _ _ _ _ => trivial)⟩⟩ rfl rfl hl.1 rfl (lv_room (Nat.le_of_ble_eq_true rfl)) dX11_init_77 ⟨(show 27 + 6 ≤ 61 by omega), (show 21619 + 811 ≤ 46933 by omega)⟩) hS (fun q _ h => hFc q h) hFc (fun u t H1 locs ht hvm hw hB hz1 hk1 hS => ?_)
  obtain ⟨hP1, hK1, hD1⟩ := hB
  rw [ht] at hP1
  have hK1 := va_K.moved hvm.symm hK1
  obtain ⟨hP, hD⟩ := va_join (wr := [(h0, .inr (11, [.ref q_1, .ref q_12, .ref q_20, .ref q_21, .null, .null, .null, .null, .int 0])), (q_1, .inr (9, [.ref q_2, .ref q_3, .ref q_4, .ref q_5, .ref q_6, .ref q_7, .int 0, .int 0, .int 0, .int 0, .int 0])), (q_2, .inl (cA_8, 4000, .inl (fun _ => 0))), (q_3, .inl (cA_9, 4002, .inl (fun _ => 0))), (q_4, .inl (cA_10, 4002, .inl (fun _ => 0))), (q_5, .inl (cA_11, 4002, .inr (.inl (fun _ => 0)))), (q_12, .inr (3, [.ref q_13, .ref q_14, .ref q_15, .ref q_16, .ref q_17])), (q_13, .inl (cA_18, 5, .inl (f_19)))]) (w1 := []) hP hD [8] [0, 1, 2, 3, 4, 5, 6, 7] rfl rfl (by decide) (by decide) hk1 hFc hP1 hD1
  have hK := (hK.sub (tys' := [(cA_8, .byte), (cA_9, .int), (cA_10, .int), (cA_11, .long), (cA_18, .int)]) [0, 1, 2, 3, 4] rfl).app hK1
  generalize H1 = H at hP hS ⊢
  have hP : va_P (dC, dI) vwCl [(h0, .inr (11, [.ref q_1, .ref q_12, .ref q_20, .ref q_21, .null, .null, .null, .null, .int 0])), (q_1, .inr (9, [.ref q_2, .ref q_3, .ref q_4, .ref q_5, .ref q_6, .ref q_7, .int 0, .int 0, .int 0, .int 0, .int 0])), (q_2, .inl (cA_8, 4000, .inl (fun _ => 0))), (q_3, .inl (cA_9, 4002, .inl (fun _ => 0))), (q_4, .inl (cA_10, 4002, .inl (fun _ => 0))), (q_5, .inl (cA_11, 4002, .inr (.inl (fun _ => 0)))), (q_12, .inr (3, [.ref q_13, .ref q_14, .ref q_15, .ref q_16, .ref q_17])), (q_13, .inl (cA_18, 5, .inl (f_19)))] H := hP
  have hD : va_D A [(h0, .inr (11, [.ref q_1, .ref q_12, .ref q_20, .ref q_21, .null, .null, .null, .null, .int 0])), (q_1, .inr (9, [.ref q_2, .ref q_3, .ref q_4, .ref q_5, .ref q_6, .ref q_7, .int 0, .int 0, .int 0, .int 0, .int 0])), (q_2, .inl (cA_8, 4000, .inl (fun _ => 0))), (q_3, .inl (cA_9, 4002, .inl (fun _ => 0))), (q_4, .inl (cA_10, 4002, .inl (fun _ => 0))), (q_5, .inl (cA_11, 4002, .inr (.inl (fun _ => 0)))), (q_12, .inr (3, [.ref q_13, .ref q_14, .ref q_15, .ref q_16, .ref q_17])), (q_13, .inl (cA_18, 5, .inl (f_19)))] := hD
  have hK : va_K (dC, dI) vwCl [(cA_8, .byte), (cA_9, .int), (cA_10, .int), (cA_11, .long), (cA_18, .int)] s := hK
  refine W.widen (k := 33) (n := 22430) (by omega) (by omega) ?_
  refine va_putF (D := (dC, dI)) (ci := 11) (v := .ref q_22) (ty := .object "ProofBench$Look") (C := RX11) (T := TX11) (N := 9) hx hb hts (by decide +kernel) tyX11 tyX11_ok nmX11 hown hK hP hD hS 0 rfl rfl 4 (by decide) (hts (.fieldLink RX11 46 "ProofBench" "look" "LProofBench$Look;") (by decide +kernel)) (fun _ h9 => h9) rfl hin rfl (by decide +kernel) rfl rfl (Nat.le_of_ble_eq_true rfl) dX11_init_80 (fun H locs hP hD hS => ?_)
  have hP : va_P (dC, dI) vwCl [(h0, .inr (11, [.ref q_1, .ref q_12, .ref q_20, .ref q_21, .ref q_22, .null, .null, .null, .int 0])), (q_1, .inr (9, [.ref q_2, .ref q_3, .ref q_4, .ref q_5, .ref q_6, .ref q_7, .int 0, .int 0, .int 0, .int 0, .int 0])), (q_2, .inl (cA_8, 4000, .inl (fun _ => 0))), (q_3, .inl (cA_9, 4002, .inl (fun _ => 0))), (q_4, .inl (cA_10, 4002, .inl (fun _ => 0))), (q_5, .inl (cA_11, 4002, .inr (.inl (fun _ => 0)))), (q_12, .inr (3, [.ref q_13, .ref q_14, .ref q_15, .ref q_16, .ref q_17])), (q_13, .inl (cA_18, 5, .inl (f_19)))] H := hP
  have hD : va_D A [(h0, .inr (11, [.ref q_1, .ref q_12, .ref q_20, .ref q_21, .ref q_22, .null, .null, .null, .int 0])), (q_1, .inr (9, [.ref q_2, .ref q_3, .ref q_4, .ref q_5, .ref q_6, .ref q_7, .int 0, .int 0, .int 0, .int 0, .int 0])), (q_2, .inl (cA_8, 4000, .inl (fun _ => 0))), (q_3, .inl (cA_9, 4002, .inl (fun _ => 0))), (q_4, .inl (cA_10, 4002, .inl (fun _ => 0))), (q_5, .inl (cA_11, 4002, .inr (.inl (fun _ => 0)))), (q_12, .inr (3, [.ref q_13, .ref q_14, .ref q_15, .ref q_16, .ref q_17])), (q_13, .inl (cA_18, 5, .inl (f_19)))] := hD
  refine lv_aload_n hx hb dX11_init_83 rfl (lv_at hl 0 rfl) ?_
  refine va_new (ci := 5) (fs := [.null, .null, .null, .null, .null, .null, .null, .null, .null, .null, .int 0, .int 0, .null, .int 0, .int 0, .long 0, .int 0]) (C := RX5) (T := TX5) (N := 17) hx hb hts (by decide +kernel) tyX5 tyX5_ok hown (hts (.classLink RX11 50 RX5) (by decide +kernel)) (hts (.instantiable RX5 17) (by decide +kernel)) (hts (.initialized RX5) (by decide +kernel)) hK hP hD hS hA rfl (fun j hj => by rcases (show j = 0 ∨ j = 1 ∨ j = 2 ∨ j = 3 ∨ j = 4 ∨ j = 5 ∨ j = 6 ∨ j = 7 ∨ j = 8 ∨ j = 9 ∨ j = 10 ∨ j = 11 ∨ j = 12 ∨ j = 13 ∨ j = 14 ∨ j = 15 ∨ j = 16 by omega) with rfl | rfl | rfl | rfl | rfl | rfl | rfl | rfl | rfl | rfl | rfl | rfl | rfl | rfl | rfl | rfl | rfl <;> rfl) (show 33 + 1 ≤ 61 by omega) (show 22430 + 17 ≤ 46933 by omega) dX11_init_84 (fun q_23 H hP hD hS => ?_)
  have hP : va_P (dC, dI) vwCl [(h0, .inr (11, [.ref q_1, .ref q_12, .ref q_20, .ref q_21, .ref q_22, .null, .null, .null, .int 0])), (q_1, .inr (9, [.ref q_2, .ref q_3, .ref q_4, .ref q_5, .ref q_6, .ref q_7, .int 0, .int 0, .int 0, .int 0, .int 0])), (q_2, .inl (cA_8, 4000, .inl (fun _ => 0))), (q_3, .inl (cA_9, 4002, .inl (fun _ => 0))), (q_4, .inl (cA_10, 4002, .inl (fun _ => 0))), (q_5, .inl (cA_11, 4002, .inr (.inl (fun _ => 0)))), (q_12, .inr (3, [.ref q_13, .ref q_14, .ref q_15, .ref q_16, .ref q_17])), (q_13, .inl (cA_18, 5, .inl (f_19))), (q_23, .inr (5, [.null, .null, .null, .null, .null, .null, .null, .null, .null, .null, .int 0, .int 0, .null, .int 0, .int 0, .long 0, .int 0]))] H := hP
  have hD : va_D A [(h0, .inr (11, [.ref q_1, .ref q_12, .ref q_20, .ref q_21, .ref q_22, .null, .null, .null, .int 0])), (q_1, .inr (9, [.ref q_2, .ref q_3, .ref q_4, .ref q_5, .ref q_6, .ref q_7, .int 0, .int 0, .int 0, .int 0, .int 0])), (q_2, .inl (cA_8, 4000, .inl (fun _ => 0))), (q_3, .inl (cA_9, 4002, .inl (fun _ => 0))), (q_4, .inl (cA_10, 4002, .inl (fun _ => 0))), (q_5, .inl (cA_11, 4002, .inr (.inl (fun _ => 0)))), (q_12, .inr (3, [.ref q_13, .ref q_14, .ref q_15, .ref q_16, .ref q_17])), (q_13, .inl (cA_18, 5, .inl (f_19))), (q_23, .inr (5, [.null, .null, .null, .null, .null, .null, .null, .null, .null, .null, .int 0, .int 0, .null, .int 0, .int 0, .long 0, .int 0]))] := hD
  refine W.widen (k := 34) (n := 22447) (by omega) (by omega) ?_
  refine lv_dup hx hb dX11_init_87 rfl ?_
  refine lv_aload_n hx hb dX11_init_88 rfl (lv_at hl 0 rfl) ?_
  refine va_get (D := (dC, dI)) (ci := 11) (v := .ref q_12) (C := RX11) (T := TX11) (N := 9) hx hb hts (by decide +kernel) hown hK hP 0 rfl rfl 1 (by decide) (hts (.fieldLink RX11 19 "ProofBench" "names" "LProofBench$Names;") (by decide +kernel)) (fun _ h9 => h9) rfl dX11_init_89 ?_
  refine lv_aload_n hx hb dX11_init_92 rfl (lv_at hl 0 rfl) ?_
  refine va_get (D := (dC, dI)) (ci := 11) (v := .ref q_20) (C := RX11) (T := TX11) (N := 9) hx hb hts (by decide +kernel) hown hK hP 0 rfl rfl 2 (by decide) (hts (.fieldLink RX11 28 "ProofBench" "forms" "LProofBench$Forms;") (by decide +kernel)) (fun _ h9 => h9) rfl dX11_init_93 ?_
  refine lv_aload_n hx hb dX11_init_96 rfl (lv_at hl 0 rfl) ?_
  refine va_get (D := (dC, dI)) (ci := 11) (v := .ref q_22) (C := RX11) (T := TX11) (N := 9) hx hb hts (by decide +kernel) hown hK hP 0 rfl rfl 4 (by decide) (hts (.fieldLink RX11 46 "ProofBench" "look" "LProofBench$Look;") (by decide +kernel)) (fun _ h9 => h9) rfl dX11_init_97 ?_
  have hPc := hP.sub (ws' := [(q_23, .inr (5, [.null, .null, .null, .null, .null, .null, .null, .null, .null, .null, .int 0, .int 0, .null, .int 0, .int 0, .long 0, .int 0]))]) [8] rfl
  have hDc := hD.sub (ws' := [(q_23, .inr (5, [.null, .null, .null, .null, .null, .null, .null, .null, .null, .null, .int 0, .int 0, .null, .int 0, .int 0, .long 0, .int 0]))]) [8] (by decide) rfl
  have hKc := hK.sub (tys' := []) [] rfl
  have hFc := va_free (wc := [(q_23, .inr (5, [.null, .null, .null, .null, .null, .null, .null, .null, .null, .null, .int 0, .int 0, .null, .int 0, .int 0, .long 0, .int 0]))]) hD hS hA [8] rfl
  refine va_callv (va_runI (As := [.ref q_12, .ref q_20, .ref q_22]) (rest := [.ref q_23, .ref h0]) ⟨hx, hb, hml, hown, hts⟩ (c_Proof_init l dC dI H.size q_23 q_12 q_20 q_22) (cwI 3 hts gX11_init_X5_init rfl rfl rfl (hts (.initialized RX5) (by decide +kernel)) (hts (.methodLink RX11 52 yX5_init) (by decide +kernel)) (hts (.instanceMethod yX5_init) (by decide +kernel)) rfl (by decide +kernel) ⟨Nat.le_of_ble_eq_true rfl, Nat.le_of_ble_eq_true rfl⟩) ⟨fun a U g mk q => by obtain ⟨q0, q1, qP, qK, qD, qE0, qE1, qE2⟩ := q; exact ⟨q0, q1, qP, va_K.moved (u := U) (U := U.calling g mk a) (Vm.Alike.refl U.vm) qK, qD, va_AO.moved (u := U) (U := U.calling g mk a) (Vm.Alike.refl U.vm) qE0, va_AO.moved (u := U) (U := U.calling g mk a) (Vm.Alike.refl U.vm) qE1, va_AO.moved (u := U) (U := U.calling g mk a) (Vm.Alike.refl U.vm) qE2⟩, fun U hU hW => ⟨rfl, by rw [hU], by rw [hU]; exact hPc, va_K.moved hW.alike hKc, hDc.weaken (fun _ _ _ _ => trivial), va_AO.moved hW.alike hao6, va_AO.moved hW.alike hao8, va_AO.moved hW.alike hao10⟩⟩ rfl rfl hl.1 rfl (lv_room (Nat.le_of_ble_eq_true rfl)) dX11_init_100 ⟨(show 34 + 22 ≤ 61 by omega), (show 22447 + 4413 ≤ 46933 by omega)⟩) hS (fun q _ h => hFc q h) hFc (fun u t H1 locs ht hvm hw hB hz1 hk1 hS => ?_)
  obtain ⟨q_24, q_25, q_26, q_27, q_28, q_29, q_30, q_31, hP1, hK1, hD1⟩ := hB
  rw [ht] at hP1
  have hK1 := va_K.moved hvm.symm hK1
  obtain ⟨hP, hD⟩ := va_join (wr := [(h0, .inr (11, [.ref q_1, .ref q_12, .ref q_20, .ref q_21, .ref q_22, .null, .null, .null, .int 0])), (q_1, .inr (9, [.ref q_2, .ref q_3, .ref q_4, .ref q_5, .ref q_6, .ref q_7, .int 0, .int 0, .int 0, .int 0, .int 0])), (q_2, .inl (cA_8, 4000, .inl (fun _ => 0))), (q_3, .inl (cA_9, 4002, .inl (fun _ => 0))), (q_4, .inl (cA_10, 4002, .inl (fun _ => 0))), (q_5, .inl (cA_11, 4002, .inr (.inl (fun _ => 0)))), (q_12, .inr (3, [.ref q_13, .ref q_14, .ref q_15, .ref q_16, .ref q_17])), (q_13, .inl (cA_18, 5, .inl (f_19)))]) (w1 := [(q_23, .inr (5, [.ref q_12, .ref q_20, .ref q_22, .ref q_24, .ref q_25, .ref q_26, .ref q_27, .ref q_28, .ref q_29, .ref q_30, .int 0, .int 0, .ref q_31, .int 0, .int 0, .long 0, .int 0]))]) hP hD [8] [0, 1, 2, 3, 4, 5, 6, 7] rfl rfl (by decide) (by decide) hk1 hFc hP1 hD1
  have hK := (hK.sub (tys' := [(cA_8, .byte), (cA_9, .int), (cA_10, .int), (cA_11, .long), (cA_18, .int)]) [0, 1, 2, 3, 4] rfl).app hK1
  generalize H1 = H at hP hS ⊢
  have hP : va_P (dC, dI) vwCl [(h0, .inr (11, [.ref q_1, .ref q_12, .ref q_20, .ref q_21, .ref q_22, .null, .null, .null, .int 0])), (q_1, .inr (9, [.ref q_2, .ref q_3, .ref q_4, .ref q_5, .ref q_6, .ref q_7, .int 0, .int 0, .int 0, .int 0, .int 0])), (q_2, .inl (cA_8, 4000, .inl (fun _ => 0))), (q_3, .inl (cA_9, 4002, .inl (fun _ => 0))), (q_4, .inl (cA_10, 4002, .inl (fun _ => 0))), (q_5, .inl (cA_11, 4002, .inr (.inl (fun _ => 0)))), (q_12, .inr (3, [.ref q_13, .ref q_14, .ref q_15, .ref q_16, .ref q_17])), (q_13, .inl (cA_18, 5, .inl (f_19))), (q_23, .inr (5, [.ref q_12, .ref q_20, .ref q_22, .ref q_24, .ref q_25, .ref q_26, .ref q_27, .ref q_28, .ref q_29, .ref q_30, .int 0, .int 0, .ref q_31, .int 0, .int 0, .long 0, .int 0]))] H := hP
  have hD : va_D A [(h0, .inr (11, [.ref q_1, .ref q_12, .ref q_20, .ref q_21, .ref q_22, .null, .null, .null, .int 0])), (q_1, .inr (9, [.ref q_2, .ref q_3, .ref q_4, .ref q_5, .ref q_6, .ref q_7, .int 0, .int 0, .int 0, .int 0, .int 0])), (q_2, .inl (cA_8, 4000, .inl (fun _ => 0))), (q_3, .inl (cA_9, 4002, .inl (fun _ => 0))), (q_4, .inl (cA_10, 4002, .inl (fun _ => 0))), (q_5, .inl (cA_11, 4002, .inr (.inl (fun _ => 0)))), (q_12, .inr (3, [.ref q_13, .ref q_14, .ref q_15, .ref q_16, .ref q_17])), (q_13, .inl (cA_18, 5, .inl (f_19))), (q_23, .inr (5, [.ref q_12, .ref q_20, .ref q_22, .ref q_24, .ref q_25, .ref q_26, .ref q_27, .ref q_28, .ref q_29, .ref q_30, .int 0, .int 0, .ref q_31, .int 0, .int 0, .long 0, .int 0]))] := hD
  have hK : va_K (dC, dI) vwCl [(cA_8, .byte), (cA_9, .int), (cA_10, .int), (cA_11, .long), (cA_18, .int)] s := hK
  refine W.widen (k := 56) (n := 26860) (by omega) (by omega) ?_
  refine va_putF (D := (dC, dI)) (ci := 11) (v := .ref q_23) (ty := .object "ProofBench$Proof") (C := RX11) (T := TX11) (N := 9) hx hb hts (by decide +kernel) tyX11 tyX11_ok nmX11 hown hK hP hD hS 0 rfl rfl 5 (by decide) (hts (.fieldLink RX11 55 "ProofBench" "proof" "LProofBench$Proof;") (by decide +kernel)) (fun _ h9 => h9) rfl hin rfl (by decide +kernel) rfl rfl (Nat.le_of_ble_eq_true rfl) dX11_init_103 (fun H locs hP hD hS => ?_)
  have hP : va_P (dC, dI) vwCl [(h0, .inr (11, [.ref q_1, .ref q_12, .ref q_20, .ref q_21, .ref q_22, .ref q_23, .null, .null, .int 0])), (q_1, .inr (9, [.ref q_2, .ref q_3, .ref q_4, .ref q_5, .ref q_6, .ref q_7, .int 0, .int 0, .int 0, .int 0, .int 0])), (q_2, .inl (cA_8, 4000, .inl (fun _ => 0))), (q_3, .inl (cA_9, 4002, .inl (fun _ => 0))), (q_4, .inl (cA_10, 4002, .inl (fun _ => 0))), (q_5, .inl (cA_11, 4002, .inr (.inl (fun _ => 0)))), (q_12, .inr (3, [.ref q_13, .ref q_14, .ref q_15, .ref q_16, .ref q_17])), (q_13, .inl (cA_18, 5, .inl (f_19))), (q_23, .inr (5, [.ref q_12, .ref q_20, .ref q_22, .ref q_24, .ref q_25, .ref q_26, .ref q_27, .ref q_28, .ref q_29, .ref q_30, .int 0, .int 0, .ref q_31, .int 0, .int 0, .long 0, .int 0]))] H := hP
  have hD : va_D A [(h0, .inr (11, [.ref q_1, .ref q_12, .ref q_20, .ref q_21, .ref q_22, .ref q_23, .null, .null, .int 0])), (q_1, .inr (9, [.ref q_2, .ref q_3, .ref q_4, .ref q_5, .ref q_6, .ref q_7, .int 0, .int 0, .int 0, .int 0, .int 0])), (q_2, .inl (cA_8, 4000, .inl (fun _ => 0))), (q_3, .inl (cA_9, 4002, .inl (fun _ => 0))), (q_4, .inl (cA_10, 4002, .inl (fun _ => 0))), (q_5, .inl (cA_11, 4002, .inr (.inl (fun _ => 0)))), (q_12, .inr (3, [.ref q_13, .ref q_14, .ref q_15, .ref q_16, .ref q_17])), (q_13, .inl (cA_18, 5, .inl (f_19))), (q_23, .inr (5, [.ref q_12, .ref q_20, .ref q_22, .ref q_24, .ref q_25, .ref q_26, .ref q_27, .ref q_28, .ref q_29, .ref q_30, .int 0, .int 0, .ref q_31, .int 0, .int 0, .long 0, .int 0]))] := hD
  refine lv_aload_n hx hb dX11_init_106 rfl (lv_at hl 0 rfl) ?_
  refine va_new (ci := 4) (fs := [.null, .null, .null, .null, .int 0]) (C := RX4) (T := TX4) (N := 5) hx hb hts (by decide +kernel) tyX4 tyX4_ok hown (hts (.classLink RX11 59 RX4) (by decide +kernel)) (hts (.instantiable RX4 5) (by decide +kernel)) (hts (.initialized RX4) (by decide +kernel)) hK hP hD hS hA rfl (fun j hj => by rcases (show j = 0 ∨ j = 1 ∨ j = 2 ∨ j = 3 ∨ j = 4 by omega) with rfl | rfl | rfl | rfl | rfl <;> rfl) (show 56 + 1 ≤ 61 by omega) (show 26860 + 5 ≤ 46933 by omega) dX11_init_107 (fun q_32 H hP hD hS => ?_)
  have hP : va_P (dC, dI) vwCl [(h0, .inr (11, [.ref q_1, .ref q_12, .ref q_20, .ref q_21, .ref q_22, .ref q_23, .null, .null, .int 0])), (q_1, .inr (9, [.ref q_2, .ref q_3, .ref q_4, .ref q_5, .ref q_6, .ref q_7, .int 0, .int 0, .int 0, .int 0, .int 0])), (q_2, .inl (cA_8, 4000, .inl (fun _ => 0))), (q_3, .inl (cA_9, 4002, .inl (fun _ => 0))), (q_4, .inl (cA_10, 4002, .inl (fun _ => 0))), (q_5, .inl (cA_11, 4002, .inr (.inl (fun _ => 0)))), (q_12, .inr (3, [.ref q_13, .ref q_14, .ref q_15, .ref q_16, .ref q_17])), (q_13, .inl (cA_18, 5, .inl (f_19))), (q_23, .inr (5, [.ref q_12, .ref q_20, .ref q_22, .ref q_24, .ref q_25, .ref q_26, .ref q_27, .ref q_28, .ref q_29, .ref q_30, .int 0, .int 0, .ref q_31, .int 0, .int 0, .long 0, .int 0])), (q_32, .inr (4, [.null, .null, .null, .null, .int 0]))] H := hP
  have hD : va_D A [(h0, .inr (11, [.ref q_1, .ref q_12, .ref q_20, .ref q_21, .ref q_22, .ref q_23, .null, .null, .int 0])), (q_1, .inr (9, [.ref q_2, .ref q_3, .ref q_4, .ref q_5, .ref q_6, .ref q_7, .int 0, .int 0, .int 0, .int 0, .int 0])), (q_2, .inl (cA_8, 4000, .inl (fun _ => 0))), (q_3, .inl (cA_9, 4002, .inl (fun _ => 0))), (q_4, .inl (cA_10, 4002, .inl (fun _ => 0))), (q_5, .inl (cA_11, 4002, .inr (.inl (fun _ => 0)))), (q_12, .inr (3, [.ref q_13, .ref q_14, .ref q_15, .ref q_16, .ref q_17])), (q_13, .inl (cA_18, 5, .inl (f_19))), (q_23, .inr (5, [.ref q_12, .ref q_20, .ref q_22, .ref q_24, .ref q_25, .ref q_26, .ref q_27, .ref q_28, .ref q_29, .ref q_30, .int 0, .int 0, .ref q_31, .int 0, .int 0, .long 0, .int 0])), (q_32, .inr (4, [.null, .null, .null, .null, .int 0]))] := hD
  refine W.widen (k := 57) (n := 26865) (by omega) (by omega) ?_
  refine lv_dup hx hb dX11_init_110 rfl ?_
  refine lv_aload_n hx hb dX11_init_111 rfl (lv_at hl 0 rfl) ?_
  refine va_get (D := (dC, dI)) (ci := 11) (v := .ref q_12) (C := RX11) (T := TX11) (N := 9) hx hb hts (by decide +kernel) hown hK hP 0 rfl rfl 1 (by decide) (hts (.fieldLink RX11 19 "ProofBench" "names" "LProofBench$Names;") (by decide +kernel)) (fun _ h9 => h9) rfl dX11_init_112 ?_
  have hPc := hP.sub (ws' := [(q_32, .inr (4, [.null, .null, .null, .null, .int 0]))]) [9] rfl
  have hDc := hD.sub (ws' := [(q_32, .inr (4, [.null, .null, .null, .null, .int 0]))]) [9] (by decide) rfl
  have hKc := hK.sub (tys' := []) [] rfl
  have hFc := va_free (wc := [(q_32, .inr (4, [.null, .null, .null, .null, .int 0]))]) hD hS hA [9] rfl
  refine va_callv (va_runI (As := [.ref q_12]) (rest := [.ref q_32, .ref h0]) ⟨hx, hb, hml, hown, hts⟩ (c_Out_init l dC dI H.size q_32 q_12) (cwI 1 hts gX11_init_X4_init rfl rfl rfl (hts (.initialized RX4) (by decide +kernel)) (hts (.methodLink RX11 61 yX4_init) (by decide +kernel)) (hts (.instanceMethod yX4_init) (by decide +kernel)) rfl (by decide +kernel) ⟨Nat.le_of_ble_eq_true rfl, Nat.le_of_ble_eq_true rfl⟩) ⟨fun a U g mk q => by obtain ⟨q0, q1, qP, qK, qD⟩ := q; exact ⟨q0, q1, qP, va_K.moved (u := U) (U := U.calling g mk a) (Vm.Alike.refl U.vm) qK, qD⟩, fun U hU hW => ⟨rfl, by rw [hU], by rw [hU]; exact hPc, va_K.moved hW.alike hKc, hDc.weaken (fun _ _ _ _ => trivial)⟩⟩ rfl rfl hl.1 rfl (lv_room (Nat.le_of_ble_eq_true rfl)) dX11_init_115 ⟨(show 57 + 3 ≤ 61 by omega), (show 26865 + 20052 ≤ 46933 by omega)⟩) hS (fun q _ h => hFc q h) hFc (fun u t H1 locs ht hvm hw hB hz1 hk1 hS => ?_)
  obtain ⟨q_33, q_34, q_35, hP1, hK1, hD1⟩ := hB
  rw [ht] at hP1
  have hK1 := va_K.moved hvm.symm hK1
  obtain ⟨hP, hD⟩ := va_join (wr := [(h0, .inr (11, [.ref q_1, .ref q_12, .ref q_20, .ref q_21, .ref q_22, .ref q_23, .null, .null, .int 0])), (q_1, .inr (9, [.ref q_2, .ref q_3, .ref q_4, .ref q_5, .ref q_6, .ref q_7, .int 0, .int 0, .int 0, .int 0, .int 0])), (q_2, .inl (cA_8, 4000, .inl (fun _ => 0))), (q_3, .inl (cA_9, 4002, .inl (fun _ => 0))), (q_4, .inl (cA_10, 4002, .inl (fun _ => 0))), (q_5, .inl (cA_11, 4002, .inr (.inl (fun _ => 0)))), (q_12, .inr (3, [.ref q_13, .ref q_14, .ref q_15, .ref q_16, .ref q_17])), (q_13, .inl (cA_18, 5, .inl (f_19))), (q_23, .inr (5, [.ref q_12, .ref q_20, .ref q_22, .ref q_24, .ref q_25, .ref q_26, .ref q_27, .ref q_28, .ref q_29, .ref q_30, .int 0, .int 0, .ref q_31, .int 0, .int 0, .long 0, .int 0]))]) (w1 := [(q_32, .inr (4, [.ref q_12, .ref q_33, .ref q_34, .ref q_35, .int 0]))]) hP hD [9] [0, 1, 2, 3, 4, 5, 6, 7, 8] rfl rfl (by decide) (by decide) hk1 hFc hP1 hD1
  have hK := (hK.sub (tys' := [(cA_8, .byte), (cA_9, .int), (cA_10, .int), (cA_11, .long), (cA_18, .int)]) [0, 1, 2, 3, 4] rfl).app hK1
  generalize H1 = H at hP hS ⊢
  have hP : va_P (dC, dI) vwCl [(h0, .inr (11, [.ref q_1, .ref q_12, .ref q_20, .ref q_21, .ref q_22, .ref q_23, .null, .null, .int 0])), (q_1, .inr (9, [.ref q_2, .ref q_3, .ref q_4, .ref q_5, .ref q_6, .ref q_7, .int 0, .int 0, .int 0, .int 0, .int 0])), (q_2, .inl (cA_8, 4000, .inl (fun _ => 0))), (q_3, .inl (cA_9, 4002, .inl (fun _ => 0))), (q_4, .inl (cA_10, 4002, .inl (fun _ => 0))), (q_5, .inl (cA_11, 4002, .inr (.inl (fun _ => 0)))), (q_12, .inr (3, [.ref q_13, .ref q_14, .ref q_15, .ref q_16, .ref q_17])), (q_13, .inl (cA_18, 5, .inl (f_19))), (q_23, .inr (5, [.ref q_12, .ref q_20, .ref q_22, .ref q_24, .ref q_25, .ref q_26, .ref q_27, .ref q_28, .ref q_29, .ref q_30, .int 0, .int 0, .ref q_31, .int 0, .int 0, .long 0, .int 0])), (q_32, .inr (4, [.ref q_12, .ref q_33, .ref q_34, .ref q_35, .int 0]))] H := hP
  have hD : va_D A [(h0, .inr (11, [.ref q_1, .ref q_12, .ref q_20, .ref q_21, .ref q_22, .ref q_23, .null, .null, .int 0])), (q_1, .inr (9, [.ref q_2, .ref q_3, .ref q_4, .ref q_5, .ref q_6, .ref q_7, .int 0, .int 0, .int 0, .int 0, .int 0])), (q_2, .inl (cA_8, 4000, .inl (fun _ => 0))), (q_3, .inl (cA_9, 4002, .inl (fun _ => 0))), (q_4, .inl (cA_10, 4002, .inl (fun _ => 0))), (q_5, .inl (cA_11, 4002, .inr (.inl (fun _ => 0)))), (q_12, .inr (3, [.ref q_13, .ref q_14, .ref q_15, .ref q_16, .ref q_17])), (q_13, .inl (cA_18, 5, .inl (f_19))), (q_23, .inr (5, [.ref q_12, .ref q_20, .ref q_22, .ref q_24, .ref q_25, .ref q_26, .ref q_27, .ref q_28, .ref q_29, .ref q_30, .int 0, .int 0, .ref q_31, .int 0, .int 0, .long 0, .int 0])), (q_32, .inr (4, [.ref q_12, .ref q_33, .ref q_34, .ref q_35, .int 0]))] := hD
  have hK : va_K (dC, dI) vwCl [(cA_8, .byte), (cA_9, .int), (cA_10, .int), (cA_11, .long), (cA_18, .int)] s := hK
  refine W.widen (k := 60) (n := 46917) (by omega) (by omega) ?_
  refine va_putF (D := (dC, dI)) (ci := 11) (v := .ref q_32) (ty := .object "ProofBench$Out") (C := RX11) (T := TX11) (N := 9) hx hb hts (by decide +kernel) tyX11 tyX11_ok nmX11 hown hK hP hD hS 0 rfl rfl 6 (by decide) (hts (.fieldLink RX11 62 "ProofBench" "said" "LProofBench$Out;") (by decide +kernel)) (fun _ h9 => h9) rfl hin rfl (by decide +kernel) rfl rfl (Nat.le_of_ble_eq_true rfl) dX11_init_118 (fun H locs hP hD hS => ?_)
  have hP : va_P (dC, dI) vwCl [(h0, .inr (11, [.ref q_1, .ref q_12, .ref q_20, .ref q_21, .ref q_22, .ref q_23, .ref q_32, .null, .int 0])), (q_1, .inr (9, [.ref q_2, .ref q_3, .ref q_4, .ref q_5, .ref q_6, .ref q_7, .int 0, .int 0, .int 0, .int 0, .int 0])), (q_2, .inl (cA_8, 4000, .inl (fun _ => 0))), (q_3, .inl (cA_9, 4002, .inl (fun _ => 0))), (q_4, .inl (cA_10, 4002, .inl (fun _ => 0))), (q_5, .inl (cA_11, 4002, .inr (.inl (fun _ => 0)))), (q_12, .inr (3, [.ref q_13, .ref q_14, .ref q_15, .ref q_16, .ref q_17])), (q_13, .inl (cA_18, 5, .inl (f_19))), (q_23, .inr (5, [.ref q_12, .ref q_20, .ref q_22, .ref q_24, .ref q_25, .ref q_26, .ref q_27, .ref q_28, .ref q_29, .ref q_30, .int 0, .int 0, .ref q_31, .int 0, .int 0, .long 0, .int 0])), (q_32, .inr (4, [.ref q_12, .ref q_33, .ref q_34, .ref q_35, .int 0]))] H := hP
  have hD : va_D A [(h0, .inr (11, [.ref q_1, .ref q_12, .ref q_20, .ref q_21, .ref q_22, .ref q_23, .ref q_32, .null, .int 0])), (q_1, .inr (9, [.ref q_2, .ref q_3, .ref q_4, .ref q_5, .ref q_6, .ref q_7, .int 0, .int 0, .int 0, .int 0, .int 0])), (q_2, .inl (cA_8, 4000, .inl (fun _ => 0))), (q_3, .inl (cA_9, 4002, .inl (fun _ => 0))), (q_4, .inl (cA_10, 4002, .inl (fun _ => 0))), (q_5, .inl (cA_11, 4002, .inr (.inl (fun _ => 0)))), (q_12, .inr (3, [.ref q_13, .ref q_14, .ref q_15, .ref q_16, .ref q_17])), (q_13, .inl (cA_18, 5, .inl (f_19))), (q_23, .inr (5, [.ref q_12, .ref q_20, .ref q_22, .ref q_24, .ref q_25, .ref q_26, .ref q_27, .ref q_28, .ref q_29, .ref q_30, .int 0, .int 0, .ref q_31, .int 0, .int 0, .long 0, .int 0])), (q_32, .inr (4, [.ref q_12, .ref q_33, .ref q_34, .ref q_35, .int 0]))] := hD
  refine lv_aload_n hx hb dX11_init_121 rfl (lv_at hl 0 rfl) ?_
  refine lv_bipush (v := 16) hx hb dX11_init_122 (by decide) ?_
  refine va_newa (atype := .int) (n := 16) (N' := 16) (ty := .int) (a0 := (16, .inl (fun _ => 0))) hx hb (hts (.arrayClass .int) (by decide +kernel)) rfl hK hP hD hS hA (fun _ => rfl) (by decide) (by decide) (by decide) (show 60 + 1 ≤ 61 by omega) (show 46917 + 16 ≤ 46933 by omega) dX11_init_124 (fun q_36 cA_37 H hK hP hD hS => ?_)
  have hP : va_P (dC, dI) vwCl [(h0, .inr (11, [.ref q_1, .ref q_12, .ref q_20, .ref q_21, .ref q_22, .ref q_23, .ref q_32, .null, .int 0])), (q_1, .inr (9, [.ref q_2, .ref q_3, .ref q_4, .ref q_5, .ref q_6, .ref q_7, .int 0, .int 0, .int 0, .int 0, .int 0])), (q_2, .inl (cA_8, 4000, .inl (fun _ => 0))), (q_3, .inl (cA_9, 4002, .inl (fun _ => 0))), (q_4, .inl (cA_10, 4002, .inl (fun _ => 0))), (q_5, .inl (cA_11, 4002, .inr (.inl (fun _ => 0)))), (q_12, .inr (3, [.ref q_13, .ref q_14, .ref q_15, .ref q_16, .ref q_17])), (q_13, .inl (cA_18, 5, .inl (f_19))), (q_23, .inr (5, [.ref q_12, .ref q_20, .ref q_22, .ref q_24, .ref q_25, .ref q_26, .ref q_27, .ref q_28, .ref q_29, .ref q_30, .int 0, .int 0, .ref q_31, .int 0, .int 0, .long 0, .int 0])), (q_32, .inr (4, [.ref q_12, .ref q_33, .ref q_34, .ref q_35, .int 0])), (q_36, .inl (cA_37, 16, .inl (fun _ => 0)))] H := hP
  have hD : va_D A [(h0, .inr (11, [.ref q_1, .ref q_12, .ref q_20, .ref q_21, .ref q_22, .ref q_23, .ref q_32, .null, .int 0])), (q_1, .inr (9, [.ref q_2, .ref q_3, .ref q_4, .ref q_5, .ref q_6, .ref q_7, .int 0, .int 0, .int 0, .int 0, .int 0])), (q_2, .inl (cA_8, 4000, .inl (fun _ => 0))), (q_3, .inl (cA_9, 4002, .inl (fun _ => 0))), (q_4, .inl (cA_10, 4002, .inl (fun _ => 0))), (q_5, .inl (cA_11, 4002, .inr (.inl (fun _ => 0)))), (q_12, .inr (3, [.ref q_13, .ref q_14, .ref q_15, .ref q_16, .ref q_17])), (q_13, .inl (cA_18, 5, .inl (f_19))), (q_23, .inr (5, [.ref q_12, .ref q_20, .ref q_22, .ref q_24, .ref q_25, .ref q_26, .ref q_27, .ref q_28, .ref q_29, .ref q_30, .int 0, .int 0, .ref q_31, .int 0, .int 0, .long 0, .int 0])), (q_32, .inr (4, [.ref q_12, .ref q_33, .ref q_34, .ref q_35, .int 0])), (q_36, .inl (cA_37, 16, .inl (fun _ => 0)))] := hD
  have hK : va_K (dC, dI) vwCl [(cA_8, .byte), (cA_9, .int), (cA_10, .int), (cA_11, .long), (cA_18, .int), (cA_37, .int)] s := hK
  refine W.widen (k := 61) (n := 46933) (by omega) (by omega) ?_
  refine va_putF (D := (dC, dI)) (ci := 11) (v := .ref q_36) (ty := .array .int) (C := RX11) (T := TX11) (N := 9) hx hb hts (by decide +kernel) tyX11 tyX11_ok nmX11 hown hK hP hD hS 0 rfl rfl 7 (by decide) (hts (.fieldLink RX11 66 "ProofBench" "refused" "[I") (by decide +kernel)) (fun _ h9 => h9) rfl hin rfl (by decide +kernel) rfl rfl (Nat.le_of_ble_eq_true rfl) dX11_init_126 (fun H locs hP hD hS => ?_)
  have hP : va_P (dC, dI) vwCl [(h0, .inr (11, [.ref q_1, .ref q_12, .ref q_20, .ref q_21, .ref q_22, .ref q_23, .ref q_32, .ref q_36, .int 0])), (q_1, .inr (9, [.ref q_2, .ref q_3, .ref q_4, .ref q_5, .ref q_6, .ref q_7, .int 0, .int 0, .int 0, .int 0, .int 0])), (q_2, .inl (cA_8, 4000, .inl (fun _ => 0))), (q_3, .inl (cA_9, 4002, .inl (fun _ => 0))), (q_4, .inl (cA_10, 4002, .inl (fun _ => 0))), (q_5, .inl (cA_11, 4002, .inr (.inl (fun _ => 0)))), (q_12, .inr (3, [.ref q_13, .ref q_14, .ref q_15, .ref q_16, .ref q_17])), (q_13, .inl (cA_18, 5, .inl (f_19))), (q_23, .inr (5, [.ref q_12, .ref q_20, .ref q_22, .ref q_24, .ref q_25, .ref q_26, .ref q_27, .ref q_28, .ref q_29, .ref q_30, .int 0, .int 0, .ref q_31, .int 0, .int 0, .long 0, .int 0])), (q_32, .inr (4, [.ref q_12, .ref q_33, .ref q_34, .ref q_35, .int 0])), (q_36, .inl (cA_37, 16, .inl (fun _ => 0)))] H := hP
  have hD : va_D A [(h0, .inr (11, [.ref q_1, .ref q_12, .ref q_20, .ref q_21, .ref q_22, .ref q_23, .ref q_32, .ref q_36, .int 0])), (q_1, .inr (9, [.ref q_2, .ref q_3, .ref q_4, .ref q_5, .ref q_6, .ref q_7, .int 0, .int 0, .int 0, .int 0, .int 0])), (q_2, .inl (cA_8, 4000, .inl (fun _ => 0))), (q_3, .inl (cA_9, 4002, .inl (fun _ => 0))), (q_4, .inl (cA_10, 4002, .inl (fun _ => 0))), (q_5, .inl (cA_11, 4002, .inr (.inl (fun _ => 0)))), (q_12, .inr (3, [.ref q_13, .ref q_14, .ref q_15, .ref q_16, .ref q_17])), (q_13, .inl (cA_18, 5, .inl (f_19))), (q_23, .inr (5, [.ref q_12, .ref q_20, .ref q_22, .ref q_24, .ref q_25, .ref q_26, .ref q_27, .ref q_28, .ref q_29, .ref q_30, .int 0, .int 0, .ref q_31, .int 0, .int 0, .long 0, .int 0])), (q_32, .inr (4, [.ref q_12, .ref q_33, .ref q_34, .ref q_35, .int 0])), (q_36, .inl (cA_37, 16, .inl (fun _ => 0)))] := hD
  refine lv_aload_n hx hb dX11_init_129 rfl (lv_at hl 0 rfl) ?_
  refine lv_iconst (v := -1) hx hb dX11_init_130 (by decide) ?_
  refine va_put (D := (dC, dI)) (ci := 11) (v := .int (-1)) (ty := .int) (C := RX11) (T := TX11) (N := 9) hx hb hts (by decide +kernel) tyX11 tyX11_ok nmX11 hown hK hP hD hS 0 rfl rfl 8 (by decide) (hts (.fieldLink RX11 70 "ProofBench" "wrongAt" "I") (by decide +kernel)) (fun _ h9 => h9) rfl (by decide +kernel) rfl rfl (Nat.le_of_ble_eq_true rfl) dX11_init_131 (fun H locs hP hD hS => ?_)
  have hP : va_P (dC, dI) vwCl [(h0, .inr (11, [.ref q_1, .ref q_12, .ref q_20, .ref q_21, .ref q_22, .ref q_23, .ref q_32, .ref q_36, .int (-1)])), (q_1, .inr (9, [.ref q_2, .ref q_3, .ref q_4, .ref q_5, .ref q_6, .ref q_7, .int 0, .int 0, .int 0, .int 0, .int 0])), (q_2, .inl (cA_8, 4000, .inl (fun _ => 0))), (q_3, .inl (cA_9, 4002, .inl (fun _ => 0))), (q_4, .inl (cA_10, 4002, .inl (fun _ => 0))), (q_5, .inl (cA_11, 4002, .inr (.inl (fun _ => 0)))), (q_12, .inr (3, [.ref q_13, .ref q_14, .ref q_15, .ref q_16, .ref q_17])), (q_13, .inl (cA_18, 5, .inl (f_19))), (q_23, .inr (5, [.ref q_12, .ref q_20, .ref q_22, .ref q_24, .ref q_25, .ref q_26, .ref q_27, .ref q_28, .ref q_29, .ref q_30, .int 0, .int 0, .ref q_31, .int 0, .int 0, .long 0, .int 0])), (q_32, .inr (4, [.ref q_12, .ref q_33, .ref q_34, .ref q_35, .int 0])), (q_36, .inl (cA_37, 16, .inl (fun _ => 0)))] H := hP
  have hD : va_D A [(h0, .inr (11, [.ref q_1, .ref q_12, .ref q_20, .ref q_21, .ref q_22, .ref q_23, .ref q_32, .ref q_36, .int (-1)])), (q_1, .inr (9, [.ref q_2, .ref q_3, .ref q_4, .ref q_5, .ref q_6, .ref q_7, .int 0, .int 0, .int 0, .int 0, .int 0])), (q_2, .inl (cA_8, 4000, .inl (fun _ => 0))), (q_3, .inl (cA_9, 4002, .inl (fun _ => 0))), (q_4, .inl (cA_10, 4002, .inl (fun _ => 0))), (q_5, .inl (cA_11, 4002, .inr (.inl (fun _ => 0)))), (q_12, .inr (3, [.ref q_13, .ref q_14, .ref q_15, .ref q_16, .ref q_17])), (q_13, .inl (cA_18, 5, .inl (f_19))), (q_23, .inr (5, [.ref q_12, .ref q_20, .ref q_22, .ref q_24, .ref q_25, .ref q_26, .ref q_27, .ref q_28, .ref q_29, .ref q_30, .int 0, .int 0, .ref q_31, .int 0, .int 0, .long 0, .int 0])), (q_32, .inr (4, [.ref q_12, .ref q_33, .ref q_34, .ref q_35, .int 0])), (q_36, .inl (cA_37, 16, .inl (fun _ => 0)))] := hD
  have hP9 := hP.sub (ws' := [(h0, .inr (11, [.ref q_1, .ref q_12, .ref q_20, .ref q_21, .ref q_22, .ref q_23, .ref q_32, .ref q_36, .int (-1)])), (q_1, .inr (9, [.ref q_2, .ref q_3, .ref q_4, .ref q_5, .ref q_6, .ref q_7, .int 0, .int 0, .int 0, .int 0, .int 0])), (q_2, .inl (cA_8, 4000, .inl (fun _ => 0))), (q_3, .inl (cA_9, 4002, .inl (fun _ => 0))), (q_4, .inl (cA_10, 4002, .inl (fun _ => 0))), (q_5, .inl (cA_11, 4002, .inr (.inl (fun _ => 0)))), (q_12, .inr (3, [.ref q_13, .ref q_14, .ref q_15, .ref q_16, .ref q_17])), (q_13, .inl (cA_18, 5, .inl (f_19))), (q_23, .inr (5, [.ref q_12, .ref q_20, .ref q_22, .ref q_24, .ref q_25, .ref q_26, .ref q_27, .ref q_28, .ref q_29, .ref q_30, .int 0, .int 0, .ref q_31, .int 0, .int 0, .long 0, .int 0])), (q_32, .inr (4, [.ref q_12, .ref q_33, .ref q_34, .ref q_35, .int 0])), (q_36, .inl (cA_37, 16, .inl (fun _ => 0)))]) [0, 1, 2, 3, 4, 5, 6, 7, 8, 9, 10] rfl
  have hD9 := hD.sub (ws' := [(h0, .inr (11, [.ref q_1, .ref q_12, .ref q_20, .ref q_21, .ref q_22, .ref q_23, .ref q_32, .ref q_36, .int (-1)])), (q_1, .inr (9, [.ref q_2, .ref q_3, .ref q_4, .ref q_5, .ref q_6, .ref q_7, .int 0, .int 0, .int 0, .int 0, .int 0])), (q_2, .inl (cA_8, 4000, .inl (fun _ => 0))), (q_3, .inl (cA_9, 4002, .inl (fun _ => 0))), (q_4, .inl (cA_10, 4002, .inl (fun _ => 0))), (q_5, .inl (cA_11, 4002, .inr (.inl (fun _ => 0)))), (q_12, .inr (3, [.ref q_13, .ref q_14, .ref q_15, .ref q_16, .ref q_17])), (q_13, .inl (cA_18, 5, .inl (f_19))), (q_23, .inr (5, [.ref q_12, .ref q_20, .ref q_22, .ref q_24, .ref q_25, .ref q_26, .ref q_27, .ref q_28, .ref q_29, .ref q_30, .int 0, .int 0, .ref q_31, .int 0, .int 0, .long 0, .int 0])), (q_32, .inr (4, [.ref q_12, .ref q_33, .ref q_34, .ref q_35, .int 0])), (q_36, .inl (cA_37, 16, .inl (fun _ => 0)))]) [0, 1, 2, 3, 4, 5, 6, 7, 8, 9, 10] (by decide) rfl
  have hK9 := hK.sub (tys' := [(cA_8, .byte), (cA_9, .int), (cA_10, .int), (cA_11, .long), (cA_18, .int), (cA_37, .int)]) [0, 1, 2, 3, 4, 5] rfl
  refine W.widen (k := 61) (n := 46933) (by omega) (by omega) ?_
  exact W.vret hx hb hr (fun t ht hW => ⟨⟨(), rfl, trivial, q_1, q_12, q_20, q_21, q_22, q_23, q_32, q_36, q_2, q_3, q_4, q_5, q_6, q_7, cA_8, cA_9, cA_10, cA_11, q_13, q_14, q_15, q_16, q_17, cA_18, f_19, q_24, q_25, q_26, q_27, q_28, q_29, q_30, q_31, q_33, q_34, q_35, cA_37, by rw [ht]; exact hP9, va_K.moved hW.alike hK9, hD9, hg4⟩, hS.F ht⟩) hS.2.2 dX11_init_134
end
section
abbrev cX12_newName : ByteArray := prog_14_method_3_code
def yX12_newName : MethodName := ⟨RX12, "newName", "(II)I"⟩
abbrev cX12_init : ByteArray := prog_14_method_90_code
def yX12_init : MethodName := ⟨RX12, "<init>", "()V"⟩
abbrev cX12_known : ByteArray := prog_14_method_91_code
def yX12_known : MethodName := ⟨RX12, "known", "(Ljava/lang/String;[I)V"⟩
def wsX12_newName : List Cond := .code yX12_newName cX12_newName 5 (some .int) :: ([.fieldLink RX12 7 "ProofBenchModel" "names" "I", .fieldLink RX12 14 "ProofBenchModel" "letters" "[I", .fieldLink RX12 17 "ProofBenchModel" "tape" "[I", .fieldLink RX12 10 "ProofBenchModel" "letterMany" "[I", .fieldLink RX12 20 "ProofBenchModel" "asSort" "[I", .fieldLink RX12 23 "ProofBenchModel" "asFun" "[I", .fieldLink RX12 26 "ProofBenchModel" "asRel" "[I", .fieldLink RX12 29 "ProofBenchModel" "asVariable" "[I", .fieldLink RX12 32 "ProofBenchModel" "asFact" "[I"] ++ wsX120)
def wsX12_known_r1 : List Cond := [Cond.fieldLink RX12 17 "ProofBenchModel" "tape" "[I", Cond.methodLink RX12 244 yJ0_length_8abf5, Cond.instanceMethod yJ0_length_8abf5, Cond.selects RJ0 yJ0_length_8abf5 yJ0_length_8abf5, Cond.initialized RJ0, Cond.code yJ0_length_8abf5 cJ0_length_8abf5 1 (some .int), Cond.fieldLink RJ0 9 "java/lang/String" "value" "[B", Cond.methodLink RJ0 335 yJ0_coder_7d493, Cond.instanceMethod yJ0_coder_7d493, Cond.selects RJ0 yJ0_coder_7d493 yJ0_coder_7d493, Cond.code yJ0_coder_7d493 cJ0_coder_7d493 1 (some .byte), Cond.fieldLink RJ0 38 "java/lang/String" "COMPACT_STRINGS" "Z", Cond.fieldLink RJ0 15 "java/lang/String" "coder" "B", Cond.methodLink RX12 238 yJ0_charAt_5068e, Cond.instanceMethod yJ0_charAt_5068e, Cond.selects RJ0 yJ0_charAt_5068e yJ0_charAt_5068e, Cond.code yJ0_charAt_5068e cJ0_charAt_5068e 2 (some .char), Cond.methodLink RJ0 492 yJ0_isLatin1_aae02, Cond.instanceMethod yJ0_isLatin1_aae02, Cond.selects RJ0 yJ0_isLatin1_aae02 yJ0_isLatin1_aae02, Cond.code yJ0_isLatin1_aae02 cJ0_isLatin1_aae02 1 (some .boolean), Cond.methodLink RJ0 495 yJ1_charAt_3b067, Cond.static yJ1_charAt_3b067, Cond.initialized RJ1]
def wsX12_known_r2 : List Cond := [Cond.code yJ1_charAt_3b067 cJ1_charAt_3b067 2 (some .char), Cond.methodLink RJ1 9 yJ0_checkIndex_df160, Cond.static yJ0_checkIndex_df160, Cond.code yJ0_checkIndex_df160 cJ0_checkIndex_df160 2 none, Cond.fieldLink RJ0 1053 "jdk/internal/util/Preconditions" "SIOOBE_FORMATTER" "Ljava/util/function/BiFunction;", Cond.methodLink RJ0 1059 yJ3_checkIndex_8e157, Cond.static yJ3_checkIndex_8e157, Cond.initialized RJ3, Cond.code yJ3_checkIndex_8e157 cJ3_checkIndex_8e157 3 (some .int), Cond.methodLink RJ0 498 yJ2_charAt_3b067, Cond.static yJ2_charAt_3b067, Cond.initialized RJ2, Cond.code yJ2_charAt_3b067 cJ2_charAt_3b067 2 (some .char), Cond.methodLink RJ2 67 yJ2_checkIndex_2214a, Cond.static yJ2_checkIndex_2214a, Cond.code yJ2_checkIndex_2214a cJ2_checkIndex_2214a 2 none, Cond.methodLink RJ2 48 yJ2_length_9d52b, Cond.static yJ2_length_9d52b, Cond.code yJ2_length_9d52b cJ2_length_9d52b 1 (some .int), Cond.methodLink RJ2 414 yJ0_checkIndex_df160, Cond.methodLink RJ2 71 yJ2_getChar_3b067, Cond.static yJ2_getChar_3b067, Cond.code yJ2_getChar_3b067 cJ2_getChar_3b067 2 (some .char), Cond.fieldLink RJ2 44 "java/lang/StringUTF16" "$assertionsDisabled" "Z"]
def wsX12_known_r3 : List Cond := [Cond.fieldLink RJ2 59 "java/lang/StringUTF16" "HI_BYTE_SHIFT" "I", Cond.fieldLink RJ2 63 "java/lang/StringUTF16" "LO_BYTE_SHIFT" "I", Cond.methodLink RX12 558 yX12_newName, Cond.instanceMethod yX12_newName, Cond.selects RX12 yX12_newName yX12_newName, Cond.initialized RX12, Cond.code yX12_newName cX12_newName 5 (some .int), Cond.fieldLink RX12 7 "ProofBenchModel" "names" "I", Cond.fieldLink RX12 14 "ProofBenchModel" "letters" "[I", Cond.fieldLink RX12 10 "ProofBenchModel" "letterMany" "[I", Cond.fieldLink RX12 20 "ProofBenchModel" "asSort" "[I", Cond.fieldLink RX12 23 "ProofBenchModel" "asFun" "[I", Cond.fieldLink RX12 26 "ProofBenchModel" "asRel" "[I", Cond.fieldLink RX12 29 "ProofBenchModel" "asVariable" "[I", Cond.fieldLink RX12 32 "ProofBenchModel" "asFact" "[I"]
def wsX12_known : List Cond := .code yX12_known cX12_known 4 none :: ((wsX12_known_r1 ++ (wsX12_known_r2 ++ wsX12_known_r3)) ++ wsX120)
def wsX12_init_r1 : List Cond := [Cond.methodLink RX12 595 objectInit, Cond.instanceMethod objectInit, Cond.code objectInit ⟨#[0xb1]⟩ 1 none, Cond.arrayClass .int, Cond.fieldLink RX12 14 "ProofBenchModel" "letters" "[I", Cond.fieldLink RX12 10 "ProofBenchModel" "letterMany" "[I", Cond.fieldLink RX12 20 "ProofBenchModel" "asSort" "[I", Cond.fieldLink RX12 23 "ProofBenchModel" "asFun" "[I", Cond.fieldLink RX12 26 "ProofBenchModel" "asRel" "[I", Cond.fieldLink RX12 29 "ProofBenchModel" "asVariable" "[I", Cond.fieldLink RX12 32 "ProofBenchModel" "asFact" "[I", Cond.fieldLink RX12 589 "ProofBenchModel" "sortName" "[I", Cond.fieldLink RX12 547 "ProofBenchModel" "funName" "[I", Cond.fieldLink RX12 61 "ProofBenchModel" "funMany" "[I", Cond.fieldLink RX12 335 "ProofBenchModel" "funParts" "[I", Cond.fieldLink RX12 70 "ProofBenchModel" "funSort" "[I", Cond.fieldLink RX12 550 "ProofBenchModel" "relName" "[I", Cond.fieldLink RX12 64 "ProofBenchModel" "relMany" "[I", Cond.fieldLink RX12 338 "ProofBenchModel" "relParts" "[I", Cond.fieldLink RX12 542 "ProofBenchModel" "variableName" "[I", Cond.fieldLink RX12 67 "ProofBenchModel" "variableSort" "[I", Cond.constant RX12 600 (180000), Cond.fieldLink RX12 38 "ProofBenchModel" "kind" "[I", Cond.fieldLink RX12 45 "ProofBenchModel" "id" "[I"]
def wsX12_init_r2 : List Cond := [Cond.fieldLink RX12 48 "ProofBenchModel" "one" "[I", Cond.fieldLink RX12 51 "ProofBenchModel" "two" "[I", Cond.fieldLink RX12 54 "ProofBenchModel" "three" "[I", Cond.fieldLink RX12 104 "ProofBenchModel" "oneBound" "[I", Cond.fieldLink RX12 111 "ProofBenchModel" "otherBound" "[I", Cond.fieldLink RX12 17 "ProofBenchModel" "tape" "[I", Cond.fieldLink RX12 197 "ProofBenchModel" "rawSign" "[I", Cond.fieldLink RX12 200 "ProofBenchModel" "rawAt" "[I", Cond.fieldLink RX12 203 "ProofBenchModel" "rawLong" "[I", Cond.fieldLink RX12 206 "ProofBenchModel" "rawValue" "[I", Cond.fieldLink RX12 209 "ProofBenchModel" "rawFirst" "[I", Cond.fieldLink RX12 212 "ProofBenchModel" "rawNext" "[I", Cond.fieldLink RX12 253 "ProofBenchModel" "itemLetter" "[I", Cond.fieldLink RX12 259 "ProofBenchModel" "itemAt" "[I", Cond.fieldLink RX12 262 "ProofBenchModel" "itemLong" "[I", Cond.fieldLink RX12 265 "ProofBenchModel" "itemValue" "[I", Cond.fieldLink RX12 287 "ProofBenchModel" "listAt" "[I", Cond.fieldLink RX12 290 "ProofBenchModel" "listLong" "[I", Cond.fieldLink RX12 293 "ProofBenchModel" "listValue" "[I", Cond.fieldLink RX12 317 "ProofBenchModel" "rawNode" "[I", Cond.fieldLink RX12 296 "ProofBenchModel" "rawSort" "[I", Cond.fieldLink RX12 303 "ProofBenchModel" "rawPlaces" "[I", Cond.fieldLink RX12 306 "ProofBenchModel" "rawDeep" "[I", Cond.fieldLink RX12 341 "ProofBenchModel" "got" "[I"]
def wsX12_init_r3 : List Cond := [Cond.fieldLink RX12 363 "ProofBenchModel" "listGot" "[I", Cond.fieldLink RX12 409 "ProofBenchModel" "shows" "[I", Cond.fieldLink RX12 382 "ProofBenchModel" "hypothesisMany" "[I", Cond.fieldLink RX12 385 "ProofBenchModel" "hypothesis" "[I", Cond.arrayClass .long, Cond.fieldLink RX12 395 "ProofBenchModel" "leanOf" "[J", Cond.arrayClass .boolean, Cond.fieldLink RX12 402 "ProofBenchModel" "isInductive" "[Z", Cond.fieldLink RX12 472 "ProofBenchModel" "factRow" "[I", Cond.fieldLink RX12 427 "ProofBenchModel" "factLeans" "[J", Cond.fieldLink RX12 488 "ProofBenchModel" "isInductiveFact" "[Z", Cond.fieldLink RX12 376 "ProofBenchModel" "now" "[I", Cond.fieldLink RX12 454 "ProofBenchModel" "letterOf" "[I", Cond.fieldLink RX12 366 "ProofBenchModel" "size" "[I", Cond.fieldLink RX12 494 "ProofBenchModel" "valueOf" "[I", Cond.fieldLink RX12 509 "ProofBenchModel" "isSo" "[Z", Cond.fieldLink RX12 500 "ProofBenchModel" "thingOf" "[I", Cond.fieldLink RX12 601 "ProofBenchModel" "out" "[I", Cond.fieldLink RX12 530 "ProofBenchModel" "text" "[I", Cond.fieldLink RX12 604 "ProofBenchModel" "wrongAt" "I", Cond.fieldLink RX12 607 "ProofBenchModel" "refused" "[I", Cond.fieldLink RX12 580 "ProofBenchModel" "sorts" "I", Cond.fieldLink RX12 583 "ProofBenchModel" "funs" "I", Cond.methodLink RX12 612 yX12_known]
def wsX12_init_r4 : List Cond := [Cond.instanceMethod yX12_known, Cond.selects RX12 yX12_known yX12_known, Cond.initialized RX12, Cond.code yX12_known cX12_known 4 none, Cond.methodLink RX12 244 yJ0_length_8abf5, Cond.instanceMethod yJ0_length_8abf5, Cond.selects RJ0 yJ0_length_8abf5 yJ0_length_8abf5, Cond.initialized RJ0, Cond.code yJ0_length_8abf5 cJ0_length_8abf5 1 (some .int), Cond.fieldLink RJ0 9 "java/lang/String" "value" "[B", Cond.methodLink RJ0 335 yJ0_coder_7d493, Cond.instanceMethod yJ0_coder_7d493, Cond.selects RJ0 yJ0_coder_7d493 yJ0_coder_7d493, Cond.code yJ0_coder_7d493 cJ0_coder_7d493 1 (some .byte), Cond.fieldLink RJ0 38 "java/lang/String" "COMPACT_STRINGS" "Z", Cond.fieldLink RJ0 15 "java/lang/String" "coder" "B", Cond.methodLink RX12 238 yJ0_charAt_5068e, Cond.instanceMethod yJ0_charAt_5068e, Cond.selects RJ0 yJ0_charAt_5068e yJ0_charAt_5068e, Cond.code yJ0_charAt_5068e cJ0_charAt_5068e 2 (some .char), Cond.methodLink RJ0 492 yJ0_isLatin1_aae02, Cond.instanceMethod yJ0_isLatin1_aae02, Cond.selects RJ0 yJ0_isLatin1_aae02 yJ0_isLatin1_aae02, Cond.code yJ0_isLatin1_aae02 cJ0_isLatin1_aae02 1 (some .boolean)]
def wsX12_init_r5 : List Cond := [Cond.methodLink RJ0 495 yJ1_charAt_3b067, Cond.static yJ1_charAt_3b067, Cond.initialized RJ1, Cond.code yJ1_charAt_3b067 cJ1_charAt_3b067 2 (some .char), Cond.methodLink RJ1 9 yJ0_checkIndex_df160, Cond.static yJ0_checkIndex_df160, Cond.code yJ0_checkIndex_df160 cJ0_checkIndex_df160 2 none, Cond.fieldLink RJ0 1053 "jdk/internal/util/Preconditions" "SIOOBE_FORMATTER" "Ljava/util/function/BiFunction;", Cond.methodLink RJ0 1059 yJ3_checkIndex_8e157, Cond.static yJ3_checkIndex_8e157, Cond.initialized RJ3, Cond.code yJ3_checkIndex_8e157 cJ3_checkIndex_8e157 3 (some .int), Cond.methodLink RJ0 498 yJ2_charAt_3b067, Cond.static yJ2_charAt_3b067, Cond.initialized RJ2, Cond.code yJ2_charAt_3b067 cJ2_charAt_3b067 2 (some .char), Cond.methodLink RJ2 67 yJ2_checkIndex_2214a, Cond.static yJ2_checkIndex_2214a, Cond.code yJ2_checkIndex_2214a cJ2_checkIndex_2214a 2 none, Cond.methodLink RJ2 48 yJ2_length_9d52b, Cond.static yJ2_length_9d52b, Cond.code yJ2_length_9d52b cJ2_length_9d52b 1 (some .int), Cond.methodLink RJ2 414 yJ0_checkIndex_df160, Cond.methodLink RJ2 71 yJ2_getChar_3b067]
def wsX12_init_r6 : List Cond := [Cond.static yJ2_getChar_3b067, Cond.code yJ2_getChar_3b067 cJ2_getChar_3b067 2 (some .char), Cond.fieldLink RJ2 44 "java/lang/StringUTF16" "$assertionsDisabled" "Z", Cond.fieldLink RJ2 59 "java/lang/StringUTF16" "HI_BYTE_SHIFT" "I", Cond.fieldLink RJ2 63 "java/lang/StringUTF16" "LO_BYTE_SHIFT" "I", Cond.methodLink RX12 558 yX12_newName, Cond.instanceMethod yX12_newName, Cond.selects RX12 yX12_newName yX12_newName, Cond.code yX12_newName cX12_newName 5 (some .int), Cond.fieldLink RX12 7 "ProofBenchModel" "names" "I"]
def wsX12_init : List Cond := .code yX12_init cX12_init 1 none :: ((wsX12_init_r1 ++ (wsX12_init_r2 ++ (wsX12_init_r3 ++ (wsX12_init_r4 ++ (wsX12_init_r5 ++ wsX12_init_r6))))) ++ wsX120)
theorem dX12_newName_0 : decode cX12_newName 0 = .ok (.aload_n 0, 1) := by decide +kernel
theorem dX12_newName_1 : decode cX12_newName 1 = .ok (.getfield 7, 3) := by decide +kernel
theorem dX12_newName_4 : decode cX12_newName 4 = .ok (.istore_n 3, 1) := by decide +kernel
theorem dX12_newName_5 : decode cX12_newName 5 = .ok (.iconst 0, 1) := by decide +kernel
theorem dX12_newName_6 : decode cX12_newName 6 = .ok (.istore 4, 2) := by decide +kernel
theorem dX12_newName_8 : decode cX12_newName 8 = .ok (.iload 4, 2) := by decide +kernel
theorem dX12_newName_10 : decode cX12_newName 10 = .ok (.iload_n 2, 1) := by decide +kernel
theorem dX12_newName_11 : decode cX12_newName 11 = .ok (.if_icmp .ge 30, 3) := by decide +kernel
theorem dX12_newName_14 : decode cX12_newName 14 = .ok (.aload_n 0, 1) := by decide +kernel
theorem dX12_newName_15 : decode cX12_newName 15 = .ok (.getfield 14, 3) := by decide +kernel
theorem dX12_newName_18 : decode cX12_newName 18 = .ok (.bipush 12, 2) := by decide +kernel
theorem dX12_newName_20 : decode cX12_newName 20 = .ok (.iload_n 3, 1) := by decide +kernel
theorem dX12_newName_21 : decode cX12_newName 21 = .ok (.imul, 1) := by decide +kernel
theorem dX12_newName_22 : decode cX12_newName 22 = .ok (.iload 4, 2) := by decide +kernel
theorem dX12_newName_24 : decode cX12_newName 24 = .ok (.iadd, 1) := by decide +kernel
theorem dX12_newName_25 : decode cX12_newName 25 = .ok (.aload_n 0, 1) := by decide +kernel
theorem dX12_newName_26 : decode cX12_newName 26 = .ok (.getfield 17, 3) := by decide +kernel
theorem dX12_newName_29 : decode cX12_newName 29 = .ok (.iload_n 1, 1) := by decide +kernel
theorem dX12_newName_30 : decode cX12_newName 30 = .ok (.iload 4, 2) := by decide +kernel
theorem dX12_newName_32 : decode cX12_newName 32 = .ok (.iadd, 1) := by decide +kernel
theorem dX12_newName_33 : decode cX12_newName 33 = .ok (.iaload, 1) := by decide +kernel
theorem dX12_newName_34 : decode cX12_newName 34 = .ok (.iastore, 1) := by decide +kernel
theorem dX12_newName_35 : decode cX12_newName 35 = .ok (.iinc 4 1, 3) := by decide +kernel
theorem dX12_newName_38 : decode cX12_newName 38 = .ok (.goto (-30), 3) := by decide +kernel
theorem dX12_newName_41 : decode cX12_newName 41 = .ok (.aload_n 0, 1) := by decide +kernel
theorem dX12_newName_42 : decode cX12_newName 42 = .ok (.getfield 10, 3) := by decide +kernel
theorem dX12_newName_45 : decode cX12_newName 45 = .ok (.iload_n 3, 1) := by decide +kernel
theorem dX12_newName_46 : decode cX12_newName 46 = .ok (.iload_n 2, 1) := by decide +kernel
theorem dX12_newName_47 : decode cX12_newName 47 = .ok (.iastore, 1) := by decide +kernel
theorem dX12_newName_48 : decode cX12_newName 48 = .ok (.aload_n 0, 1) := by decide +kernel
theorem dX12_newName_49 : decode cX12_newName 49 = .ok (.getfield 20, 3) := by decide +kernel
theorem dX12_newName_52 : decode cX12_newName 52 = .ok (.iload_n 3, 1) := by decide +kernel
theorem dX12_newName_53 : decode cX12_newName 53 = .ok (.iconst (-1), 1) := by decide +kernel
theorem dX12_newName_54 : decode cX12_newName 54 = .ok (.iastore, 1) := by decide +kernel
theorem dX12_newName_55 : decode cX12_newName 55 = .ok (.aload_n 0, 1) := by decide +kernel
theorem dX12_newName_56 : decode cX12_newName 56 = .ok (.getfield 23, 3) := by decide +kernel
theorem dX12_newName_59 : decode cX12_newName 59 = .ok (.iload_n 3, 1) := by decide +kernel
theorem dX12_newName_60 : decode cX12_newName 60 = .ok (.iconst (-1), 1) := by decide +kernel
theorem dX12_newName_61 : decode cX12_newName 61 = .ok (.iastore, 1) := by decide +kernel
theorem dX12_newName_62 : decode cX12_newName 62 = .ok (.aload_n 0, 1) := by decide +kernel
theorem dX12_newName_63 : decode cX12_newName 63 = .ok (.getfield 26, 3) := by decide +kernel
theorem dX12_newName_66 : decode cX12_newName 66 = .ok (.iload_n 3, 1) := by decide +kernel
theorem dX12_newName_67 : decode cX12_newName 67 = .ok (.iconst (-1), 1) := by decide +kernel
theorem dX12_newName_68 : decode cX12_newName 68 = .ok (.iastore, 1) := by decide +kernel
theorem dX12_newName_69 : decode cX12_newName 69 = .ok (.aload_n 0, 1) := by decide +kernel
theorem dX12_newName_70 : decode cX12_newName 70 = .ok (.getfield 29, 3) := by decide +kernel
theorem dX12_newName_73 : decode cX12_newName 73 = .ok (.iload_n 3, 1) := by decide +kernel
theorem dX12_newName_74 : decode cX12_newName 74 = .ok (.iconst (-1), 1) := by decide +kernel
theorem dX12_newName_75 : decode cX12_newName 75 = .ok (.iastore, 1) := by decide +kernel
theorem dX12_newName_76 : decode cX12_newName 76 = .ok (.aload_n 0, 1) := by decide +kernel
theorem dX12_newName_77 : decode cX12_newName 77 = .ok (.getfield 32, 3) := by decide +kernel
theorem dX12_newName_80 : decode cX12_newName 80 = .ok (.iload_n 3, 1) := by decide +kernel
theorem dX12_newName_81 : decode cX12_newName 81 = .ok (.iconst (-1), 1) := by decide +kernel
theorem dX12_newName_82 : decode cX12_newName 82 = .ok (.iastore, 1) := by decide +kernel
theorem dX12_newName_83 : decode cX12_newName 83 = .ok (.aload_n 0, 1) := by decide +kernel
theorem dX12_newName_84 : decode cX12_newName 84 = .ok (.dup, 1) := by decide +kernel
theorem dX12_newName_85 : decode cX12_newName 85 = .ok (.getfield 7, 3) := by decide +kernel
theorem dX12_newName_88 : decode cX12_newName 88 = .ok (.iconst 1, 1) := by decide +kernel
theorem dX12_newName_89 : decode cX12_newName 89 = .ok (.iadd, 1) := by decide +kernel
theorem dX12_newName_90 : decode cX12_newName 90 = .ok (.putfield 7, 3) := by decide +kernel
theorem dX12_newName_93 : decode cX12_newName 93 = .ok (.iload_n 3, 1) := by decide +kernel
theorem dX12_newName_94 : decode cX12_newName 94 = .ok (.ireturn, 1) := by decide +kernel
theorem dX12_init_0 : decode cX12_init 0 = .ok (.aload_n 0, 1) := by decide +kernel
theorem dX12_init_1 : decode cX12_init 1 = .ok (.invokespecial 595, 3) := by decide +kernel
theorem dX12_init_4 : decode cX12_init 4 = .ok (.aload_n 0, 1) := by decide +kernel
theorem dX12_init_5 : decode cX12_init 5 = .ok (.sipush 1560, 3) := by decide +kernel
theorem dX12_init_8 : decode cX12_init 8 = .ok (.newarray .int, 2) := by decide +kernel
theorem dX12_init_10 : decode cX12_init 10 = .ok (.putfield 14, 3) := by decide +kernel
theorem dX12_init_13 : decode cX12_init 13 = .ok (.aload_n 0, 1) := by decide +kernel
theorem dX12_init_14 : decode cX12_init 14 = .ok (.sipush 130, 3) := by decide +kernel
theorem dX12_init_17 : decode cX12_init 17 = .ok (.newarray .int, 2) := by decide +kernel
theorem dX12_init_19 : decode cX12_init 19 = .ok (.putfield 10, 3) := by decide +kernel
theorem dX12_init_22 : decode cX12_init 22 = .ok (.aload_n 0, 1) := by decide +kernel
theorem dX12_init_23 : decode cX12_init 23 = .ok (.sipush 130, 3) := by decide +kernel
theorem dX12_init_26 : decode cX12_init 26 = .ok (.newarray .int, 2) := by decide +kernel
theorem dX12_init_28 : decode cX12_init 28 = .ok (.putfield 20, 3) := by decide +kernel
theorem dX12_init_31 : decode cX12_init 31 = .ok (.aload_n 0, 1) := by decide +kernel
theorem dX12_init_32 : decode cX12_init 32 = .ok (.sipush 130, 3) := by decide +kernel
theorem dX12_init_35 : decode cX12_init 35 = .ok (.newarray .int, 2) := by decide +kernel
theorem dX12_init_37 : decode cX12_init 37 = .ok (.putfield 23, 3) := by decide +kernel
theorem dX12_init_40 : decode cX12_init 40 = .ok (.aload_n 0, 1) := by decide +kernel
theorem dX12_init_41 : decode cX12_init 41 = .ok (.sipush 130, 3) := by decide +kernel
theorem dX12_init_44 : decode cX12_init 44 = .ok (.newarray .int, 2) := by decide +kernel
theorem dX12_init_46 : decode cX12_init 46 = .ok (.putfield 26, 3) := by decide +kernel
theorem dX12_init_49 : decode cX12_init 49 = .ok (.aload_n 0, 1) := by decide +kernel
theorem dX12_init_50 : decode cX12_init 50 = .ok (.sipush 130, 3) := by decide +kernel
theorem dX12_init_53 : decode cX12_init 53 = .ok (.newarray .int, 2) := by decide +kernel
theorem dX12_init_55 : decode cX12_init 55 = .ok (.putfield 29, 3) := by decide +kernel
theorem dX12_init_58 : decode cX12_init 58 = .ok (.aload_n 0, 1) := by decide +kernel
theorem dX12_init_59 : decode cX12_init 59 = .ok (.sipush 130, 3) := by decide +kernel
theorem dX12_init_62 : decode cX12_init 62 = .ok (.newarray .int, 2) := by decide +kernel
theorem dX12_init_64 : decode cX12_init 64 = .ok (.putfield 32, 3) := by decide +kernel
theorem dX12_init_67 : decode cX12_init 67 = .ok (.aload_n 0, 1) := by decide +kernel
theorem dX12_init_68 : decode cX12_init 68 = .ok (.bipush 6, 2) := by decide +kernel
theorem dX12_init_70 : decode cX12_init 70 = .ok (.newarray .int, 2) := by decide +kernel
theorem dX12_init_72 : decode cX12_init 72 = .ok (.putfield 589, 3) := by decide +kernel
theorem dX12_init_75 : decode cX12_init 75 = .ok (.aload_n 0, 1) := by decide +kernel
theorem dX12_init_76 : decode cX12_init 76 = .ok (.bipush 20, 2) := by decide +kernel
theorem dX12_init_78 : decode cX12_init 78 = .ok (.newarray .int, 2) := by decide +kernel
theorem dX12_init_80 : decode cX12_init 80 = .ok (.putfield 547, 3) := by decide +kernel
theorem dX12_init_83 : decode cX12_init 83 = .ok (.aload_n 0, 1) := by decide +kernel
theorem dX12_init_84 : decode cX12_init 84 = .ok (.bipush 20, 2) := by decide +kernel
theorem dX12_init_86 : decode cX12_init 86 = .ok (.newarray .int, 2) := by decide +kernel
theorem dX12_init_88 : decode cX12_init 88 = .ok (.putfield 61, 3) := by decide +kernel
theorem dX12_init_91 : decode cX12_init 91 = .ok (.aload_n 0, 1) := by decide +kernel
theorem dX12_init_92 : decode cX12_init 92 = .ok (.bipush 60, 2) := by decide +kernel
theorem dX12_init_94 : decode cX12_init 94 = .ok (.newarray .int, 2) := by decide +kernel
theorem dX12_init_96 : decode cX12_init 96 = .ok (.putfield 335, 3) := by decide +kernel
theorem dX12_init_99 : decode cX12_init 99 = .ok (.aload_n 0, 1) := by decide +kernel
theorem dX12_init_100 : decode cX12_init 100 = .ok (.bipush 20, 2) := by decide +kernel
theorem dX12_init_102 : decode cX12_init 102 = .ok (.newarray .int, 2) := by decide +kernel
theorem dX12_init_104 : decode cX12_init 104 = .ok (.putfield 70, 3) := by decide +kernel
theorem dX12_init_107 : decode cX12_init 107 = .ok (.aload_n 0, 1) := by decide +kernel
theorem dX12_init_108 : decode cX12_init 108 = .ok (.bipush 20, 2) := by decide +kernel
theorem dX12_init_110 : decode cX12_init 110 = .ok (.newarray .int, 2) := by decide +kernel
theorem dX12_init_112 : decode cX12_init 112 = .ok (.putfield 550, 3) := by decide +kernel
theorem dX12_init_115 : decode cX12_init 115 = .ok (.aload_n 0, 1) := by decide +kernel
theorem dX12_init_116 : decode cX12_init 116 = .ok (.bipush 21, 2) := by decide +kernel
theorem dX12_init_118 : decode cX12_init 118 = .ok (.newarray .int, 2) := by decide +kernel
theorem dX12_init_120 : decode cX12_init 120 = .ok (.putfield 64, 3) := by decide +kernel
theorem dX12_init_123 : decode cX12_init 123 = .ok (.aload_n 0, 1) := by decide +kernel
theorem dX12_init_124 : decode cX12_init 124 = .ok (.bipush 63, 2) := by decide +kernel
theorem dX12_init_126 : decode cX12_init 126 = .ok (.newarray .int, 2) := by decide +kernel
theorem dX12_init_128 : decode cX12_init 128 = .ok (.putfield 338, 3) := by decide +kernel
theorem dX12_init_131 : decode cX12_init 131 = .ok (.aload_n 0, 1) := by decide +kernel
theorem dX12_init_132 : decode cX12_init 132 = .ok (.bipush 30, 2) := by decide +kernel
theorem dX12_init_134 : decode cX12_init 134 = .ok (.newarray .int, 2) := by decide +kernel
theorem dX12_init_136 : decode cX12_init 136 = .ok (.putfield 542, 3) := by decide +kernel
theorem dX12_init_139 : decode cX12_init 139 = .ok (.aload_n 0, 1) := by decide +kernel
theorem dX12_init_140 : decode cX12_init 140 = .ok (.bipush 30, 2) := by decide +kernel
theorem dX12_init_142 : decode cX12_init 142 = .ok (.newarray .int, 2) := by decide +kernel
theorem dX12_init_144 : decode cX12_init 144 = .ok (.putfield 67, 3) := by decide +kernel
theorem dX12_init_147 : decode cX12_init 147 = .ok (.aload_n 0, 1) := by decide +kernel
theorem dX12_init_148 : decode cX12_init 148 = .ok (.ldc_w 600, 3) := by decide +kernel
theorem dX12_init_151 : decode cX12_init 151 = .ok (.newarray .int, 2) := by decide +kernel
theorem dX12_init_153 : decode cX12_init 153 = .ok (.putfield 38, 3) := by decide +kernel
theorem dX12_init_156 : decode cX12_init 156 = .ok (.aload_n 0, 1) := by decide +kernel
theorem dX12_init_157 : decode cX12_init 157 = .ok (.ldc_w 600, 3) := by decide +kernel
theorem dX12_init_160 : decode cX12_init 160 = .ok (.newarray .int, 2) := by decide +kernel
theorem dX12_init_162 : decode cX12_init 162 = .ok (.putfield 45, 3) := by decide +kernel
theorem dX12_init_165 : decode cX12_init 165 = .ok (.aload_n 0, 1) := by decide +kernel
theorem dX12_init_166 : decode cX12_init 166 = .ok (.ldc_w 600, 3) := by decide +kernel
theorem dX12_init_169 : decode cX12_init 169 = .ok (.newarray .int, 2) := by decide +kernel
theorem dX12_init_171 : decode cX12_init 171 = .ok (.putfield 48, 3) := by decide +kernel
theorem dX12_init_174 : decode cX12_init 174 = .ok (.aload_n 0, 1) := by decide +kernel
theorem dX12_init_175 : decode cX12_init 175 = .ok (.ldc_w 600, 3) := by decide +kernel
theorem dX12_init_178 : decode cX12_init 178 = .ok (.newarray .int, 2) := by decide +kernel
theorem dX12_init_180 : decode cX12_init 180 = .ok (.putfield 51, 3) := by decide +kernel
theorem dX12_init_183 : decode cX12_init 183 = .ok (.aload_n 0, 1) := by decide +kernel
theorem dX12_init_184 : decode cX12_init 184 = .ok (.ldc_w 600, 3) := by decide +kernel
theorem dX12_init_187 : decode cX12_init 187 = .ok (.newarray .int, 2) := by decide +kernel
theorem dX12_init_189 : decode cX12_init 189 = .ok (.putfield 54, 3) := by decide +kernel
theorem dX12_init_192 : decode cX12_init 192 = .ok (.aload_n 0, 1) := by decide +kernel
theorem dX12_init_193 : decode cX12_init 193 = .ok (.bipush 100, 2) := by decide +kernel
theorem dX12_init_195 : decode cX12_init 195 = .ok (.newarray .int, 2) := by decide +kernel
theorem dX12_init_197 : decode cX12_init 197 = .ok (.putfield 104, 3) := by decide +kernel
theorem dX12_init_200 : decode cX12_init 200 = .ok (.aload_n 0, 1) := by decide +kernel
theorem dX12_init_201 : decode cX12_init 201 = .ok (.bipush 100, 2) := by decide +kernel
theorem dX12_init_203 : decode cX12_init 203 = .ok (.newarray .int, 2) := by decide +kernel
theorem dX12_init_205 : decode cX12_init 205 = .ok (.putfield 111, 3) := by decide +kernel
theorem dX12_init_208 : decode cX12_init 208 = .ok (.aload_n 0, 1) := by decide +kernel
theorem dX12_init_209 : decode cX12_init 209 = .ok (.sipush 4000, 3) := by decide +kernel
theorem dX12_init_212 : decode cX12_init 212 = .ok (.newarray .int, 2) := by decide +kernel
theorem dX12_init_214 : decode cX12_init 214 = .ok (.putfield 17, 3) := by decide +kernel
theorem dX12_init_217 : decode cX12_init 217 = .ok (.aload_n 0, 1) := by decide +kernel
theorem dX12_init_218 : decode cX12_init 218 = .ok (.sipush 4000, 3) := by decide +kernel
theorem dX12_init_221 : decode cX12_init 221 = .ok (.newarray .int, 2) := by decide +kernel
theorem dX12_init_223 : decode cX12_init 223 = .ok (.putfield 197, 3) := by decide +kernel
theorem dX12_init_226 : decode cX12_init 226 = .ok (.aload_n 0, 1) := by decide +kernel
theorem dX12_init_227 : decode cX12_init 227 = .ok (.sipush 4000, 3) := by decide +kernel
theorem dX12_init_230 : decode cX12_init 230 = .ok (.newarray .int, 2) := by decide +kernel
theorem dX12_init_232 : decode cX12_init 232 = .ok (.putfield 200, 3) := by decide +kernel
theorem dX12_init_235 : decode cX12_init 235 = .ok (.aload_n 0, 1) := by decide +kernel
theorem dX12_init_236 : decode cX12_init 236 = .ok (.sipush 4000, 3) := by decide +kernel
theorem dX12_init_239 : decode cX12_init 239 = .ok (.newarray .int, 2) := by decide +kernel
theorem dX12_init_241 : decode cX12_init 241 = .ok (.putfield 203, 3) := by decide +kernel
theorem dX12_init_244 : decode cX12_init 244 = .ok (.aload_n 0, 1) := by decide +kernel
theorem dX12_init_245 : decode cX12_init 245 = .ok (.sipush 4000, 3) := by decide +kernel
theorem dX12_init_248 : decode cX12_init 248 = .ok (.newarray .int, 2) := by decide +kernel
theorem dX12_init_250 : decode cX12_init 250 = .ok (.putfield 206, 3) := by decide +kernel
theorem dX12_init_253 : decode cX12_init 253 = .ok (.aload_n 0, 1) := by decide +kernel
theorem dX12_init_254 : decode cX12_init 254 = .ok (.sipush 4000, 3) := by decide +kernel
theorem dX12_init_257 : decode cX12_init 257 = .ok (.newarray .int, 2) := by decide +kernel
theorem dX12_init_259 : decode cX12_init 259 = .ok (.putfield 209, 3) := by decide +kernel
theorem dX12_init_262 : decode cX12_init 262 = .ok (.aload_n 0, 1) := by decide +kernel
theorem dX12_init_263 : decode cX12_init 263 = .ok (.sipush 4000, 3) := by decide +kernel
theorem dX12_init_266 : decode cX12_init 266 = .ok (.newarray .int, 2) := by decide +kernel
theorem dX12_init_268 : decode cX12_init 268 = .ok (.putfield 212, 3) := by decide +kernel
theorem dX12_init_271 : decode cX12_init 271 = .ok (.aload_n 0, 1) := by decide +kernel
theorem dX12_init_272 : decode cX12_init 272 = .ok (.sipush 2100, 3) := by decide +kernel
theorem dX12_init_275 : decode cX12_init 275 = .ok (.newarray .int, 2) := by decide +kernel
theorem dX12_init_277 : decode cX12_init 277 = .ok (.putfield 253, 3) := by decide +kernel
theorem dX12_init_280 : decode cX12_init 280 = .ok (.aload_n 0, 1) := by decide +kernel
theorem dX12_init_281 : decode cX12_init 281 = .ok (.sipush 2100, 3) := by decide +kernel
theorem dX12_init_284 : decode cX12_init 284 = .ok (.newarray .int, 2) := by decide +kernel
theorem dX12_init_286 : decode cX12_init 286 = .ok (.putfield 259, 3) := by decide +kernel
theorem dX12_init_289 : decode cX12_init 289 = .ok (.aload_n 0, 1) := by decide +kernel
theorem dX12_init_290 : decode cX12_init 290 = .ok (.sipush 2100, 3) := by decide +kernel
theorem dX12_init_293 : decode cX12_init 293 = .ok (.newarray .int, 2) := by decide +kernel
theorem dX12_init_295 : decode cX12_init 295 = .ok (.putfield 262, 3) := by decide +kernel
theorem dX12_init_298 : decode cX12_init 298 = .ok (.aload_n 0, 1) := by decide +kernel
theorem dX12_init_299 : decode cX12_init 299 = .ok (.sipush 2100, 3) := by decide +kernel
theorem dX12_init_302 : decode cX12_init 302 = .ok (.newarray .int, 2) := by decide +kernel
theorem dX12_init_304 : decode cX12_init 304 = .ok (.putfield 265, 3) := by decide +kernel
theorem dX12_init_307 : decode cX12_init 307 = .ok (.aload_n 0, 1) := by decide +kernel
theorem dX12_init_308 : decode cX12_init 308 = .ok (.sipush 2100, 3) := by decide +kernel
theorem dX12_init_311 : decode cX12_init 311 = .ok (.newarray .int, 2) := by decide +kernel
theorem dX12_init_313 : decode cX12_init 313 = .ok (.putfield 287, 3) := by decide +kernel
theorem dX12_init_316 : decode cX12_init 316 = .ok (.aload_n 0, 1) := by decide +kernel
theorem dX12_init_317 : decode cX12_init 317 = .ok (.sipush 2100, 3) := by decide +kernel
theorem dX12_init_320 : decode cX12_init 320 = .ok (.newarray .int, 2) := by decide +kernel
theorem dX12_init_322 : decode cX12_init 322 = .ok (.putfield 290, 3) := by decide +kernel
theorem dX12_init_325 : decode cX12_init 325 = .ok (.aload_n 0, 1) := by decide +kernel
theorem dX12_init_326 : decode cX12_init 326 = .ok (.sipush 2100, 3) := by decide +kernel
theorem dX12_init_329 : decode cX12_init 329 = .ok (.newarray .int, 2) := by decide +kernel
theorem dX12_init_331 : decode cX12_init 331 = .ok (.putfield 293, 3) := by decide +kernel
theorem dX12_init_334 : decode cX12_init 334 = .ok (.aload_n 0, 1) := by decide +kernel
theorem dX12_init_335 : decode cX12_init 335 = .ok (.sipush 4000, 3) := by decide +kernel
theorem dX12_init_338 : decode cX12_init 338 = .ok (.newarray .int, 2) := by decide +kernel
theorem dX12_init_340 : decode cX12_init 340 = .ok (.putfield 317, 3) := by decide +kernel
theorem dX12_init_343 : decode cX12_init 343 = .ok (.aload_n 0, 1) := by decide +kernel
theorem dX12_init_344 : decode cX12_init 344 = .ok (.sipush 4000, 3) := by decide +kernel
theorem dX12_init_347 : decode cX12_init 347 = .ok (.newarray .int, 2) := by decide +kernel
theorem dX12_init_349 : decode cX12_init 349 = .ok (.putfield 296, 3) := by decide +kernel
theorem dX12_init_352 : decode cX12_init 352 = .ok (.aload_n 0, 1) := by decide +kernel
theorem dX12_init_353 : decode cX12_init 353 = .ok (.sipush 4000, 3) := by decide +kernel
theorem dX12_init_356 : decode cX12_init 356 = .ok (.newarray .int, 2) := by decide +kernel
theorem dX12_init_358 : decode cX12_init 358 = .ok (.putfield 303, 3) := by decide +kernel
theorem dX12_init_361 : decode cX12_init 361 = .ok (.aload_n 0, 1) := by decide +kernel
theorem dX12_init_362 : decode cX12_init 362 = .ok (.sipush 4000, 3) := by decide +kernel
theorem dX12_init_365 : decode cX12_init 365 = .ok (.newarray .int, 2) := by decide +kernel
theorem dX12_init_367 : decode cX12_init 367 = .ok (.putfield 306, 3) := by decide +kernel
theorem dX12_init_370 : decode cX12_init 370 = .ok (.aload_n 0, 1) := by decide +kernel
theorem dX12_init_371 : decode cX12_init 371 = .ok (.sipush 2100, 3) := by decide +kernel
theorem dX12_init_374 : decode cX12_init 374 = .ok (.newarray .int, 2) := by decide +kernel
theorem dX12_init_376 : decode cX12_init 376 = .ok (.putfield 341, 3) := by decide +kernel
theorem dX12_init_379 : decode cX12_init 379 = .ok (.aload_n 0, 1) := by decide +kernel
theorem dX12_init_380 : decode cX12_init 380 = .ok (.sipush 2100, 3) := by decide +kernel
theorem dX12_init_383 : decode cX12_init 383 = .ok (.newarray .int, 2) := by decide +kernel
theorem dX12_init_385 : decode cX12_init 385 = .ok (.putfield 363, 3) := by decide +kernel
theorem dX12_init_388 : decode cX12_init 388 = .ok (.aload_n 0, 1) := by decide +kernel
theorem dX12_init_389 : decode cX12_init 389 = .ok (.sipush 300, 3) := by decide +kernel
theorem dX12_init_392 : decode cX12_init 392 = .ok (.newarray .int, 2) := by decide +kernel
theorem dX12_init_394 : decode cX12_init 394 = .ok (.putfield 409, 3) := by decide +kernel
theorem dX12_init_397 : decode cX12_init 397 = .ok (.aload_n 0, 1) := by decide +kernel
theorem dX12_init_398 : decode cX12_init 398 = .ok (.sipush 300, 3) := by decide +kernel
theorem dX12_init_401 : decode cX12_init 401 = .ok (.newarray .int, 2) := by decide +kernel
theorem dX12_init_403 : decode cX12_init 403 = .ok (.putfield 382, 3) := by decide +kernel
theorem dX12_init_406 : decode cX12_init 406 = .ok (.aload_n 0, 1) := by decide +kernel
theorem dX12_init_407 : decode cX12_init 407 = .ok (.sipush 6000, 3) := by decide +kernel
theorem dX12_init_410 : decode cX12_init 410 = .ok (.newarray .int, 2) := by decide +kernel
theorem dX12_init_412 : decode cX12_init 412 = .ok (.putfield 385, 3) := by decide +kernel
theorem dX12_init_415 : decode cX12_init 415 = .ok (.aload_n 0, 1) := by decide +kernel
theorem dX12_init_416 : decode cX12_init 416 = .ok (.sipush 300, 3) := by decide +kernel
theorem dX12_init_419 : decode cX12_init 419 = .ok (.newarray .long, 2) := by decide +kernel
theorem dX12_init_421 : decode cX12_init 421 = .ok (.putfield 395, 3) := by decide +kernel
theorem dX12_init_424 : decode cX12_init 424 = .ok (.aload_n 0, 1) := by decide +kernel
theorem dX12_init_425 : decode cX12_init 425 = .ok (.sipush 300, 3) := by decide +kernel
theorem dX12_init_428 : decode cX12_init 428 = .ok (.newarray .boolean, 2) := by decide +kernel
theorem dX12_init_430 : decode cX12_init 430 = .ok (.putfield 402, 3) := by decide +kernel
theorem dX12_init_433 : decode cX12_init 433 = .ok (.aload_n 0, 1) := by decide +kernel
theorem dX12_init_434 : decode cX12_init 434 = .ok (.sipush 16000, 3) := by decide +kernel
theorem dX12_init_437 : decode cX12_init 437 = .ok (.newarray .int, 2) := by decide +kernel
theorem dX12_init_439 : decode cX12_init 439 = .ok (.putfield 472, 3) := by decide +kernel
theorem dX12_init_442 : decode cX12_init 442 = .ok (.aload_n 0, 1) := by decide +kernel
theorem dX12_init_443 : decode cX12_init 443 = .ok (.bipush 40, 2) := by decide +kernel
theorem dX12_init_445 : decode cX12_init 445 = .ok (.newarray .long, 2) := by decide +kernel
theorem dX12_init_447 : decode cX12_init 447 = .ok (.putfield 427, 3) := by decide +kernel
theorem dX12_init_450 : decode cX12_init 450 = .ok (.aload_n 0, 1) := by decide +kernel
theorem dX12_init_451 : decode cX12_init 451 = .ok (.bipush 40, 2) := by decide +kernel
theorem dX12_init_453 : decode cX12_init 453 = .ok (.newarray .boolean, 2) := by decide +kernel
theorem dX12_init_455 : decode cX12_init 455 = .ok (.putfield 488, 3) := by decide +kernel
theorem dX12_init_458 : decode cX12_init 458 = .ok (.aload_n 0, 1) := by decide +kernel
theorem dX12_init_459 : decode cX12_init 459 = .ok (.bipush 100, 2) := by decide +kernel
theorem dX12_init_461 : decode cX12_init 461 = .ok (.newarray .int, 2) := by decide +kernel
theorem dX12_init_463 : decode cX12_init 463 = .ok (.putfield 376, 3) := by decide +kernel
theorem dX12_init_466 : decode cX12_init 466 = .ok (.aload_n 0, 1) := by decide +kernel
theorem dX12_init_467 : decode cX12_init 467 = .ok (.iconst 4, 1) := by decide +kernel
theorem dX12_init_468 : decode cX12_init 468 = .ok (.newarray .int, 2) := by decide +kernel
theorem dX12_init_470 : decode cX12_init 470 = .ok (.putfield 454, 3) := by decide +kernel
theorem dX12_init_473 : decode cX12_init 473 = .ok (.aload_n 0, 1) := by decide +kernel
theorem dX12_init_474 : decode cX12_init 474 = .ok (.bipush 6, 2) := by decide +kernel
theorem dX12_init_476 : decode cX12_init 476 = .ok (.newarray .int, 2) := by decide +kernel
theorem dX12_init_478 : decode cX12_init 478 = .ok (.dup, 1) := by decide +kernel
theorem dX12_init_479 : decode cX12_init 479 = .ok (.iconst 0, 1) := by decide +kernel
theorem dX12_init_480 : decode cX12_init 480 = .ok (.iconst 1, 1) := by decide +kernel
theorem dX12_init_481 : decode cX12_init 481 = .ok (.iastore, 1) := by decide +kernel
theorem dX12_init_482 : decode cX12_init 482 = .ok (.dup, 1) := by decide +kernel
theorem dX12_init_483 : decode cX12_init 483 = .ok (.iconst 1, 1) := by decide +kernel
theorem dX12_init_484 : decode cX12_init 484 = .ok (.iconst 1, 1) := by decide +kernel
theorem dX12_init_485 : decode cX12_init 485 = .ok (.iastore, 1) := by decide +kernel
theorem dX12_init_486 : decode cX12_init 486 = .ok (.dup, 1) := by decide +kernel
theorem dX12_init_487 : decode cX12_init 487 = .ok (.iconst 2, 1) := by decide +kernel
theorem dX12_init_488 : decode cX12_init 488 = .ok (.iconst 1, 1) := by decide +kernel
theorem dX12_init_489 : decode cX12_init 489 = .ok (.iastore, 1) := by decide +kernel
theorem dX12_init_490 : decode cX12_init 490 = .ok (.dup, 1) := by decide +kernel
theorem dX12_init_491 : decode cX12_init 491 = .ok (.iconst 3, 1) := by decide +kernel
theorem dX12_init_492 : decode cX12_init 492 = .ok (.iconst 1, 1) := by decide +kernel
theorem dX12_init_493 : decode cX12_init 493 = .ok (.iastore, 1) := by decide +kernel
theorem dX12_init_494 : decode cX12_init 494 = .ok (.dup, 1) := by decide +kernel
theorem dX12_init_495 : decode cX12_init 495 = .ok (.iconst 4, 1) := by decide +kernel
theorem dX12_init_496 : decode cX12_init 496 = .ok (.iconst 1, 1) := by decide +kernel
theorem dX12_init_497 : decode cX12_init 497 = .ok (.iastore, 1) := by decide +kernel
theorem dX12_init_498 : decode cX12_init 498 = .ok (.dup, 1) := by decide +kernel
theorem dX12_init_499 : decode cX12_init 499 = .ok (.iconst 5, 1) := by decide +kernel
theorem dX12_init_500 : decode cX12_init 500 = .ok (.iconst 1, 1) := by decide +kernel
theorem dX12_init_501 : decode cX12_init 501 = .ok (.iastore, 1) := by decide +kernel
theorem dX12_init_502 : decode cX12_init 502 = .ok (.putfield 366, 3) := by decide +kernel
theorem dX12_init_505 : decode cX12_init 505 = .ok (.aload_n 0, 1) := by decide +kernel
theorem dX12_init_506 : decode cX12_init 506 = .ok (.sipush 1280, 3) := by decide +kernel
theorem dX12_init_509 : decode cX12_init 509 = .ok (.newarray .int, 2) := by decide +kernel
theorem dX12_init_511 : decode cX12_init 511 = .ok (.putfield 494, 3) := by decide +kernel
theorem dX12_init_514 : decode cX12_init 514 = .ok (.aload_n 0, 1) := by decide +kernel
theorem dX12_init_515 : decode cX12_init 515 = .ok (.sipush 1344, 3) := by decide +kernel
theorem dX12_init_518 : decode cX12_init 518 = .ok (.newarray .boolean, 2) := by decide +kernel
theorem dX12_init_520 : decode cX12_init 520 = .ok (.putfield 509, 3) := by decide +kernel
theorem dX12_init_523 : decode cX12_init 523 = .ok (.aload_n 0, 1) := by decide +kernel
theorem dX12_init_524 : decode cX12_init 524 = .ok (.bipush 30, 2) := by decide +kernel
theorem dX12_init_526 : decode cX12_init 526 = .ok (.newarray .int, 2) := by decide +kernel
theorem dX12_init_528 : decode cX12_init 528 = .ok (.putfield 500, 3) := by decide +kernel
theorem dX12_init_531 : decode cX12_init 531 = .ok (.aload_n 0, 1) := by decide +kernel
theorem dX12_init_532 : decode cX12_init 532 = .ok (.sipush 21000, 3) := by decide +kernel
theorem dX12_init_535 : decode cX12_init 535 = .ok (.newarray .int, 2) := by decide +kernel
theorem dX12_init_537 : decode cX12_init 537 = .ok (.putfield 601, 3) := by decide +kernel
theorem dX12_init_540 : decode cX12_init 540 = .ok (.aload_n 0, 1) := by decide +kernel
theorem dX12_init_541 : decode cX12_init 541 = .ok (.sipush 20000, 3) := by decide +kernel
theorem dX12_init_544 : decode cX12_init 544 = .ok (.newarray .int, 2) := by decide +kernel
theorem dX12_init_546 : decode cX12_init 546 = .ok (.putfield 530, 3) := by decide +kernel
theorem dX12_init_549 : decode cX12_init 549 = .ok (.aload_n 0, 1) := by decide +kernel
theorem dX12_init_550 : decode cX12_init 550 = .ok (.iconst (-1), 1) := by decide +kernel
theorem dX12_init_551 : decode cX12_init 551 = .ok (.putfield 604, 3) := by decide +kernel
theorem dX12_init_554 : decode cX12_init 554 = .ok (.aload_n 0, 1) := by decide +kernel
theorem dX12_init_555 : decode cX12_init 555 = .ok (.bipush 16, 2) := by decide +kernel
theorem dX12_init_557 : decode cX12_init 557 = .ok (.newarray .int, 2) := by decide +kernel
theorem dX12_init_559 : decode cX12_init 559 = .ok (.putfield 607, 3) := by decide +kernel
theorem dX12_init_562 : decode cX12_init 562 = .ok (.aload_n 0, 1) := by decide +kernel
theorem dX12_init_563 : decode cX12_init 563 = .ok (.iconst 1, 1) := by decide +kernel
theorem dX12_init_564 : decode cX12_init 564 = .ok (.putfield 580, 3) := by decide +kernel
theorem dX12_init_567 : decode cX12_init 567 = .ok (.aload_n 0, 1) := by decide +kernel
theorem dX12_init_568 : decode cX12_init 568 = .ok (.iconst 1, 1) := by decide +kernel
theorem dX12_init_569 : decode cX12_init 569 = .ok (.putfield 583, 3) := by decide +kernel
theorem dX12_init_572 : decode cX12_init 572 = .ok (.aload_n 0, 1) := by decide +kernel
theorem dX12_init_573 : decode cX12_init 573 = .ok (.getfield 61, 3) := by decide +kernel
theorem dX12_init_576 : decode cX12_init 576 = .ok (.iconst 0, 1) := by decide +kernel
theorem dX12_init_577 : decode cX12_init 577 = .ok (.iconst 1, 1) := by decide +kernel
theorem dX12_init_578 : decode cX12_init 578 = .ok (.iastore, 1) := by decide +kernel
theorem dX12_init_579 : decode cX12_init 579 = .ok (.aload_n 0, 1) := by decide +kernel
theorem dX12_init_580 : decode cX12_init 580 = .ok (.ldc_w 610, 3) := by decide +kernel
theorem dX12_init_583 : decode cX12_init 583 = .ok (.aload_n 0, 1) := by decide +kernel
theorem dX12_init_584 : decode cX12_init 584 = .ok (.getfield 20, 3) := by decide +kernel
theorem dX12_init_587 : decode cX12_init 587 = .ok (.invokevirtual 612, 3) := by decide +kernel
theorem dX12_init_590 : decode cX12_init 590 = .ok (.aload_n 0, 1) := by decide +kernel
theorem dX12_init_591 : decode cX12_init 591 = .ok (.ldc_w 616, 3) := by decide +kernel
theorem dX12_init_594 : decode cX12_init 594 = .ok (.aload_n 0, 1) := by decide +kernel
theorem dX12_init_595 : decode cX12_init 595 = .ok (.getfield 23, 3) := by decide +kernel
theorem dX12_init_598 : decode cX12_init 598 = .ok (.invokevirtual 612, 3) := by decide +kernel
theorem dX12_init_601 : decode cX12_init 601 = .ok (.aload_n 0, 1) := by decide +kernel
theorem dX12_init_602 : decode cX12_init 602 = .ok (.getfield 589, 3) := by decide +kernel
theorem dX12_init_605 : decode cX12_init 605 = .ok (.iconst 0, 1) := by decide +kernel
theorem dX12_init_606 : decode cX12_init 606 = .ok (.iconst 0, 1) := by decide +kernel
theorem dX12_init_607 : decode cX12_init 607 = .ok (.iastore, 1) := by decide +kernel
theorem dX12_init_608 : decode cX12_init 608 = .ok (.aload_n 0, 1) := by decide +kernel
theorem dX12_init_609 : decode cX12_init 609 = .ok (.getfield 547, 3) := by decide +kernel
theorem dX12_init_612 : decode cX12_init 612 = .ok (.iconst 0, 1) := by decide +kernel
theorem dX12_init_613 : decode cX12_init 613 = .ok (.iconst 1, 1) := by decide +kernel
theorem dX12_init_614 : decode cX12_init 614 = .ok (.iastore, 1) := by decide +kernel
theorem dX12_init_615 : decode cX12_init 615 = .ok (.return_, 1) := by decide +kernel
theorem dX12_known_0 : decode cX12_known 0 = .ok (.iconst 0, 1) := by decide +kernel
theorem dX12_known_1 : decode cX12_known 1 = .ok (.istore_n 3, 1) := by decide +kernel
theorem dX12_known_2 : decode cX12_known 2 = .ok (.iload_n 3, 1) := by decide +kernel
theorem dX12_known_3 : decode cX12_known 3 = .ok (.aload_n 1, 1) := by decide +kernel
theorem dX12_known_4 : decode cX12_known 4 = .ok (.invokevirtual 244, 3) := by decide +kernel
theorem dX12_known_7 : decode cX12_known 7 = .ok (.if_icmp .ge 20, 3) := by decide +kernel
theorem dX12_known_10 : decode cX12_known 10 = .ok (.aload_n 0, 1) := by decide +kernel
theorem dX12_known_11 : decode cX12_known 11 = .ok (.getfield 17, 3) := by decide +kernel
theorem dX12_known_14 : decode cX12_known 14 = .ok (.iload_n 3, 1) := by decide +kernel
theorem dX12_known_15 : decode cX12_known 15 = .ok (.aload_n 1, 1) := by decide +kernel
theorem dX12_known_16 : decode cX12_known 16 = .ok (.iload_n 3, 1) := by decide +kernel
theorem dX12_known_17 : decode cX12_known 17 = .ok (.invokevirtual 238, 3) := by decide +kernel
theorem dX12_known_20 : decode cX12_known 20 = .ok (.iastore, 1) := by decide +kernel
theorem dX12_known_21 : decode cX12_known 21 = .ok (.iinc 3 1, 3) := by decide +kernel
theorem dX12_known_24 : decode cX12_known 24 = .ok (.goto (-22), 3) := by decide +kernel
theorem dX12_known_27 : decode cX12_known 27 = .ok (.aload_n 0, 1) := by decide +kernel
theorem dX12_known_28 : decode cX12_known 28 = .ok (.iconst 0, 1) := by decide +kernel
theorem dX12_known_29 : decode cX12_known 29 = .ok (.aload_n 1, 1) := by decide +kernel
theorem dX12_known_30 : decode cX12_known 30 = .ok (.invokevirtual 244, 3) := by decide +kernel
theorem dX12_known_33 : decode cX12_known 33 = .ok (.invokevirtual 558, 3) := by decide +kernel
theorem dX12_known_36 : decode cX12_known 36 = .ok (.istore_n 3, 1) := by decide +kernel
theorem dX12_known_37 : decode cX12_known 37 = .ok (.aload_n 2, 1) := by decide +kernel
theorem dX12_known_38 : decode cX12_known 38 = .ok (.iload_n 3, 1) := by decide +kernel
theorem dX12_known_39 : decode cX12_known 39 = .ok (.iconst 0, 1) := by decide +kernel
theorem dX12_known_40 : decode cX12_known 40 = .ok (.iastore, 1) := by decide +kernel
theorem dX12_known_41 : decode cX12_known 41 = .ok (.return_, 1) := by decide +kernel
set_option maxRecDepth 20000 in
theorem ggX12_init_X12_known : GoodIn wsX12_init wsX12_known := goodIn_r _ [76, 30, 77, 78, 79, 80, 81, 82, 83, 84, 85, 86, 87, 88, 89, 90, 91, 92, 93, 94, 95, 96, 97, 98, 99, 100, 101, 102, 103, 104, 105, 106, 107, 108, 109, 110, 111, 112, 113, 114, 115, 116, 117, 118, 119, 120, 121, 122, 123, 124, 125, 126, 127, 128, 75, 129, 130, 5, 6, 7, 8, 9, 10, 11, 131, 132, 133, 134, 135, 136, 137, 138, 139, 140, 141, 142, 143, 144, 145, 146, 147, 148, 149, 150, 151, 152, 153, 154, 155, 156, 157, 158, 159, 160, 161, 162, 163, 164, 165, 166, 167, 168, 169, 170, 171, 172, 173, 174, 175, 176, 177, 178, 179, 180, 181, 182, 183, 184, 185, 186, 187, 188, 189, 190, 191, 192, 193, 194, 195, 196, 197, 198, 199, 200, 201, 202, 203, 204, 205, 206, 207, 208, 209, 210, 211, 212, 213, 214, 215, 216, 217, 218, 219, 220, 221, 222, 223, 224] (by decide +kernel) (by decide +kernel)
set_option maxRecDepth 20000 in
theorem gX12_init_X12_known : GoodIn wsX12_init (wsV RX12 612 RX12 yX12_known wsX12_known) := goodIn_app (goodIn_of _ (by decide +kernel)) ggX12_init_X12_known
set_option maxRecDepth 20000 in
theorem ggX12_known_J0_length_8abf5 : GoodIn wsX12_known wsJ0_length_8abf5 := goodIn_r _ [6, 7, 8, 9, 10, 5, 11, 12, 13] (by decide +kernel) (by decide +kernel)
set_option maxRecDepth 20000 in
theorem gX12_known_J0_length_8abf5 : GoodIn wsX12_known (wsV RX12 244 RJ0 yJ0_length_8abf5 wsJ0_length_8abf5) := goodIn_app (goodIn_of _ (by decide +kernel)) ggX12_known_J0_length_8abf5
set_option maxRecDepth 20000 in
theorem ggX12_known_J0_charAt_5068e : GoodIn wsX12_known wsJ0_charAt_5068e := goodIn_r _ [17, 7, 18, 19, 20, 5, 21, 12, 13, 22, 23, 24, 25, 26, 27, 28, 29, 30, 31, 32, 33, 34, 35, 36, 37, 38, 39, 40, 41, 42, 43, 44, 45, 46, 47, 48, 49, 50] (by decide +kernel) (by decide +kernel)
set_option maxRecDepth 20000 in
theorem gX12_known_J0_charAt_5068e : GoodIn wsX12_known (wsV RX12 238 RJ0 yJ0_charAt_5068e wsJ0_charAt_5068e) := goodIn_app (goodIn_of _ (by decide +kernel)) ggX12_known_J0_charAt_5068e
set_option maxRecDepth 20000 in
theorem ggX12_known_X12_newName : GoodIn wsX12_known wsX12_newName := goodIn_r _ [55, 56, 57, 1, 58, 59, 60, 61, 62, 63, 64, 65, 66, 67, 68, 69, 70, 71, 72, 73, 74, 75, 76, 77, 78, 79, 80, 81, 82, 83, 84, 85, 86, 87, 88, 89, 90, 91, 92, 93, 94, 95, 96, 97, 98, 99, 100, 101, 102, 103, 104, 105, 106, 107, 108, 109, 110, 111, 112, 113, 114, 115, 116, 117, 118, 119, 120, 121, 122, 123, 124, 125, 126, 127, 128, 129, 130, 131, 132, 133, 134, 135, 136, 137, 138, 139, 140, 141, 142, 143, 144, 145, 146, 147, 148, 149, 150, 151, 152, 153, 154, 155, 156, 157] (by decide +kernel) (by decide +kernel)
set_option maxRecDepth 20000 in
theorem gX12_known_X12_newName : GoodIn wsX12_known (wsV RX12 558 RX12 yX12_newName wsX12_newName) := goodIn_app (goodIn_of _ (by decide +kernel)) ggX12_known_X12_newName
/-- ldc_w of a String constant -/
theorem rw_ldcwS {p : Program} {l : Launch} {e : Env} {R : Room} {s : State} {m : MethodId} {args : Array Value} {below : List Frame} {meth : Method} {c : Code} {H : Heap} {locs : List Loc} {cells slots : Nat} {Q : State → Prop} {cc : ByteArray} {pc : Nat} {ls : Array Slot} {rest : List Value} (hexec : p.tables.exec = Jvm.exec) (hb : c.code = cc) {own tx : String} {index q : Nat} (hown : s.vm.findClass own = some m.cls) (hZ : vk_R own index tx q s) (hdg : decode cc pc = .ok (.ldc_w index, 3))
    (k : W p l e R s m args below meth c H locs cells slots Q (F0 m (pc + 3) ls (.ref q :: rest))) : W p l e R s m args below meth c H locs cells slots Q (F0 m pc ls rest) := by
  intro T hT X
  obtain ⟨t, a1, b1⟩ := k T hT X
  exact ⟨t, X.ldcStringW hexec hown (text := tx) (a := q) hZ.1 hZ.2 (g := F0 m pc ls rest) rfl (by rw [hb]; exact hdg) t a1, b1⟩
set_option maxHeartbeats 1000000 in
set_option maxRecDepth 100000 in
theorem lp_newName_0 {p : Program} {l : Launch} {e : Env} {s : State} {m : MethodId} {args : Array Value} {below : List Frame} {meth : Method} {c : Code} {Q : State → Prop} {dC : Nat → ClassId} {dI : Nat → Nat → Nat} {A : Nat → Prop} {h0 a2 a31 a3 a4 a5 a6 a7 a8 n : Nat} {ca2 ca31 ca3 ca4 ca5 ca6 ca7 ca8 : ClassId} {ga31 ga3 ga4 ga5 ga6 ga7 ga8 : Nat → Int32} {w0 w9 w10 w11 w12 w13 w14 w15 w16 w17 w18 w19 w20 w21 w22 w23 w24 w25 w26 w27 w28 w29 w30 w32 w33 w34 w35 w36 w37 w38 w39 w40 w41 w42 w43 w44 w45 w46 w47 w48 w49 w50 w51 w52 w53 w54 w55 w56 w57 w58 w59 w60 w61 w62 w63 w64 w65 w66 w67 w68 w69 w70 w71 w72 w73 w74 w75 w76 w77 w78 w79 w80 w81 w82 w83 w84 w85 w86 w87 w88 w89 w90 w91 w92 w93 : Value} (hn : n ≤ 12) (hx : p.tables.exec = Jvm.exec) (hb : c.code = cX12_newName) (hml : c.maxLocals = 5) (hown : s.vm.findClass RX12 = some m.cls) (hts : ∀ w ∈ wsX12_newName, w.before args s = true) (hA : ∀ q : Nat, s.heap.size ≤ q → A q) (hK : va_K (dC, dI) vwCl [(ca2, .int), (ca31, .int), (ca3, .int), (ca4, .int), (ca5, .int), (ca6, .int), (ca7, .int), (ca8, .int)] s) (hexit : ∀ (g : Nat → Int32) (i : Nat) (H : Heap) (locs : List Loc) (ls : Array Slot), va_P (dC, dI) vwCl [(h0, .inr (12, w0 :: .int 0 :: .ref a2 :: .ref a3 :: .ref a4 :: .ref a5 :: .ref a6 :: .ref a7 :: .ref a8 :: w9 :: w10 :: w11 :: w12 :: w13 :: w14 :: w15 :: w16 :: w17 :: w18 :: w19 :: w20 :: w21 :: w22 :: w23 :: w24 :: w25 :: w26 :: w27 :: w28 :: w29 :: w30 :: .ref a31 :: w32 :: w33 :: w34 :: w35 :: w36 :: w37 :: w38 :: w39 :: w40 :: w41 :: w42 :: w43 :: w44 :: w45 :: w46 :: w47 :: w48 :: w49 :: w50 :: w51 :: w52 :: w53 :: w54 :: w55 :: w56 :: w57 :: w58 :: w59 :: w60 :: w61 :: w62 :: w63 :: w64 :: w65 :: w66 :: w67 :: w68 :: w69 :: w70 :: w71 :: w72 :: w73 :: w74 :: w75 :: w76 :: w77 :: w78 :: w79 :: w80 :: w81 :: w82 :: w83 :: w84 :: w85 :: w86 :: w87 :: w88 :: w89 :: w90 :: w91 :: w92 :: w93 :: [])), (a2, .inl (ca2, 1560, .inl (g))), (a31, .inl (ca31, 4000, .inl (ga31))), (a3, .inl (ca3, 130, .inl (ga3))), (a4, .inl (ca4, 130, .inl (ga4))), (a5, .inl (ca5, 130, .inl (ga5))), (a6, .inl (ca6, 130, .inl (ga6))), (a7, .inl (ca7, 130, .inl (ga7))), (a8, .inl (ca8, 130, .inl (ga8)))] H → va_D A [(h0, .inr (12, w0 :: .int 0 :: .ref a2 :: .ref a3 :: .ref a4 :: .ref a5 :: .ref a6 :: .ref a7 :: .ref a8 :: w9 :: w10 :: w11 :: w12 :: w13 :: w14 :: w15 :: w16 :: w17 :: w18 :: w19 :: w20 :: w21 :: w22 :: w23 :: w24 :: w25 :: w26 :: w27 :: w28 :: w29 :: w30 :: .ref a31 :: w32 :: w33 :: w34 :: w35 :: w36 :: w37 :: w38 :: w39 :: w40 :: w41 :: w42 :: w43 :: w44 :: w45 :: w46 :: w47 :: w48 :: w49 :: w50 :: w51 :: w52 :: w53 :: w54 :: w55 :: w56 :: w57 :: w58 :: w59 :: w60 :: w61 :: w62 :: w63 :: w64 :: w65 :: w66 :: w67 :: w68 :: w69 :: w70 :: w71 :: w72 :: w73 :: w74 :: w75 :: w76 :: w77 :: w78 :: w79 :: w80 :: w81 :: w82 :: w83 :: w84 :: w85 :: w86 :: w87 :: w88 :: w89 :: w90 :: w91 :: w92 :: w93 :: [])), (a2, .inl (ca2, 1560, .inl (g))), (a31, .inl (ca31, 4000, .inl (ga31))), (a3, .inl (ca3, 130, .inl (ga3))), (a4, .inl (ca4, 130, .inl (ga4))), (a5, .inl (ca5, 130, .inl (ga5))), (a6, .inl (ca6, 130, .inl (ga6))), (a7, .inl (ca7, 130, .inl (ga7))), (a8, .inl (ca8, 130, .inl (ga8)))] → va_S A s.heap H locs → lv_has ls 5 [(0, .ref h0), (1, .int 0), (2, .int (nI n)), (3, .int 0), (4, .int (nI i))] → W p l e ({ frames := 0, cells := 0, slots := 0, locals := 0 } : Room) s m args below meth c H locs 0 0 Q (F0 m 41 ls [])) : ∀ (d i : Nat), n = i + d → ∀ (g : Nat → Int32) (H : Heap) (locs : List Loc) (ls : Array Slot), va_P (dC, dI) vwCl [(h0, .inr (12, w0 :: .int 0 :: .ref a2 :: .ref a3 :: .ref a4 :: .ref a5 :: .ref a6 :: .ref a7 :: .ref a8 :: w9 :: w10 :: w11 :: w12 :: w13 :: w14 :: w15 :: w16 :: w17 :: w18 :: w19 :: w20 :: w21 :: w22 :: w23 :: w24 :: w25 :: w26 :: w27 :: w28 :: w29 :: w30 :: .ref a31 :: w32 :: w33 :: w34 :: w35 :: w36 :: w37 :: w38 :: w39 :: w40 :: w41 :: w42 :: w43 :: w44 :: w45 :: w46 :: w47 :: w48 :: w49 :: w50 :: w51 :: w52 :: w53 :: w54 :: w55 :: w56 :: w57 :: w58 :: w59 :: w60 :: w61 :: w62 :: w63 :: w64 :: w65 :: w66 :: w67 :: w68 :: w69 :: w70 :: w71 :: w72 :: w73 :: w74 :: w75 :: w76 :: w77 :: w78 :: w79 :: w80 :: w81 :: w82 :: w83 :: w84 :: w85 :: w86 :: w87 :: w88 :: w89 :: w90 :: w91 :: w92 :: w93 :: [])), (a2, .inl (ca2, 1560, .inl (g))), (a31, .inl (ca31, 4000, .inl (ga31))), (a3, .inl (ca3, 130, .inl (ga3))), (a4, .inl (ca4, 130, .inl (ga4))), (a5, .inl (ca5, 130, .inl (ga5))), (a6, .inl (ca6, 130, .inl (ga6))), (a7, .inl (ca7, 130, .inl (ga7))), (a8, .inl (ca8, 130, .inl (ga8)))] H → va_D A [(h0, .inr (12, w0 :: .int 0 :: .ref a2 :: .ref a3 :: .ref a4 :: .ref a5 :: .ref a6 :: .ref a7 :: .ref a8 :: w9 :: w10 :: w11 :: w12 :: w13 :: w14 :: w15 :: w16 :: w17 :: w18 :: w19 :: w20 :: w21 :: w22 :: w23 :: w24 :: w25 :: w26 :: w27 :: w28 :: w29 :: w30 :: .ref a31 :: w32 :: w33 :: w34 :: w35 :: w36 :: w37 :: w38 :: w39 :: w40 :: w41 :: w42 :: w43 :: w44 :: w45 :: w46 :: w47 :: w48 :: w49 :: w50 :: w51 :: w52 :: w53 :: w54 :: w55 :: w56 :: w57 :: w58 :: w59 :: w60 :: w61 :: w62 :: w63 :: w64 :: w65 :: w66 :: w67 :: w68 :: w69 :: w70 :: w71 :: w72 :: w73 :: w74 :: w75 :: w76 :: w77 :: w78 :: w79 :: w80 :: w81 :: w82 :: w83 :: w84 :: w85 :: w86 :: w87 :: w88 :: w89 :: w90 :: w91 :: w92 :: w93 :: [])), (a2, .inl (ca2, 1560, .inl (g))), (a31, .inl (ca31, 4000, .inl (ga31))), (a3, .inl (ca3, 130, .inl (ga3))), (a4, .inl (ca4, 130, .inl (ga4))), (a5, .inl (ca5, 130, .inl (ga5))), (a6, .inl (ca6, 130, .inl (ga6))), (a7, .inl (ca7, 130, .inl (ga7))), (a8, .inl (ca8, 130, .inl (ga8)))] → va_S A s.heap H locs → lv_has ls 5 [(0, .ref h0), (1, .int 0), (2, .int (nI n)), (3, .int 0), (4, .int (nI i))] → W p l e ({ frames := 0, cells := 0, slots := 0, locals := 0 } : Room) s m args below meth c H locs 0 0 Q (F0 m 8 ls []) := by
  intro d
  induction d with
  | zero =>
    intro i hi g H locs ls hP hD hS hl
    refine lv_iload hx hb dX12_newName_8 (lv_at hl 4 rfl) ?_
    refine lv_iload_n hx hb dX12_newName_10 rfl (lv_at hl 2 rfl) ?_
    refine lv_icmp_ge (tgt := 41) hx hb dX12_newName_11 (by decide) (fun c9 => ?_) (fun c9 => absurd (nI_le (by omega) (by omega)) c9)
    exact hexit g i _ _ ls hP hD hS hl
  | succ d ih =>
    intro i hi g H locs ls hP hD hS hl
    refine lv_iload hx hb dX12_newName_8 (lv_at hl 4 rfl) ?_
    refine lv_iload_n hx hb dX12_newName_10 rfl (lv_at hl 2 rfl) ?_
    refine lv_icmp_ge (tgt := 41) hx hb dX12_newName_11 (by decide) (fun c9 => absurd c9 (nI_ge (by omega) (by omega))) (fun c9 => ?_)
    refine lv_aload_n hx hb dX12_newName_14 rfl (lv_at hl 0 rfl) ?_
    refine va_get (D := (dC, dI)) (ci := 12) (v := .ref a2) (C := RX12) (T := TX12) (N := 94) hx hb hts (by decide +kernel) hown hK hP 0 rfl rfl 2 (by decide) (hts (.fieldLink RX12 14 "ProofBenchModel" "letters" "[I") (by decide +kernel)) (fun _ h9 => h9) rfl dX12_newName_15 ?_
    refine lv_bipush (v := 12) hx hb dX12_newName_18 (by decide) ?_
    refine lv_iload_n hx hb dX12_newName_20 rfl (lv_at hl 3 rfl) ?_
    refine lv_imul hx hb dX12_newName_21 ?_
    refine lv_topi (fun z_1 e9 => ?_)
    obtain rfl : z_1 = 0 := by rw [e9]; decide
    refine lv_iload hx hb dX12_newName_22 (lv_at hl 4 rfl) ?_
    refine lv_iadd hx hb dX12_newName_24 ?_
    refine lv_topi (fun z9 e9 => ?_)
    obtain rfl : z9 = nI (0 + i) := by rw [e9]; exact nI_add 0 i
    refine lv_aload_n hx hb dX12_newName_25 rfl (lv_at hl 0 rfl) ?_
    refine va_get (D := (dC, dI)) (ci := 12) (v := .ref a31) (C := RX12) (T := TX12) (N := 94) hx hb hts (by decide +kernel) hown hK hP 0 rfl rfl 31 (by decide) (hts (.fieldLink RX12 17 "ProofBenchModel" "tape" "[I") (by decide +kernel)) (fun _ h9 => h9) rfl dX12_newName_26 ?_
    refine lv_iload_n hx hb dX12_newName_29 rfl (lv_at hl 1 rfl) ?_
    refine lv_iload hx hb dX12_newName_30 (lv_at hl 4 rfl) ?_
    refine lv_iadd hx hb dX12_newName_32 ?_
    refine lv_topi (fun z8 e8 => ?_)
    obtain rfl : z8 = nI (0 + i) := by rw [e8]; exact nI_add 0 i
    refine va_iald hx hb hK hP 2 1 rfl rfl (vp_in_nI (N := 4000) (by omega) (by decide)) dX12_newName_33 ?_
    refine lv_topi (fun r_2 er_2 => ?_)
    refine va_iast hx hb hK hP hD hS 1 0 rfl rfl (vp_in_nI (N := 1560) (by omega) (by decide)) dX12_newName_34 (fun H locs hP hD hS => ?_)
    obtain ⟨f_3, hP, hD⟩ : ∃ f9 : Nat → Int32, va_P (dC, dI) vwCl [(h0, .inr (12, w0 :: .int 0 :: .ref a2 :: .ref a3 :: .ref a4 :: .ref a5 :: .ref a6 :: .ref a7 :: .ref a8 :: w9 :: w10 :: w11 :: w12 :: w13 :: w14 :: w15 :: w16 :: w17 :: w18 :: w19 :: w20 :: w21 :: w22 :: w23 :: w24 :: w25 :: w26 :: w27 :: w28 :: w29 :: w30 :: .ref a31 :: w32 :: w33 :: w34 :: w35 :: w36 :: w37 :: w38 :: w39 :: w40 :: w41 :: w42 :: w43 :: w44 :: w45 :: w46 :: w47 :: w48 :: w49 :: w50 :: w51 :: w52 :: w53 :: w54 :: w55 :: w56 :: w57 :: w58 :: w59 :: w60 :: w61 :: w62 :: w63 :: w64 :: w65 :: w66 :: w67 :: w68 :: w69 :: w70 :: w71 :: w72 :: w73 :: w74 :: w75 :: w76 :: w77 :: w78 :: w79 :: w80 :: w81 :: w82 :: w83 :: w84 :: w85 :: w86 :: w87 :: w88 :: w89 :: w90 :: w91 :: w92 :: w93 :: [])), (a2, .inl (ca2, 1560, .inl (f9))), (a31, .inl (ca31, 4000, .inl (ga31))), (a3, .inl (ca3, 130, .inl (ga3))), (a4, .inl (ca4, 130, .inl (ga4))), (a5, .inl (ca5, 130, .inl (ga5))), (a6, .inl (ca6, 130, .inl (ga6))), (a7, .inl (ca7, 130, .inl (ga7))), (a8, .inl (ca8, 130, .inl (ga8)))] H ∧ va_D A [(h0, .inr (12, w0 :: .int 0 :: .ref a2 :: .ref a3 :: .ref a4 :: .ref a5 :: .ref a6 :: .ref a7 :: .ref a8 :: w9 :: w10 :: w11 :: w12 :: w13 :: w14 :: w15 :: w16 :: w17 :: w18 :: w19 :: w20 :: w21 :: w22 :: w23 :: w24 :: w25 :: w26 :: w27 :: w28 :: w29 :: w30 :: .ref a31 :: w32 :: w33 :: w34 :: w35 :: w36 :: w37 :: w38 :: w39 :: w40 :: w41 :: w42 :: w43 :: w44 :: w45 :: w46 :: w47 :: w48 :: w49 :: w50 :: w51 :: w52 :: w53 :: w54 :: w55 :: w56 :: w57 :: w58 :: w59 :: w60 :: w61 :: w62 :: w63 :: w64 :: w65 :: w66 :: w67 :: w68 :: w69 :: w70 :: w71 :: w72 :: w73 :: w74 :: w75 :: w76 :: w77 :: w78 :: w79 :: w80 :: w81 :: w82 :: w83 :: w84 :: w85 :: w86 :: w87 :: w88 :: w89 :: w90 :: w91 :: w92 :: w93 :: [])), (a2, .inl (ca2, 1560, .inl (f9))), (a31, .inl (ca31, 4000, .inl (ga31))), (a3, .inl (ca3, 130, .inl (ga3))), (a4, .inl (ca4, 130, .inl (ga4))), (a5, .inl (ca5, 130, .inl (ga5))), (a6, .inl (ca6, 130, .inl (ga6))), (a7, .inl (ca7, 130, .inl (ga7))), (a8, .inl (ca8, 130, .inl (ga8)))] := ⟨_, hP, hD⟩
    refine lv_iinc (v := nI (i + 1)) (lv' := [(4, .int (nI (i + 1))), (0, .ref h0), (1, .int 0), (2, .int (nI n)), (3, .int 0)]) hx hb dX12_newName_35 hl (k := 4) rfl (by rw [← nI_1]; rfl) (by decide) rfl (fun ls hl => ?_)
    refine lv_goto (tgt := 8) hx hb dX12_newName_38 (by decide) ?_
    exact ih (i + 1) (by omega) _ _ _ ls hP hD hS (lv_sub hl [1, 2, 3, 4, 0] rfl)
set_option maxHeartbeats 1000000 in
set_option maxRecDepth 100000 in
/-- newName(0, n): the name 0 -/
theorem c_newName_0 (l : Launch) (dC : Nat → ClassId) (dI : Nat → Nat → Nat) (sz : Nat) (h0 a2 a31 a3 a4 a5 a6 a7 a8 n : Nat) (ca2 ca31 ca3 ca4 ca5 ca6 ca7 ca8 : ClassId) (ga2 ga31 ga3 ga4 ga5 ga6 ga7 ga8 : Nat → Int32) (w0 w9 w10 w11 w12 w13 w14 w15 w16 w17 w18 w19 w20 w21 w22 w23 w24 w25 w26 w27 w28 w29 w30 w32 w33 w34 w35 w36 w37 w38 w39 w40 w41 w42 w43 w44 w45 w46 w47 w48 w49 w50 w51 w52 w53 w54 w55 w56 w57 w58 w59 w60 w61 w62 w63 w64 w65 w66 w67 w68 w69 w70 w71 w72 w73 w74 w75 w76 w77 w78 w79 w80 w81 w82 w83 w84 w85 w86 w87 w88 w89 w90 w91 w92 w93 : Value) (hn : n ≤ 12) : Met l yX12_newName wsX12_newName ({ frames := 0, cells := 0, slots := 0, locals := 0 }) (va_Pc [.ref h0, .int 0, .int (nI n)] (fun U => U.heap.size = sz ∧ va_P (dC, dI) vwCl [(h0, .inr (12, w0 :: .int 0 :: .ref a2 :: .ref a3 :: .ref a4 :: .ref a5 :: .ref a6 :: .ref a7 :: .ref a8 :: w9 :: w10 :: w11 :: w12 :: w13 :: w14 :: w15 :: w16 :: w17 :: w18 :: w19 :: w20 :: w21 :: w22 :: w23 :: w24 :: w25 :: w26 :: w27 :: w28 :: w29 :: w30 :: .ref a31 :: w32 :: w33 :: w34 :: w35 :: w36 :: w37 :: w38 :: w39 :: w40 :: w41 :: w42 :: w43 :: w44 :: w45 :: w46 :: w47 :: w48 :: w49 :: w50 :: w51 :: w52 :: w53 :: w54 :: w55 :: w56 :: w57 :: w58 :: w59 :: w60 :: w61 :: w62 :: w63 :: w64 :: w65 :: w66 :: w67 :: w68 :: w69 :: w70 :: w71 :: w72 :: w73 :: w74 :: w75 :: w76 :: w77 :: w78 :: w79 :: w80 :: w81 :: w82 :: w83 :: w84 :: w85 :: w86 :: w87 :: w88 :: w89 :: w90 :: w91 :: w92 :: w93 :: [])), (a2, .inl (ca2, 1560, .inl (ga2))), (a31, .inl (ca31, 4000, .inl (ga31))), (a3, .inl (ca3, 130, .inl (ga3))), (a4, .inl (ca4, 130, .inl (ga4))), (a5, .inl (ca5, 130, .inl (ga5))), (a6, .inl (ca6, 130, .inl (ga6))), (a7, .inl (ca7, 130, .inl (ga7))), (a8, .inl (ca8, 130, .inl (ga8)))] U.heap ∧ va_K (dC, dI) vwCl [(ca2, .int), (ca31, .int), (ca3, .int), (ca4, .int), (ca5, .int), (ca6, .int), (ca7, .int), (ca8, .int)] U ∧ va_D (fun _ => True) [(h0, .inr (12, w0 :: .int 0 :: .ref a2 :: .ref a3 :: .ref a4 :: .ref a5 :: .ref a6 :: .ref a7 :: .ref a8 :: w9 :: w10 :: w11 :: w12 :: w13 :: w14 :: w15 :: w16 :: w17 :: w18 :: w19 :: w20 :: w21 :: w22 :: w23 :: w24 :: w25 :: w26 :: w27 :: w28 :: w29 :: w30 :: .ref a31 :: w32 :: w33 :: w34 :: w35 :: w36 :: w37 :: w38 :: w39 :: w40 :: w41 :: w42 :: w43 :: w44 :: w45 :: w46 :: w47 :: w48 :: w49 :: w50 :: w51 :: w52 :: w53 :: w54 :: w55 :: w56 :: w57 :: w58 :: w59 :: w60 :: w61 :: w62 :: w63 :: w64 :: w65 :: w66 :: w67 :: w68 :: w69 :: w70 :: w71 :: w72 :: w73 :: w74 :: w75 :: w76 :: w77 :: w78 :: w79 :: w80 :: w81 :: w82 :: w83 :: w84 :: w85 :: w86 :: w87 :: w88 :: w89 :: w90 :: w91 :: w92 :: w93 :: [])), (a2, .inl (ca2, 1560, .inl (ga2))), (a31, .inl (ca31, 4000, .inl (ga31))), (a3, .inl (ca3, 130, .inl (ga3))), (a4, .inl (ca4, 130, .inl (ga4))), (a5, .inl (ca5, 130, .inl (ga5))), (a6, .inl (ca6, 130, .inl (ga6))), (a7, .inl (ca7, 130, .inl (ga7))), (a8, .inl (ca8, 130, .inl (ga8)))])) (va_Qi (fun (r : Int32) (_ : Unit) => r = 0) (fun _ t => ∃ (g2 f_1 f_2 f_3 f_4 f_5 f_6 : Nat → Int32), va_P (dC, dI) vwCl [(h0, .inr (12, w0 :: .int 1 :: .ref a2 :: .ref a3 :: .ref a4 :: .ref a5 :: .ref a6 :: .ref a7 :: .ref a8 :: w9 :: w10 :: w11 :: w12 :: w13 :: w14 :: w15 :: w16 :: w17 :: w18 :: w19 :: w20 :: w21 :: w22 :: w23 :: w24 :: w25 :: w26 :: w27 :: w28 :: w29 :: w30 :: .ref a31 :: w32 :: w33 :: w34 :: w35 :: w36 :: w37 :: w38 :: w39 :: w40 :: w41 :: w42 :: w43 :: w44 :: w45 :: w46 :: w47 :: w48 :: w49 :: w50 :: w51 :: w52 :: w53 :: w54 :: w55 :: w56 :: w57 :: w58 :: w59 :: w60 :: w61 :: w62 :: w63 :: w64 :: w65 :: w66 :: w67 :: w68 :: w69 :: w70 :: w71 :: w72 :: w73 :: w74 :: w75 :: w76 :: w77 :: w78 :: w79 :: w80 :: w81 :: w82 :: w83 :: w84 :: w85 :: w86 :: w87 :: w88 :: w89 :: w90 :: w91 :: w92 :: w93 :: [])), (a2, .inl (ca2, 1560, .inl (g2))), (a31, .inl (ca31, 4000, .inl (ga31))), (a3, .inl (ca3, 130, .inl (f_1))), (a4, .inl (ca4, 130, .inl (f_2))), (a5, .inl (ca5, 130, .inl (f_3))), (a6, .inl (ca6, 130, .inl (f_4))), (a7, .inl (ca7, 130, .inl (f_5))), (a8, .inl (ca8, 130, .inl (f_6)))] t.heap ∧ va_K (dC, dI) vwCl [(ca2, .int), (ca31, .int), (ca3, .int), (ca4, .int), (ca5, .int), (ca6, .int), (ca7, .int), (ca8, .int)] t ∧ va_D (va_A [(h0, .inr (12, w0 :: .int 0 :: .ref a2 :: .ref a3 :: .ref a4 :: .ref a5 :: .ref a6 :: .ref a7 :: .ref a8 :: w9 :: w10 :: w11 :: w12 :: w13 :: w14 :: w15 :: w16 :: w17 :: w18 :: w19 :: w20 :: w21 :: w22 :: w23 :: w24 :: w25 :: w26 :: w27 :: w28 :: w29 :: w30 :: .ref a31 :: w32 :: w33 :: w34 :: w35 :: w36 :: w37 :: w38 :: w39 :: w40 :: w41 :: w42 :: w43 :: w44 :: w45 :: w46 :: w47 :: w48 :: w49 :: w50 :: w51 :: w52 :: w53 :: w54 :: w55 :: w56 :: w57 :: w58 :: w59 :: w60 :: w61 :: w62 :: w63 :: w64 :: w65 :: w66 :: w67 :: w68 :: w69 :: w70 :: w71 :: w72 :: w73 :: w74 :: w75 :: w76 :: w77 :: w78 :: w79 :: w80 :: w81 :: w82 :: w83 :: w84 :: w85 :: w86 :: w87 :: w88 :: w89 :: w90 :: w91 :: w92 :: w93 :: [])), (a2, .inl (ca2, 1560, .inl (ga2))), (a31, .inl (ca31, 4000, .inl (ga31))), (a3, .inl (ca3, 130, .inl (ga3))), (a4, .inl (ca4, 130, .inl (ga4))), (a5, .inl (ca5, 130, .inl (ga5))), (a6, .inl (ca6, 130, .inl (ga6))), (a7, .inl (ca7, 130, .inl (ga7))), (a8, .inl (ca8, 130, .inl (ga8)))] sz) [(h0, .inr (12, w0 :: .int 1 :: .ref a2 :: .ref a3 :: .ref a4 :: .ref a5 :: .ref a6 :: .ref a7 :: .ref a8 :: w9 :: w10 :: w11 :: w12 :: w13 :: w14 :: w15 :: w16 :: w17 :: w18 :: w19 :: w20 :: w21 :: w22 :: w23 :: w24 :: w25 :: w26 :: w27 :: w28 :: w29 :: w30 :: .ref a31 :: w32 :: w33 :: w34 :: w35 :: w36 :: w37 :: w38 :: w39 :: w40 :: w41 :: w42 :: w43 :: w44 :: w45 :: w46 :: w47 :: w48 :: w49 :: w50 :: w51 :: w52 :: w53 :: w54 :: w55 :: w56 :: w57 :: w58 :: w59 :: w60 :: w61 :: w62 :: w63 :: w64 :: w65 :: w66 :: w67 :: w68 :: w69 :: w70 :: w71 :: w72 :: w73 :: w74 :: w75 :: w76 :: w77 :: w78 :: w79 :: w80 :: w81 :: w82 :: w83 :: w84 :: w85 :: w86 :: w87 :: w88 :: w89 :: w90 :: w91 :: w92 :: w93 :: [])), (a2, .inl (ca2, 1560, .inl (g2))), (a31, .inl (ca31, 4000, .inl (ga31))), (a3, .inl (ca3, 130, .inl (f_1))), (a4, .inl (ca4, 130, .inl (f_2))), (a5, .inl (ca5, 130, .inl (f_3))), (a6, .inl (ca6, 130, .inl (f_4))), (a7, .inl (ca7, 130, .inl (f_5))), (a8, .inl (ca8, 130, .inl (f_6)))]) (va_A [(h0, .inr (12, w0 :: .int 0 :: .ref a2 :: .ref a3 :: .ref a4 :: .ref a5 :: .ref a6 :: .ref a7 :: .ref a8 :: w9 :: w10 :: w11 :: w12 :: w13 :: w14 :: w15 :: w16 :: w17 :: w18 :: w19 :: w20 :: w21 :: w22 :: w23 :: w24 :: w25 :: w26 :: w27 :: w28 :: w29 :: w30 :: .ref a31 :: w32 :: w33 :: w34 :: w35 :: w36 :: w37 :: w38 :: w39 :: w40 :: w41 :: w42 :: w43 :: w44 :: w45 :: w46 :: w47 :: w48 :: w49 :: w50 :: w51 :: w52 :: w53 :: w54 :: w55 :: w56 :: w57 :: w58 :: w59 :: w60 :: w61 :: w62 :: w63 :: w64 :: w65 :: w66 :: w67 :: w68 :: w69 :: w70 :: w71 :: w72 :: w73 :: w74 :: w75 :: w76 :: w77 :: w78 :: w79 :: w80 :: w81 :: w82 :: w83 :: w84 :: w85 :: w86 :: w87 :: w88 :: w89 :: w90 :: w91 :: w92 :: w93 :: [])), (a2, .inl (ca2, 1560, .inl (ga2))), (a31, .inl (ca31, 4000, .inl (ga31))), (a3, .inl (ca3, 130, .inl (ga3))), (a4, .inl (ca4, 130, .inl (ga4))), (a5, .inl (ca5, 130, .inl (ga5))), (a6, .inl (ca6, 130, .inl (ga6))), (a7, .inl (ca7, 130, .inl (ga7))), (a8, .inl (ca8, 130, .inl (ga8)))] sz)) (0) (0) (va_A [(h0, .inr (12, w0 :: .int 0 :: .ref a2 :: .ref a3 :: .ref a4 :: .ref a5 :: .ref a6 :: .ref a7 :: .ref a8 :: w9 :: w10 :: w11 :: w12 :: w13 :: w14 :: w15 :: w16 :: w17 :: w18 :: w19 :: w20 :: w21 :: w22 :: w23 :: w24 :: w25 :: w26 :: w27 :: w28 :: w29 :: w30 :: .ref a31 :: w32 :: w33 :: w34 :: w35 :: w36 :: w37 :: w38 :: w39 :: w40 :: w41 :: w42 :: w43 :: w44 :: w45 :: w46 :: w47 :: w48 :: w49 :: w50 :: w51 :: w52 :: w53 :: w54 :: w55 :: w56 :: w57 :: w58 :: w59 :: w60 :: w61 :: w62 :: w63 :: w64 :: w65 :: w66 :: w67 :: w68 :: w69 :: w70 :: w71 :: w72 :: w73 :: w74 :: w75 :: w76 :: w77 :: w78 :: w79 :: w80 :: w81 :: w82 :: w83 :: w84 :: w85 :: w86 :: w87 :: w88 :: w89 :: w90 :: w91 :: w92 :: w93 :: [])), (a2, .inl (ca2, 1560, .inl (ga2))), (a31, .inl (ca31, 4000, .inl (ga31))), (a3, .inl (ca3, 130, .inl (ga3))), (a4, .inl (ca4, 130, .inl (ga4))), (a5, .inl (ca5, 130, .inl (ga5))), (a6, .inl (ca6, 130, .inl (ga6))), (a7, .inl (ca7, 130, .inl (ga7))), (a8, .inl (ca8, 130, .inl (ga8)))] sz) := by
  refine Met.ofW (cc := cX12_newName) (maxL := 5) (ret := (some .int)) (by decide) rfl ?_
  intro p e s m args below meth c s₁ B hml hv
  obtain ⟨rfl, hsz, hP, hK, hD0⟩ := hv
  have hx := B.exec
  have hb := B.bytes
  have hr := B.returns
  have hts := atoms_spec (ws := wsX12_newName) B.pre
  have hown : s.vm.findClass RX12 = some m.cls := findClass_of_methodNamed B.named
  have hlocks := B.notSynchronized
  subst hsz
  have hD := hD0.self (sz := s.heap.size)
  generalize hAe : va_A [(h0, .inr (12, w0 :: .int 0 :: .ref a2 :: .ref a3 :: .ref a4 :: .ref a5 :: .ref a6 :: .ref a7 :: .ref a8 :: w9 :: w10 :: w11 :: w12 :: w13 :: w14 :: w15 :: w16 :: w17 :: w18 :: w19 :: w20 :: w21 :: w22 :: w23 :: w24 :: w25 :: w26 :: w27 :: w28 :: w29 :: w30 :: .ref a31 :: w32 :: w33 :: w34 :: w35 :: w36 :: w37 :: w38 :: w39 :: w40 :: w41 :: w42 :: w43 :: w44 :: w45 :: w46 :: w47 :: w48 :: w49 :: w50 :: w51 :: w52 :: w53 :: w54 :: w55 :: w56 :: w57 :: w58 :: w59 :: w60 :: w61 :: w62 :: w63 :: w64 :: w65 :: w66 :: w67 :: w68 :: w69 :: w70 :: w71 :: w72 :: w73 :: w74 :: w75 :: w76 :: w77 :: w78 :: w79 :: w80 :: w81 :: w82 :: w83 :: w84 :: w85 :: w86 :: w87 :: w88 :: w89 :: w90 :: w91 :: w92 :: w93 :: [])), (a2, .inl (ca2, 1560, .inl (ga2))), (a31, .inl (ca31, 4000, .inl (ga31))), (a3, .inl (ca3, 130, .inl (ga3))), (a4, .inl (ca4, 130, .inl (ga4))), (a5, .inl (ca5, 130, .inl (ga5))), (a6, .inl (ca6, 130, .inl (ga6))), (a7, .inl (ca7, 130, .inl (ga7))), (a8, .inl (ca8, 130, .inl (ga8)))] s.heap.size = A at hD ⊢
  have hA : ∀ q : Nat, s.heap.size ≤ q → A q := fun q h => by rw [← hAe]; exact Or.inr h
  have hS : va_S A s.heap s.heap [] := va_S.rf
  have hl := lv_entry ([.ref h0, .int 0, .int (nI n)]) (n := 5) (Nat.le_of_ble_eq_true rfl)
  rw [lg_entry_eq]
  generalize (lg_sl ([.ref h0, .int 0, .int (nI n)]) ++ List.replicate (5 - (lg_sl ([.ref h0, .int 0, .int (nI n)])).length) Slot.unset).toArray = ls at hl ⊢
  have hl : lv_has ls 5 [(0, .ref h0), (1, .int 0), (2, .int (nI n))] := hl
  refine lv_aload_n hx hb dX12_newName_0 rfl (lv_at hl 0 rfl) ?_
  refine va_get (D := (dC, dI)) (ci := 12) (v := .int 0) (C := RX12) (T := TX12) (N := 94) hx hb hts (by decide +kernel) hown hK hP 0 rfl rfl 1 (by decide) (hts (.fieldLink RX12 7 "ProofBenchModel" "names" "I") (by decide +kernel)) (fun _ h9 => h9) rfl dX12_newName_1 ?_
  refine lv_istore_n (lv' := [(3, .int 0), (0, .ref h0), (1, .int 0), (2, .int (nI n))]) hx hb dX12_newName_4 rfl hl (by decide) rfl (fun ls hl => ?_)
  refine lv_iconst (v := 0) hx hb dX12_newName_5 (by decide) ?_
  refine lv_istore (lv' := [(4, .int 0), (3, .int 0), (0, .ref h0), (1, .int 0), (2, .int (nI n))]) hx hb dX12_newName_6 hl (by decide) rfl (fun ls hl => ?_)
  refine lp_newName_0 hn hx hb hml hown hts hA hK (fun g2 i H locs ls hP hD hS hl => ?_) n 0 (by omega) _ _ _ ls hP hD hS (lv_sub hl [2, 3, 4, 1, 0] rfl)
  refine lv_aload_n hx hb dX12_newName_41 rfl (lv_at hl 0 rfl) ?_
  refine va_get (D := (dC, dI)) (ci := 12) (v := .ref a3) (C := RX12) (T := TX12) (N := 94) hx hb hts (by decide +kernel) hown hK hP 0 rfl rfl 3 (by decide) (hts (.fieldLink RX12 10 "ProofBenchModel" "letterMany" "[I") (by decide +kernel)) (fun _ h9 => h9) rfl dX12_newName_42 ?_
  refine lv_iload_n hx hb dX12_newName_45 rfl (lv_at hl 3 rfl) ?_
  refine lv_iload_n hx hb dX12_newName_46 rfl (lv_at hl 2 rfl) ?_
  refine va_iast hx hb hK hP hD hS 3 2 rfl rfl (show vp_in (0) 130 from by unfold vp_in; decide) dX12_newName_47 (fun H locs hP hD hS => ?_)
  obtain ⟨f_1, hP, hD⟩ : ∃ f9 : Nat → Int32, va_P (dC, dI) vwCl [(h0, .inr (12, w0 :: .int 0 :: .ref a2 :: .ref a3 :: .ref a4 :: .ref a5 :: .ref a6 :: .ref a7 :: .ref a8 :: w9 :: w10 :: w11 :: w12 :: w13 :: w14 :: w15 :: w16 :: w17 :: w18 :: w19 :: w20 :: w21 :: w22 :: w23 :: w24 :: w25 :: w26 :: w27 :: w28 :: w29 :: w30 :: .ref a31 :: w32 :: w33 :: w34 :: w35 :: w36 :: w37 :: w38 :: w39 :: w40 :: w41 :: w42 :: w43 :: w44 :: w45 :: w46 :: w47 :: w48 :: w49 :: w50 :: w51 :: w52 :: w53 :: w54 :: w55 :: w56 :: w57 :: w58 :: w59 :: w60 :: w61 :: w62 :: w63 :: w64 :: w65 :: w66 :: w67 :: w68 :: w69 :: w70 :: w71 :: w72 :: w73 :: w74 :: w75 :: w76 :: w77 :: w78 :: w79 :: w80 :: w81 :: w82 :: w83 :: w84 :: w85 :: w86 :: w87 :: w88 :: w89 :: w90 :: w91 :: w92 :: w93 :: [])), (a2, .inl (ca2, 1560, .inl (g2))), (a31, .inl (ca31, 4000, .inl (ga31))), (a3, .inl (ca3, 130, .inl (f9))), (a4, .inl (ca4, 130, .inl (ga4))), (a5, .inl (ca5, 130, .inl (ga5))), (a6, .inl (ca6, 130, .inl (ga6))), (a7, .inl (ca7, 130, .inl (ga7))), (a8, .inl (ca8, 130, .inl (ga8)))] H ∧ va_D A [(h0, .inr (12, w0 :: .int 0 :: .ref a2 :: .ref a3 :: .ref a4 :: .ref a5 :: .ref a6 :: .ref a7 :: .ref a8 :: w9 :: w10 :: w11 :: w12 :: w13 :: w14 :: w15 :: w16 :: w17 :: w18 :: w19 :: w20 :: w21 :: w22 :: w23 :: w24 :: w25 :: w26 :: w27 :: w28 :: w29 :: w30 :: .ref a31 :: w32 :: w33 :: w34 :: w35 :: w36 :: w37 :: w38 :: w39 :: w40 :: w41 :: w42 :: w43 :: w44 :: w45 :: w46 :: w47 :: w48 :: w49 :: w50 :: w51 :: w52 :: w53 :: w54 :: w55 :: w56 :: w57 :: w58 :: w59 :: w60 :: w61 :: w62 :: w63 :: w64 :: w65 :: w66 :: w67 :: w68 :: w69 :: w70 :: w71 :: w72 :: w73 :: w74 :: w75 :: w76 :: w77 :: w78 :: w79 :: w80 :: w81 :: w82 :: w83 :: w84 :: w85 :: w86 :: w87 :: w88 :: w89 :: w90 :: w91 :: w92 :: w93 :: [])), (a2, .inl (ca2, 1560, .inl (g2))), (a31, .inl (ca31, 4000, .inl (ga31))), (a3, .inl (ca3, 130, .inl (f9))), (a4, .inl (ca4, 130, .inl (ga4))), (a5, .inl (ca5, 130, .inl (ga5))), (a6, .inl (ca6, 130, .inl (ga6))), (a7, .inl (ca7, 130, .inl (ga7))), (a8, .inl (ca8, 130, .inl (ga8)))] := ⟨_, hP, hD⟩
  refine lv_aload_n hx hb dX12_newName_48 rfl (lv_at hl 0 rfl) ?_
  refine va_get (D := (dC, dI)) (ci := 12) (v := .ref a4) (C := RX12) (T := TX12) (N := 94) hx hb hts (by decide +kernel) hown hK hP 0 rfl rfl 4 (by decide) (hts (.fieldLink RX12 20 "ProofBenchModel" "asSort" "[I") (by decide +kernel)) (fun _ h9 => h9) rfl dX12_newName_49 ?_
  refine lv_iload_n hx hb dX12_newName_52 rfl (lv_at hl 3 rfl) ?_
  refine lv_iconst (v := -1) hx hb dX12_newName_53 (by decide) ?_
  refine va_iast hx hb hK hP hD hS 4 3 rfl rfl (show vp_in (0) 130 from by unfold vp_in; decide) dX12_newName_54 (fun H locs hP hD hS => ?_)
  obtain ⟨f_2, hP, hD⟩ : ∃ f9 : Nat → Int32, va_P (dC, dI) vwCl [(h0, .inr (12, w0 :: .int 0 :: .ref a2 :: .ref a3 :: .ref a4 :: .ref a5 :: .ref a6 :: .ref a7 :: .ref a8 :: w9 :: w10 :: w11 :: w12 :: w13 :: w14 :: w15 :: w16 :: w17 :: w18 :: w19 :: w20 :: w21 :: w22 :: w23 :: w24 :: w25 :: w26 :: w27 :: w28 :: w29 :: w30 :: .ref a31 :: w32 :: w33 :: w34 :: w35 :: w36 :: w37 :: w38 :: w39 :: w40 :: w41 :: w42 :: w43 :: w44 :: w45 :: w46 :: w47 :: w48 :: w49 :: w50 :: w51 :: w52 :: w53 :: w54 :: w55 :: w56 :: w57 :: w58 :: w59 :: w60 :: w61 :: w62 :: w63 :: w64 :: w65 :: w66 :: w67 :: w68 :: w69 :: w70 :: w71 :: w72 :: w73 :: w74 :: w75 :: w76 :: w77 :: w78 :: w79 :: w80 :: w81 :: w82 :: w83 :: w84 :: w85 :: w86 :: w87 :: w88 :: w89 :: w90 :: w91 :: w92 :: w93 :: [])), (a2, .inl (ca2, 1560, .inl (g2))), (a31, .inl (ca31, 4000, .inl (ga31))), (a3, .inl (ca3, 130, .inl (f_1))), (a4, .inl (ca4, 130, .inl (f9))), (a5, .inl (ca5, 130, .inl (ga5))), (a6, .inl (ca6, 130, .inl (ga6))), (a7, .inl (ca7, 130, .inl (ga7))), (a8, .inl (ca8, 130, .inl (ga8)))] H ∧ va_D A [(h0, .inr (12, w0 :: .int 0 :: .ref a2 :: .ref a3 :: .ref a4 :: .ref a5 :: .ref a6 :: .ref a7 :: .ref a8 :: w9 :: w10 :: w11 :: w12 :: w13 :: w14 :: w15 :: w16 :: w17 :: w18 :: w19 :: w20 :: w21 :: w22 :: w23 :: w24 :: w25 :: w26 :: w27 :: w28 :: w29 :: w30 :: .ref a31 :: w32 :: w33 :: w34 :: w35 :: w36 :: w37 :: w38 :: w39 :: w40 :: w41 :: w42 :: w43 :: w44 :: w45 :: w46 :: w47 :: w48 :: w49 :: w50 :: w51 :: w52 :: w53 :: w54 :: w55 :: w56 :: w57 :: w58 :: w59 :: w60 :: w61 :: w62 :: w63 :: w64 :: w65 :: w66 :: w67 :: w68 :: w69 :: w70 :: w71 :: w72 :: w73 :: w74 :: w75 :: w76 :: w77 :: w78 :: w79 :: w80 :: w81 :: w82 :: w83 :: w84 :: w85 :: w86 :: w87 :: w88 :: w89 :: w90 :: w91 :: w92 :: w93 :: [])), (a2, .inl (ca2, 1560, .inl (g2))), (a31, .inl (ca31, 4000, .inl (ga31))), (a3, .inl (ca3, 130, .inl (f_1))), (a4, .inl (ca4, 130, .inl (f9))), (a5, .inl (ca5, 130, .inl (ga5))), (a6, .inl (ca6, 130, .inl (ga6))), (a7, .inl (ca7, 130, .inl (ga7))), (a8, .inl (ca8, 130, .inl (ga8)))] := ⟨_, hP, hD⟩
  refine lv_aload_n hx hb dX12_newName_55 rfl (lv_at hl 0 rfl) ?_
  refine va_get (D := (dC, dI)) (ci := 12) (v := .ref a5) (C := RX12) (T := TX12) (N := 94) hx hb hts (by decide +kernel) hown hK hP 0 rfl rfl 5 (by decide) (hts (.fieldLink RX12 23 "ProofBenchModel" "asFun" "[I") (by decide +kernel)) (fun _ h9 => h9) rfl dX12_newName_56 ?_
  refine lv_iload_n hx hb dX12_newName_59 rfl (lv_at hl 3 rfl) ?_
  refine lv_iconst (v := -1) hx hb dX12_newName_60 (by decide) ?_
  refine va_iast hx hb hK hP hD hS 5 4 rfl rfl (show vp_in (0) 130 from by unfold vp_in; decide) dX12_newName_61 (fun H locs hP hD hS => ?_)
  obtain ⟨f_3, hP, hD⟩ : ∃ f9 : Nat → Int32, va_P (dC, dI) vwCl [(h0, .inr (12, w0 :: .int 0 :: .ref a2 :: .ref a3 :: .ref a4 :: .ref a5 :: .ref a6 :: .ref a7 :: .ref a8 :: w9 :: w10 :: w11 :: w12 :: w13 :: w14 :: w15 :: w16 :: w17 :: w18 :: w19 :: w20 :: w21 :: w22 :: w23 :: w24 :: w25 :: w26 :: w27 :: w28 :: w29 :: w30 :: .ref a31 :: w32 :: w33 :: w34 :: w35 :: w36 :: w37 :: w38 :: w39 :: w40 :: w41 :: w42 :: w43 :: w44 :: w45 :: w46 :: w47 :: w48 :: w49 :: w50 :: w51 :: w52 :: w53 :: w54 :: w55 :: w56 :: w57 :: w58 :: w59 :: w60 :: w61 :: w62 :: w63 :: w64 :: w65 :: w66 :: w67 :: w68 :: w69 :: w70 :: w71 :: w72 :: w73 :: w74 :: w75 :: w76 :: w77 :: w78 :: w79 :: w80 :: w81 :: w82 :: w83 :: w84 :: w85 :: w86 :: w87 :: w88 :: w89 :: w90 :: w91 :: w92 :: w93 :: [])), (a2, .inl (ca2, 1560, .inl (g2))), (a31, .inl (ca31, 4000, .inl (ga31))), (a3, .inl (ca3, 130, .inl (f_1))), (a4, .inl (ca4, 130, .inl (f_2))), (a5, .inl (ca5, 130, .inl (f9))), (a6, .inl (ca6, 130, .inl (ga6))), (a7, .inl (ca7, 130, .inl (ga7))), (a8, .inl (ca8, 130, .inl (ga8)))] H ∧ va_D A [(h0, .inr (12, w0 :: .int 0 :: .ref a2 :: .ref a3 :: .ref a4 :: .ref a5 :: .ref a6 :: .ref a7 :: .ref a8 :: w9 :: w10 :: w11 :: w12 :: w13 :: w14 :: w15 :: w16 :: w17 :: w18 :: w19 :: w20 :: w21 :: w22 :: w23 :: w24 :: w25 :: w26 :: w27 :: w28 :: w29 :: w30 :: .ref a31 :: w32 :: w33 :: w34 :: w35 :: w36 :: w37 :: w38 :: w39 :: w40 :: w41 :: w42 :: w43 :: w44 :: w45 :: w46 :: w47 :: w48 :: w49 :: w50 :: w51 :: w52 :: w53 :: w54 :: w55 :: w56 :: w57 :: w58 :: w59 :: w60 :: w61 :: w62 :: w63 :: w64 :: w65 :: w66 :: w67 :: w68 :: w69 :: w70 :: w71 :: w72 :: w73 :: w74 :: w75 :: w76 :: w77 :: w78 :: w79 :: w80 :: w81 :: w82 :: w83 :: w84 :: w85 :: w86 :: w87 :: w88 :: w89 :: w90 :: w91 :: w92 :: w93 :: [])), (a2, .inl (ca2, 1560, .inl (g2))), (a31, .inl (ca31, 4000, .inl (ga31))), (a3, .inl (ca3, 130, .inl (f_1))), (a4, .inl (ca4, 130, .inl (f_2))), (a5, .inl (ca5, 130, .inl (f9))), (a6, .inl (ca6, 130, .inl (ga6))), (a7, .inl (ca7, 130, .inl (ga7))), (a8, .inl (ca8, 130, .inl (ga8)))] := ⟨_, hP, hD⟩
  refine lv_aload_n hx hb dX12_newName_62 rfl (lv_at hl 0 rfl) ?_
  refine va_get (D := (dC, dI)) (ci := 12) (v := .ref a6) (C := RX12) (T := TX12) (N := 94) hx hb hts (by decide +kernel) hown hK hP 0 rfl rfl 6 (by decide) (hts (.fieldLink RX12 26 "ProofBenchModel" "asRel" "[I") (by decide +kernel)) (fun _ h9 => h9) rfl dX12_newName_63 ?_
  refine lv_iload_n hx hb dX12_newName_66 rfl (lv_at hl 3 rfl) ?_
  refine lv_iconst (v := -1) hx hb dX12_newName_67 (by decide) ?_
  refine va_iast hx hb hK hP hD hS 6 5 rfl rfl (show vp_in (0) 130 from by unfold vp_in; decide) dX12_newName_68 (fun H locs hP hD hS => ?_)
  obtain ⟨f_4, hP, hD⟩ : ∃ f9 : Nat → Int32, va_P (dC, dI) vwCl [(h0, .inr (12, w0 :: .int 0 :: .ref a2 :: .ref a3 :: .ref a4 :: .ref a5 :: .ref a6 :: .ref a7 :: .ref a8 :: w9 :: w10 :: w11 :: w12 :: w13 :: w14 :: w15 :: w16 :: w17 :: w18 :: w19 :: w20 :: w21 :: w22 :: w23 :: w24 :: w25 :: w26 :: w27 :: w28 :: w29 :: w30 :: .ref a31 :: w32 :: w33 :: w34 :: w35 :: w36 :: w37 :: w38 :: w39 :: w40 :: w41 :: w42 :: w43 :: w44 :: w45 :: w46 :: w47 :: w48 :: w49 :: w50 :: w51 :: w52 :: w53 :: w54 :: w55 :: w56 :: w57 :: w58 :: w59 :: w60 :: w61 :: w62 :: w63 :: w64 :: w65 :: w66 :: w67 :: w68 :: w69 :: w70 :: w71 :: w72 :: w73 :: w74 :: w75 :: w76 :: w77 :: w78 :: w79 :: w80 :: w81 :: w82 :: w83 :: w84 :: w85 :: w86 :: w87 :: w88 :: w89 :: w90 :: w91 :: w92 :: w93 :: [])), (a2, .inl (ca2, 1560, .inl (g2))), (a31, .inl (ca31, 4000, .inl (ga31))), (a3, .inl (ca3, 130, .inl (f_1))), (a4, .inl (ca4, 130, .inl (f_2))), (a5, .inl (ca5, 130, .inl (f_3))), (a6, .inl (ca6, 130, .inl (f9))), (a7, .inl (ca7, 130, .inl (ga7))), (a8, .inl (ca8, 130, .inl (ga8)))] H ∧ va_D A [(h0, .inr (12, w0 :: .int 0 :: .ref a2 :: .ref a3 :: .ref a4 :: .ref a5 :: .ref a6 :: .ref a7 :: .ref a8 :: w9 :: w10 :: w11 :: w12 :: w13 :: w14 :: w15 :: w16 :: w17 :: w18 :: w19 :: w20 :: w21 :: w22 :: w23 :: w24 :: w25 :: w26 :: w27 :: w28 :: w29 :: w30 :: .ref a31 :: w32 :: w33 :: w34 :: w35 :: w36 :: w37 :: w38 :: w39 :: w40 :: w41 :: w42 :: w43 :: w44 :: w45 :: w46 :: w47 :: w48 :: w49 :: w50 :: w51 :: w52 :: w53 :: w54 :: w55 :: w56 :: w57 :: w58 :: w59 :: w60 :: w61 :: w62 :: w63 :: w64 :: w65 :: w66 :: w67 :: w68 :: w69 :: w70 :: w71 :: w72 :: w73 :: w74 :: w75 :: w76 :: w77 :: w78 :: w79 :: w80 :: w81 :: w82 :: w83 :: w84 :: w85 :: w86 :: w87 :: w88 :: w89 :: w90 :: w91 :: w92 :: w93 :: [])), (a2, .inl (ca2, 1560, .inl (g2))), (a31, .inl (ca31, 4000, .inl (ga31))), (a3, .inl (ca3, 130, .inl (f_1))), (a4, .inl (ca4, 130, .inl (f_2))), (a5, .inl (ca5, 130, .inl (f_3))), (a6, .inl (ca6, 130, .inl (f9))), (a7, .inl (ca7, 130, .inl (ga7))), (a8, .inl (ca8, 130, .inl (ga8)))] := ⟨_, hP, hD⟩
  refine lv_aload_n hx hb dX12_newName_69 rfl (lv_at hl 0 rfl) ?_
  refine va_get (D := (dC, dI)) (ci := 12) (v := .ref a7) (C := RX12) (T := TX12) (N := 94) hx hb hts (by decide +kernel) hown hK hP 0 rfl rfl 7 (by decide) (hts (.fieldLink RX12 29 "ProofBenchModel" "asVariable" "[I") (by decide +kernel)) (fun _ h9 => h9) rfl dX12_newName_70 ?_
  refine lv_iload_n hx hb dX12_newName_73 rfl (lv_at hl 3 rfl) ?_
  refine lv_iconst (v := -1) hx hb dX12_newName_74 (by decide) ?_
  refine va_iast hx hb hK hP hD hS 7 6 rfl rfl (show vp_in (0) 130 from by unfold vp_in; decide) dX12_newName_75 (fun H locs hP hD hS => ?_)
  obtain ⟨f_5, hP, hD⟩ : ∃ f9 : Nat → Int32, va_P (dC, dI) vwCl [(h0, .inr (12, w0 :: .int 0 :: .ref a2 :: .ref a3 :: .ref a4 :: .ref a5 :: .ref a6 :: .ref a7 :: .ref a8 :: w9 :: w10 :: w11 :: w12 :: w13 :: w14 :: w15 :: w16 :: w17 :: w18 :: w19 :: w20 :: w21 :: w22 :: w23 :: w24 :: w25 :: w26 :: w27 :: w28 :: w29 :: w30 :: .ref a31 :: w32 :: w33 :: w34 :: w35 :: w36 :: w37 :: w38 :: w39 :: w40 :: w41 :: w42 :: w43 :: w44 :: w45 :: w46 :: w47 :: w48 :: w49 :: w50 :: w51 :: w52 :: w53 :: w54 :: w55 :: w56 :: w57 :: w58 :: w59 :: w60 :: w61 :: w62 :: w63 :: w64 :: w65 :: w66 :: w67 :: w68 :: w69 :: w70 :: w71 :: w72 :: w73 :: w74 :: w75 :: w76 :: w77 :: w78 :: w79 :: w80 :: w81 :: w82 :: w83 :: w84 :: w85 :: w86 :: w87 :: w88 :: w89 :: w90 :: w91 :: w92 :: w93 :: [])), (a2, .inl (ca2, 1560, .inl (g2))), (a31, .inl (ca31, 4000, .inl (ga31))), (a3, .inl (ca3, 130, .inl (f_1))), (a4, .inl (ca4, 130, .inl (f_2))), (a5, .inl (ca5, 130, .inl (f_3))), (a6, .inl (ca6, 130, .inl (f_4))), (a7, .inl (ca7, 130, .inl (f9))), (a8, .inl (ca8, 130, .inl (ga8)))] H ∧ va_D A [(h0, .inr (12, w0 :: .int 0 :: .ref a2 :: .ref a3 :: .ref a4 :: .ref a5 :: .ref a6 :: .ref a7 :: .ref a8 :: w9 :: w10 :: w11 :: w12 :: w13 :: w14 :: w15 :: w16 :: w17 :: w18 :: w19 :: w20 :: w21 :: w22 :: w23 :: w24 :: w25 :: w26 :: w27 :: w28 :: w29 :: w30 :: .ref a31 :: w32 :: w33 :: w34 :: w35 :: w36 :: w37 :: w38 :: w39 :: w40 :: w41 :: w42 :: w43 :: w44 :: w45 :: w46 :: w47 :: w48 :: w49 :: w50 :: w51 :: w52 :: w53 :: w54 :: w55 :: w56 :: w57 :: w58 :: w59 :: w60 :: w61 :: w62 :: w63 :: w64 :: w65 :: w66 :: w67 :: w68 :: w69 :: w70 :: w71 :: w72 :: w73 :: w74 :: w75 :: w76 :: w77 :: w78 :: w79 :: w80 :: w81 :: w82 :: w83 :: w84 :: w85 :: w86 :: w87 :: w88 :: w89 :: w90 :: w91 :: w92 :: w93 :: [])), (a2, .inl (ca2, 1560, .inl (g2))), (a31, .inl (ca31, 4000, .inl (ga31))), (a3, .inl (ca3, 130, .inl (f_1))), (a4, .inl (ca4, 130, .inl (f_2))), (a5, .inl (ca5, 130, .inl (f_3))), (a6, .inl (ca6, 130, .inl (f_4))), (a7, .inl (ca7, 130, .inl (f9))), (a8, .inl (ca8, 130, .inl (ga8)))] := ⟨_, hP, hD⟩
  refine lv_aload_n hx hb dX12_newName_76 rfl (lv_at hl 0 rfl) ?_
  refine va_get (D := (dC, dI)) (ci := 12) (v := .ref a8) (C := RX12) (T := TX12) (N := 94) hx hb hts (by decide +kernel) hown hK hP 0 rfl rfl 8 (by decide) (hts (.fieldLink RX12 32 "ProofBenchModel" "asFact" "[I") (by decide +kernel)) (fun _ h9 => h9) rfl dX12_newName_77 ?_
  refine lv_iload_n hx hb dX12_newName_80 rfl (lv_at hl 3 rfl) ?_
  refine lv_iconst (v := -1) hx hb dX12_newName_81 (by decide) ?_
  refine va_iast hx hb hK hP hD hS 8 7 rfl rfl (show vp_in (0) 130 from by unfold vp_in; decide) dX12_newName_82 (fun H locs hP hD hS => ?_)
  obtain ⟨f_6, hP, hD⟩ : ∃ f9 : Nat → Int32, va_P (dC, dI) vwCl [(h0, .inr (12, w0 :: .int 0 :: .ref a2 :: .ref a3 :: .ref a4 :: .ref a5 :: .ref a6 :: .ref a7 :: .ref a8 :: w9 :: w10 :: w11 :: w12 :: w13 :: w14 :: w15 :: w16 :: w17 :: w18 :: w19 :: w20 :: w21 :: w22 :: w23 :: w24 :: w25 :: w26 :: w27 :: w28 :: w29 :: w30 :: .ref a31 :: w32 :: w33 :: w34 :: w35 :: w36 :: w37 :: w38 :: w39 :: w40 :: w41 :: w42 :: w43 :: w44 :: w45 :: w46 :: w47 :: w48 :: w49 :: w50 :: w51 :: w52 :: w53 :: w54 :: w55 :: w56 :: w57 :: w58 :: w59 :: w60 :: w61 :: w62 :: w63 :: w64 :: w65 :: w66 :: w67 :: w68 :: w69 :: w70 :: w71 :: w72 :: w73 :: w74 :: w75 :: w76 :: w77 :: w78 :: w79 :: w80 :: w81 :: w82 :: w83 :: w84 :: w85 :: w86 :: w87 :: w88 :: w89 :: w90 :: w91 :: w92 :: w93 :: [])), (a2, .inl (ca2, 1560, .inl (g2))), (a31, .inl (ca31, 4000, .inl (ga31))), (a3, .inl (ca3, 130, .inl (f_1))), (a4, .inl (ca4, 130, .inl (f_2))), (a5, .inl (ca5, 130, .inl (f_3))), (a6, .inl (ca6, 130, .inl (f_4))), (a7, .inl (ca7, 130, .inl (f_5))), (a8, .inl (ca8, 130, .inl (f9)))] H ∧ va_D A [(h0, .inr (12, w0 :: .int 0 :: .ref a2 :: .ref a3 :: .ref a4 :: .ref a5 :: .ref a6 :: .ref a7 :: .ref a8 :: w9 :: w10 :: w11 :: w12 :: w13 :: w14 :: w15 :: w16 :: w17 :: w18 :: w19 :: w20 :: w21 :: w22 :: w23 :: w24 :: w25 :: w26 :: w27 :: w28 :: w29 :: w30 :: .ref a31 :: w32 :: w33 :: w34 :: w35 :: w36 :: w37 :: w38 :: w39 :: w40 :: w41 :: w42 :: w43 :: w44 :: w45 :: w46 :: w47 :: w48 :: w49 :: w50 :: w51 :: w52 :: w53 :: w54 :: w55 :: w56 :: w57 :: w58 :: w59 :: w60 :: w61 :: w62 :: w63 :: w64 :: w65 :: w66 :: w67 :: w68 :: w69 :: w70 :: w71 :: w72 :: w73 :: w74 :: w75 :: w76 :: w77 :: w78 :: w79 :: w80 :: w81 :: w82 :: w83 :: w84 :: w85 :: w86 :: w87 :: w88 :: w89 :: w90 :: w91 :: w92 :: w93 :: [])), (a2, .inl (ca2, 1560, .inl (g2))), (a31, .inl (ca31, 4000, .inl (ga31))), (a3, .inl (ca3, 130, .inl (f_1))), (a4, .inl (ca4, 130, .inl (f_2))), (a5, .inl (ca5, 130, .inl (f_3))), (a6, .inl (ca6, 130, .inl (f_4))), (a7, .inl (ca7, 130, .inl (f_5))), (a8, .inl (ca8, 130, .inl (f9)))] := ⟨_, hP, hD⟩
  refine lv_aload_n hx hb dX12_newName_83 rfl (lv_at hl 0 rfl) ?_
  refine lv_dup hx hb dX12_newName_84 rfl ?_
  refine va_get (D := (dC, dI)) (ci := 12) (v := .int 0) (C := RX12) (T := TX12) (N := 94) hx hb hts (by decide +kernel) hown hK hP 0 rfl rfl 1 (by decide) (hts (.fieldLink RX12 7 "ProofBenchModel" "names" "I") (by decide +kernel)) (fun _ h9 => h9) rfl dX12_newName_85 ?_
  refine lv_iconst (v := 1) hx hb dX12_newName_88 (by decide) ?_
  refine lv_iadd hx hb dX12_newName_89 ?_
  refine lv_topi (fun z_7 e9 => ?_)
  obtain rfl : z_7 = 1 := by rw [e9]; decide
  refine va_put (D := (dC, dI)) (ci := 12) (v := .int 1) (ty := .int) (C := RX12) (T := TX12) (N := 94) hx hb hts (by decide +kernel) tyX12 tyX12_ok nmX12 hown hK hP hD hS 0 rfl rfl 1 (by decide) (hts (.fieldLink RX12 7 "ProofBenchModel" "names" "I") (by decide +kernel)) (fun _ h9 => h9) rfl (by decide +kernel) rfl rfl (Nat.le_of_ble_eq_true rfl) dX12_newName_90 (fun H locs hP hD hS => ?_)
  have hP : va_P (dC, dI) vwCl [(h0, .inr (12, w0 :: .int 1 :: .ref a2 :: .ref a3 :: .ref a4 :: .ref a5 :: .ref a6 :: .ref a7 :: .ref a8 :: w9 :: w10 :: w11 :: w12 :: w13 :: w14 :: w15 :: w16 :: w17 :: w18 :: w19 :: w20 :: w21 :: w22 :: w23 :: w24 :: w25 :: w26 :: w27 :: w28 :: w29 :: w30 :: .ref a31 :: w32 :: w33 :: w34 :: w35 :: w36 :: w37 :: w38 :: w39 :: w40 :: w41 :: w42 :: w43 :: w44 :: w45 :: w46 :: w47 :: w48 :: w49 :: w50 :: w51 :: w52 :: w53 :: w54 :: w55 :: w56 :: w57 :: w58 :: w59 :: w60 :: w61 :: w62 :: w63 :: w64 :: w65 :: w66 :: w67 :: w68 :: w69 :: w70 :: w71 :: w72 :: w73 :: w74 :: w75 :: w76 :: w77 :: w78 :: w79 :: w80 :: w81 :: w82 :: w83 :: w84 :: w85 :: w86 :: w87 :: w88 :: w89 :: w90 :: w91 :: w92 :: w93 :: [])), (a2, .inl (ca2, 1560, .inl (g2))), (a31, .inl (ca31, 4000, .inl (ga31))), (a3, .inl (ca3, 130, .inl (f_1))), (a4, .inl (ca4, 130, .inl (f_2))), (a5, .inl (ca5, 130, .inl (f_3))), (a6, .inl (ca6, 130, .inl (f_4))), (a7, .inl (ca7, 130, .inl (f_5))), (a8, .inl (ca8, 130, .inl (f_6)))] H := hP
  have hD : va_D A [(h0, .inr (12, w0 :: .int 1 :: .ref a2 :: .ref a3 :: .ref a4 :: .ref a5 :: .ref a6 :: .ref a7 :: .ref a8 :: w9 :: w10 :: w11 :: w12 :: w13 :: w14 :: w15 :: w16 :: w17 :: w18 :: w19 :: w20 :: w21 :: w22 :: w23 :: w24 :: w25 :: w26 :: w27 :: w28 :: w29 :: w30 :: .ref a31 :: w32 :: w33 :: w34 :: w35 :: w36 :: w37 :: w38 :: w39 :: w40 :: w41 :: w42 :: w43 :: w44 :: w45 :: w46 :: w47 :: w48 :: w49 :: w50 :: w51 :: w52 :: w53 :: w54 :: w55 :: w56 :: w57 :: w58 :: w59 :: w60 :: w61 :: w62 :: w63 :: w64 :: w65 :: w66 :: w67 :: w68 :: w69 :: w70 :: w71 :: w72 :: w73 :: w74 :: w75 :: w76 :: w77 :: w78 :: w79 :: w80 :: w81 :: w82 :: w83 :: w84 :: w85 :: w86 :: w87 :: w88 :: w89 :: w90 :: w91 :: w92 :: w93 :: [])), (a2, .inl (ca2, 1560, .inl (g2))), (a31, .inl (ca31, 4000, .inl (ga31))), (a3, .inl (ca3, 130, .inl (f_1))), (a4, .inl (ca4, 130, .inl (f_2))), (a5, .inl (ca5, 130, .inl (f_3))), (a6, .inl (ca6, 130, .inl (f_4))), (a7, .inl (ca7, 130, .inl (f_5))), (a8, .inl (ca8, 130, .inl (f_6)))] := hD
  refine lv_iload_n hx hb dX12_newName_93 rfl (lv_at hl 3 rfl) ?_
  have hP9 := hP.sub (ws' := [(h0, .inr (12, w0 :: .int 1 :: .ref a2 :: .ref a3 :: .ref a4 :: .ref a5 :: .ref a6 :: .ref a7 :: .ref a8 :: w9 :: w10 :: w11 :: w12 :: w13 :: w14 :: w15 :: w16 :: w17 :: w18 :: w19 :: w20 :: w21 :: w22 :: w23 :: w24 :: w25 :: w26 :: w27 :: w28 :: w29 :: w30 :: .ref a31 :: w32 :: w33 :: w34 :: w35 :: w36 :: w37 :: w38 :: w39 :: w40 :: w41 :: w42 :: w43 :: w44 :: w45 :: w46 :: w47 :: w48 :: w49 :: w50 :: w51 :: w52 :: w53 :: w54 :: w55 :: w56 :: w57 :: w58 :: w59 :: w60 :: w61 :: w62 :: w63 :: w64 :: w65 :: w66 :: w67 :: w68 :: w69 :: w70 :: w71 :: w72 :: w73 :: w74 :: w75 :: w76 :: w77 :: w78 :: w79 :: w80 :: w81 :: w82 :: w83 :: w84 :: w85 :: w86 :: w87 :: w88 :: w89 :: w90 :: w91 :: w92 :: w93 :: [])), (a2, .inl (ca2, 1560, .inl (g2))), (a31, .inl (ca31, 4000, .inl (ga31))), (a3, .inl (ca3, 130, .inl (f_1))), (a4, .inl (ca4, 130, .inl (f_2))), (a5, .inl (ca5, 130, .inl (f_3))), (a6, .inl (ca6, 130, .inl (f_4))), (a7, .inl (ca7, 130, .inl (f_5))), (a8, .inl (ca8, 130, .inl (f_6)))]) [0, 1, 2, 3, 4, 5, 6, 7, 8] rfl
  have hD9 := hD.sub (ws' := [(h0, .inr (12, w0 :: .int 1 :: .ref a2 :: .ref a3 :: .ref a4 :: .ref a5 :: .ref a6 :: .ref a7 :: .ref a8 :: w9 :: w10 :: w11 :: w12 :: w13 :: w14 :: w15 :: w16 :: w17 :: w18 :: w19 :: w20 :: w21 :: w22 :: w23 :: w24 :: w25 :: w26 :: w27 :: w28 :: w29 :: w30 :: .ref a31 :: w32 :: w33 :: w34 :: w35 :: w36 :: w37 :: w38 :: w39 :: w40 :: w41 :: w42 :: w43 :: w44 :: w45 :: w46 :: w47 :: w48 :: w49 :: w50 :: w51 :: w52 :: w53 :: w54 :: w55 :: w56 :: w57 :: w58 :: w59 :: w60 :: w61 :: w62 :: w63 :: w64 :: w65 :: w66 :: w67 :: w68 :: w69 :: w70 :: w71 :: w72 :: w73 :: w74 :: w75 :: w76 :: w77 :: w78 :: w79 :: w80 :: w81 :: w82 :: w83 :: w84 :: w85 :: w86 :: w87 :: w88 :: w89 :: w90 :: w91 :: w92 :: w93 :: [])), (a2, .inl (ca2, 1560, .inl (g2))), (a31, .inl (ca31, 4000, .inl (ga31))), (a3, .inl (ca3, 130, .inl (f_1))), (a4, .inl (ca4, 130, .inl (f_2))), (a5, .inl (ca5, 130, .inl (f_3))), (a6, .inl (ca6, 130, .inl (f_4))), (a7, .inl (ca7, 130, .inl (f_5))), (a8, .inl (ca8, 130, .inl (f_6)))]) [0, 1, 2, 3, 4, 5, 6, 7, 8] (by decide) rfl
  have hK9 := hK.sub (tys' := [(ca2, .int), (ca31, .int), (ca3, .int), (ca4, .int), (ca5, .int), (ca6, .int), (ca7, .int), (ca8, .int)]) [0, 1, 2, 3, 4, 5, 6, 7] rfl
  refine W.widen (k := 0) (n := 0) (by omega) (by omega) ?_
  exact W.iret (v := 0) hx hb hr (fun t ht hW => ⟨⟨0, (), rfl, rfl, g2, f_1, f_2, f_3, f_4, f_5, f_6, by rw [ht]; exact hP9, va_K.moved hW.alike hK9, hD9⟩, hS.F ht⟩) hS.2.2 dX12_newName_94
set_option maxHeartbeats 1000000 in
set_option maxRecDepth 100000 in
theorem lp_newName_1 {p : Program} {l : Launch} {e : Env} {s : State} {m : MethodId} {args : Array Value} {below : List Frame} {meth : Method} {c : Code} {Q : State → Prop} {dC : Nat → ClassId} {dI : Nat → Nat → Nat} {A : Nat → Prop} {h0 a2 a31 a3 a4 a5 a6 a7 a8 n : Nat} {ca2 ca31 ca3 ca4 ca5 ca6 ca7 ca8 : ClassId} {ga31 ga3 ga4 ga5 ga6 ga7 ga8 : Nat → Int32} {w0 w9 w10 w11 w12 w13 w14 w15 w16 w17 w18 w19 w20 w21 w22 w23 w24 w25 w26 w27 w28 w29 w30 w32 w33 w34 w35 w36 w37 w38 w39 w40 w41 w42 w43 w44 w45 w46 w47 w48 w49 w50 w51 w52 w53 w54 w55 w56 w57 w58 w59 w60 w61 w62 w63 w64 w65 w66 w67 w68 w69 w70 w71 w72 w73 w74 w75 w76 w77 w78 w79 w80 w81 w82 w83 w84 w85 w86 w87 w88 w89 w90 w91 w92 w93 : Value} (hn : n ≤ 12) (hx : p.tables.exec = Jvm.exec) (hb : c.code = cX12_newName) (hml : c.maxLocals = 5) (hown : s.vm.findClass RX12 = some m.cls) (hts : ∀ w ∈ wsX12_newName, w.before args s = true) (hA : ∀ q : Nat, s.heap.size ≤ q → A q) (hK : va_K (dC, dI) vwCl [(ca2, .int), (ca31, .int), (ca3, .int), (ca4, .int), (ca5, .int), (ca6, .int), (ca7, .int), (ca8, .int)] s) (hexit : ∀ (g : Nat → Int32) (i : Nat) (H : Heap) (locs : List Loc) (ls : Array Slot), va_P (dC, dI) vwCl [(h0, .inr (12, w0 :: .int 1 :: .ref a2 :: .ref a3 :: .ref a4 :: .ref a5 :: .ref a6 :: .ref a7 :: .ref a8 :: w9 :: w10 :: w11 :: w12 :: w13 :: w14 :: w15 :: w16 :: w17 :: w18 :: w19 :: w20 :: w21 :: w22 :: w23 :: w24 :: w25 :: w26 :: w27 :: w28 :: w29 :: w30 :: .ref a31 :: w32 :: w33 :: w34 :: w35 :: w36 :: w37 :: w38 :: w39 :: w40 :: w41 :: w42 :: w43 :: w44 :: w45 :: w46 :: w47 :: w48 :: w49 :: w50 :: w51 :: w52 :: w53 :: w54 :: w55 :: w56 :: w57 :: w58 :: w59 :: w60 :: w61 :: w62 :: w63 :: w64 :: w65 :: w66 :: w67 :: w68 :: w69 :: w70 :: w71 :: w72 :: w73 :: w74 :: w75 :: w76 :: w77 :: w78 :: w79 :: w80 :: w81 :: w82 :: w83 :: w84 :: w85 :: w86 :: w87 :: w88 :: w89 :: w90 :: w91 :: w92 :: w93 :: [])), (a2, .inl (ca2, 1560, .inl (g))), (a31, .inl (ca31, 4000, .inl (ga31))), (a3, .inl (ca3, 130, .inl (ga3))), (a4, .inl (ca4, 130, .inl (ga4))), (a5, .inl (ca5, 130, .inl (ga5))), (a6, .inl (ca6, 130, .inl (ga6))), (a7, .inl (ca7, 130, .inl (ga7))), (a8, .inl (ca8, 130, .inl (ga8)))] H → va_D A [(h0, .inr (12, w0 :: .int 1 :: .ref a2 :: .ref a3 :: .ref a4 :: .ref a5 :: .ref a6 :: .ref a7 :: .ref a8 :: w9 :: w10 :: w11 :: w12 :: w13 :: w14 :: w15 :: w16 :: w17 :: w18 :: w19 :: w20 :: w21 :: w22 :: w23 :: w24 :: w25 :: w26 :: w27 :: w28 :: w29 :: w30 :: .ref a31 :: w32 :: w33 :: w34 :: w35 :: w36 :: w37 :: w38 :: w39 :: w40 :: w41 :: w42 :: w43 :: w44 :: w45 :: w46 :: w47 :: w48 :: w49 :: w50 :: w51 :: w52 :: w53 :: w54 :: w55 :: w56 :: w57 :: w58 :: w59 :: w60 :: w61 :: w62 :: w63 :: w64 :: w65 :: w66 :: w67 :: w68 :: w69 :: w70 :: w71 :: w72 :: w73 :: w74 :: w75 :: w76 :: w77 :: w78 :: w79 :: w80 :: w81 :: w82 :: w83 :: w84 :: w85 :: w86 :: w87 :: w88 :: w89 :: w90 :: w91 :: w92 :: w93 :: [])), (a2, .inl (ca2, 1560, .inl (g))), (a31, .inl (ca31, 4000, .inl (ga31))), (a3, .inl (ca3, 130, .inl (ga3))), (a4, .inl (ca4, 130, .inl (ga4))), (a5, .inl (ca5, 130, .inl (ga5))), (a6, .inl (ca6, 130, .inl (ga6))), (a7, .inl (ca7, 130, .inl (ga7))), (a8, .inl (ca8, 130, .inl (ga8)))] → va_S A s.heap H locs → lv_has ls 5 [(0, .ref h0), (1, .int 0), (2, .int (nI n)), (3, .int 1), (4, .int (nI i))] → W p l e ({ frames := 0, cells := 0, slots := 0, locals := 0 } : Room) s m args below meth c H locs 0 0 Q (F0 m 41 ls [])) : ∀ (d i : Nat), n = i + d → ∀ (g : Nat → Int32) (H : Heap) (locs : List Loc) (ls : Array Slot), va_P (dC, dI) vwCl [(h0, .inr (12, w0 :: .int 1 :: .ref a2 :: .ref a3 :: .ref a4 :: .ref a5 :: .ref a6 :: .ref a7 :: .ref a8 :: w9 :: w10 :: w11 :: w12 :: w13 :: w14 :: w15 :: w16 :: w17 :: w18 :: w19 :: w20 :: w21 :: w22 :: w23 :: w24 :: w25 :: w26 :: w27 :: w28 :: w29 :: w30 :: .ref a31 :: w32 :: w33 :: w34 :: w35 :: w36 :: w37 :: w38 :: w39 :: w40 :: w41 :: w42 :: w43 :: w44 :: w45 :: w46 :: w47 :: w48 :: w49 :: w50 :: w51 :: w52 :: w53 :: w54 :: w55 :: w56 :: w57 :: w58 :: w59 :: w60 :: w61 :: w62 :: w63 :: w64 :: w65 :: w66 :: w67 :: w68 :: w69 :: w70 :: w71 :: w72 :: w73 :: w74 :: w75 :: w76 :: w77 :: w78 :: w79 :: w80 :: w81 :: w82 :: w83 :: w84 :: w85 :: w86 :: w87 :: w88 :: w89 :: w90 :: w91 :: w92 :: w93 :: [])), (a2, .inl (ca2, 1560, .inl (g))), (a31, .inl (ca31, 4000, .inl (ga31))), (a3, .inl (ca3, 130, .inl (ga3))), (a4, .inl (ca4, 130, .inl (ga4))), (a5, .inl (ca5, 130, .inl (ga5))), (a6, .inl (ca6, 130, .inl (ga6))), (a7, .inl (ca7, 130, .inl (ga7))), (a8, .inl (ca8, 130, .inl (ga8)))] H → va_D A [(h0, .inr (12, w0 :: .int 1 :: .ref a2 :: .ref a3 :: .ref a4 :: .ref a5 :: .ref a6 :: .ref a7 :: .ref a8 :: w9 :: w10 :: w11 :: w12 :: w13 :: w14 :: w15 :: w16 :: w17 :: w18 :: w19 :: w20 :: w21 :: w22 :: w23 :: w24 :: w25 :: w26 :: w27 :: w28 :: w29 :: w30 :: .ref a31 :: w32 :: w33 :: w34 :: w35 :: w36 :: w37 :: w38 :: w39 :: w40 :: w41 :: w42 :: w43 :: w44 :: w45 :: w46 :: w47 :: w48 :: w49 :: w50 :: w51 :: w52 :: w53 :: w54 :: w55 :: w56 :: w57 :: w58 :: w59 :: w60 :: w61 :: w62 :: w63 :: w64 :: w65 :: w66 :: w67 :: w68 :: w69 :: w70 :: w71 :: w72 :: w73 :: w74 :: w75 :: w76 :: w77 :: w78 :: w79 :: w80 :: w81 :: w82 :: w83 :: w84 :: w85 :: w86 :: w87 :: w88 :: w89 :: w90 :: w91 :: w92 :: w93 :: [])), (a2, .inl (ca2, 1560, .inl (g))), (a31, .inl (ca31, 4000, .inl (ga31))), (a3, .inl (ca3, 130, .inl (ga3))), (a4, .inl (ca4, 130, .inl (ga4))), (a5, .inl (ca5, 130, .inl (ga5))), (a6, .inl (ca6, 130, .inl (ga6))), (a7, .inl (ca7, 130, .inl (ga7))), (a8, .inl (ca8, 130, .inl (ga8)))] → va_S A s.heap H locs → lv_has ls 5 [(0, .ref h0), (1, .int 0), (2, .int (nI n)), (3, .int 1), (4, .int (nI i))] → W p l e ({ frames := 0, cells := 0, slots := 0, locals := 0 } : Room) s m args below meth c H locs 0 0 Q (F0 m 8 ls []) := by
  intro d
  induction d with
  | zero =>
    intro i hi g H locs ls hP hD hS hl
    refine lv_iload hx hb dX12_newName_8 (lv_at hl 4 rfl) ?_
    refine lv_iload_n hx hb dX12_newName_10 rfl (lv_at hl 2 rfl) ?_
    refine lv_icmp_ge (tgt := 41) hx hb dX12_newName_11 (by decide) (fun c9 => ?_) (fun c9 => absurd (nI_le (by omega) (by omega)) c9)
    exact hexit g i _ _ ls hP hD hS hl
  | succ d ih =>
    intro i hi g H locs ls hP hD hS hl
    refine lv_iload hx hb dX12_newName_8 (lv_at hl 4 rfl) ?_
    refine lv_iload_n hx hb dX12_newName_10 rfl (lv_at hl 2 rfl) ?_
    refine lv_icmp_ge (tgt := 41) hx hb dX12_newName_11 (by decide) (fun c9 => absurd c9 (nI_ge (by omega) (by omega))) (fun c9 => ?_)
    refine lv_aload_n hx hb dX12_newName_14 rfl (lv_at hl 0 rfl) ?_
    refine va_get (D := (dC, dI)) (ci := 12) (v := .ref a2) (C := RX12) (T := TX12) (N := 94) hx hb hts (by decide +kernel) hown hK hP 0 rfl rfl 2 (by decide) (hts (.fieldLink RX12 14 "ProofBenchModel" "letters" "[I") (by decide +kernel)) (fun _ h9 => h9) rfl dX12_newName_15 ?_
    refine lv_bipush (v := 12) hx hb dX12_newName_18 (by decide) ?_
    refine lv_iload_n hx hb dX12_newName_20 rfl (lv_at hl 3 rfl) ?_
    refine lv_imul hx hb dX12_newName_21 ?_
    refine lv_topi (fun z_1 e9 => ?_)
    obtain rfl : z_1 = 12 := by rw [e9]; decide
    refine lv_iload hx hb dX12_newName_22 (lv_at hl 4 rfl) ?_
    refine lv_iadd hx hb dX12_newName_24 ?_
    refine lv_topi (fun z9 e9 => ?_)
    obtain rfl : z9 = nI (12 + i) := by rw [e9]; exact nI_add 12 i
    refine lv_aload_n hx hb dX12_newName_25 rfl (lv_at hl 0 rfl) ?_
    refine va_get (D := (dC, dI)) (ci := 12) (v := .ref a31) (C := RX12) (T := TX12) (N := 94) hx hb hts (by decide +kernel) hown hK hP 0 rfl rfl 31 (by decide) (hts (.fieldLink RX12 17 "ProofBenchModel" "tape" "[I") (by decide +kernel)) (fun _ h9 => h9) rfl dX12_newName_26 ?_
    refine lv_iload_n hx hb dX12_newName_29 rfl (lv_at hl 1 rfl) ?_
    refine lv_iload hx hb dX12_newName_30 (lv_at hl 4 rfl) ?_
    refine lv_iadd hx hb dX12_newName_32 ?_
    refine lv_topi (fun z8 e8 => ?_)
    obtain rfl : z8 = nI (0 + i) := by rw [e8]; exact nI_add 0 i
    refine va_iald hx hb hK hP 2 1 rfl rfl (vp_in_nI (N := 4000) (by omega) (by decide)) dX12_newName_33 ?_
    refine lv_topi (fun r_2 er_2 => ?_)
    refine va_iast hx hb hK hP hD hS 1 0 rfl rfl (vp_in_nI (N := 1560) (by omega) (by decide)) dX12_newName_34 (fun H locs hP hD hS => ?_)
    obtain ⟨f_3, hP, hD⟩ : ∃ f9 : Nat → Int32, va_P (dC, dI) vwCl [(h0, .inr (12, w0 :: .int 1 :: .ref a2 :: .ref a3 :: .ref a4 :: .ref a5 :: .ref a6 :: .ref a7 :: .ref a8 :: w9 :: w10 :: w11 :: w12 :: w13 :: w14 :: w15 :: w16 :: w17 :: w18 :: w19 :: w20 :: w21 :: w22 :: w23 :: w24 :: w25 :: w26 :: w27 :: w28 :: w29 :: w30 :: .ref a31 :: w32 :: w33 :: w34 :: w35 :: w36 :: w37 :: w38 :: w39 :: w40 :: w41 :: w42 :: w43 :: w44 :: w45 :: w46 :: w47 :: w48 :: w49 :: w50 :: w51 :: w52 :: w53 :: w54 :: w55 :: w56 :: w57 :: w58 :: w59 :: w60 :: w61 :: w62 :: w63 :: w64 :: w65 :: w66 :: w67 :: w68 :: w69 :: w70 :: w71 :: w72 :: w73 :: w74 :: w75 :: w76 :: w77 :: w78 :: w79 :: w80 :: w81 :: w82 :: w83 :: w84 :: w85 :: w86 :: w87 :: w88 :: w89 :: w90 :: w91 :: w92 :: w93 :: [])), (a2, .inl (ca2, 1560, .inl (f9))), (a31, .inl (ca31, 4000, .inl (ga31))), (a3, .inl (ca3, 130, .inl (ga3))), (a4, .inl (ca4, 130, .inl (ga4))), (a5, .inl (ca5, 130, .inl (ga5))), (a6, .inl (ca6, 130, .inl (ga6))), (a7, .inl (ca7, 130, .inl (ga7))), (a8, .inl (ca8, 130, .inl (ga8)))] H ∧ va_D A [(h0, .inr (12, w0 :: .int 1 :: .ref a2 :: .ref a3 :: .ref a4 :: .ref a5 :: .ref a6 :: .ref a7 :: .ref a8 :: w9 :: w10 :: w11 :: w12 :: w13 :: w14 :: w15 :: w16 :: w17 :: w18 :: w19 :: w20 :: w21 :: w22 :: w23 :: w24 :: w25 :: w26 :: w27 :: w28 :: w29 :: w30 :: .ref a31 :: w32 :: w33 :: w34 :: w35 :: w36 :: w37 :: w38 :: w39 :: w40 :: w41 :: w42 :: w43 :: w44 :: w45 :: w46 :: w47 :: w48 :: w49 :: w50 :: w51 :: w52 :: w53 :: w54 :: w55 :: w56 :: w57 :: w58 :: w59 :: w60 :: w61 :: w62 :: w63 :: w64 :: w65 :: w66 :: w67 :: w68 :: w69 :: w70 :: w71 :: w72 :: w73 :: w74 :: w75 :: w76 :: w77 :: w78 :: w79 :: w80 :: w81 :: w82 :: w83 :: w84 :: w85 :: w86 :: w87 :: w88 :: w89 :: w90 :: w91 :: w92 :: w93 :: [])), (a2, .inl (ca2, 1560, .inl (f9))), (a31, .inl (ca31, 4000, .inl (ga31))), (a3, .inl (ca3, 130, .inl (ga3))), (a4, .inl (ca4, 130, .inl (ga4))), (a5, .inl (ca5, 130, .inl (ga5))), (a6, .inl (ca6, 130, .inl (ga6))), (a7, .inl (ca7, 130, .inl (ga7))), (a8, .inl (ca8, 130, .inl (ga8)))] := ⟨_, hP, hD⟩
    refine lv_iinc (v := nI (i + 1)) (lv' := [(4, .int (nI (i + 1))), (0, .ref h0), (1, .int 0), (2, .int (nI n)), (3, .int 1)]) hx hb dX12_newName_35 hl (k := 4) rfl (by rw [← nI_1]; rfl) (by decide) rfl (fun ls hl => ?_)
    refine lv_goto (tgt := 8) hx hb dX12_newName_38 (by decide) ?_
    exact ih (i + 1) (by omega) _ _ _ ls hP hD hS (lv_sub hl [1, 2, 3, 4, 0] rfl)
set_option maxHeartbeats 1000000 in
set_option maxRecDepth 100000 in
/-- newName(0, n): the name 1 -/
theorem c_newName_1 (l : Launch) (dC : Nat → ClassId) (dI : Nat → Nat → Nat) (sz : Nat) (h0 a2 a31 a3 a4 a5 a6 a7 a8 n : Nat) (ca2 ca31 ca3 ca4 ca5 ca6 ca7 ca8 : ClassId) (ga2 ga31 ga3 ga4 ga5 ga6 ga7 ga8 : Nat → Int32) (w0 w9 w10 w11 w12 w13 w14 w15 w16 w17 w18 w19 w20 w21 w22 w23 w24 w25 w26 w27 w28 w29 w30 w32 w33 w34 w35 w36 w37 w38 w39 w40 w41 w42 w43 w44 w45 w46 w47 w48 w49 w50 w51 w52 w53 w54 w55 w56 w57 w58 w59 w60 w61 w62 w63 w64 w65 w66 w67 w68 w69 w70 w71 w72 w73 w74 w75 w76 w77 w78 w79 w80 w81 w82 w83 w84 w85 w86 w87 w88 w89 w90 w91 w92 w93 : Value) (hn : n ≤ 12) : Met l yX12_newName wsX12_newName ({ frames := 0, cells := 0, slots := 0, locals := 0 }) (va_Pc [.ref h0, .int 0, .int (nI n)] (fun U => U.heap.size = sz ∧ va_P (dC, dI) vwCl [(h0, .inr (12, w0 :: .int 1 :: .ref a2 :: .ref a3 :: .ref a4 :: .ref a5 :: .ref a6 :: .ref a7 :: .ref a8 :: w9 :: w10 :: w11 :: w12 :: w13 :: w14 :: w15 :: w16 :: w17 :: w18 :: w19 :: w20 :: w21 :: w22 :: w23 :: w24 :: w25 :: w26 :: w27 :: w28 :: w29 :: w30 :: .ref a31 :: w32 :: w33 :: w34 :: w35 :: w36 :: w37 :: w38 :: w39 :: w40 :: w41 :: w42 :: w43 :: w44 :: w45 :: w46 :: w47 :: w48 :: w49 :: w50 :: w51 :: w52 :: w53 :: w54 :: w55 :: w56 :: w57 :: w58 :: w59 :: w60 :: w61 :: w62 :: w63 :: w64 :: w65 :: w66 :: w67 :: w68 :: w69 :: w70 :: w71 :: w72 :: w73 :: w74 :: w75 :: w76 :: w77 :: w78 :: w79 :: w80 :: w81 :: w82 :: w83 :: w84 :: w85 :: w86 :: w87 :: w88 :: w89 :: w90 :: w91 :: w92 :: w93 :: [])), (a2, .inl (ca2, 1560, .inl (ga2))), (a31, .inl (ca31, 4000, .inl (ga31))), (a3, .inl (ca3, 130, .inl (ga3))), (a4, .inl (ca4, 130, .inl (ga4))), (a5, .inl (ca5, 130, .inl (ga5))), (a6, .inl (ca6, 130, .inl (ga6))), (a7, .inl (ca7, 130, .inl (ga7))), (a8, .inl (ca8, 130, .inl (ga8)))] U.heap ∧ va_K (dC, dI) vwCl [(ca2, .int), (ca31, .int), (ca3, .int), (ca4, .int), (ca5, .int), (ca6, .int), (ca7, .int), (ca8, .int)] U ∧ va_D (fun _ => True) [(h0, .inr (12, w0 :: .int 1 :: .ref a2 :: .ref a3 :: .ref a4 :: .ref a5 :: .ref a6 :: .ref a7 :: .ref a8 :: w9 :: w10 :: w11 :: w12 :: w13 :: w14 :: w15 :: w16 :: w17 :: w18 :: w19 :: w20 :: w21 :: w22 :: w23 :: w24 :: w25 :: w26 :: w27 :: w28 :: w29 :: w30 :: .ref a31 :: w32 :: w33 :: w34 :: w35 :: w36 :: w37 :: w38 :: w39 :: w40 :: w41 :: w42 :: w43 :: w44 :: w45 :: w46 :: w47 :: w48 :: w49 :: w50 :: w51 :: w52 :: w53 :: w54 :: w55 :: w56 :: w57 :: w58 :: w59 :: w60 :: w61 :: w62 :: w63 :: w64 :: w65 :: w66 :: w67 :: w68 :: w69 :: w70 :: w71 :: w72 :: w73 :: w74 :: w75 :: w76 :: w77 :: w78 :: w79 :: w80 :: w81 :: w82 :: w83 :: w84 :: w85 :: w86 :: w87 :: w88 :: w89 :: w90 :: w91 :: w92 :: w93 :: [])), (a2, .inl (ca2, 1560, .inl (ga2))), (a31, .inl (ca31, 4000, .inl (ga31))), (a3, .inl (ca3, 130, .inl (ga3))), (a4, .inl (ca4, 130, .inl (ga4))), (a5, .inl (ca5, 130, .inl (ga5))), (a6, .inl (ca6, 130, .inl (ga6))), (a7, .inl (ca7, 130, .inl (ga7))), (a8, .inl (ca8, 130, .inl (ga8)))])) (va_Qi (fun (r : Int32) (_ : Unit) => r = 1) (fun _ t => ∃ (g2 f_1 f_2 f_3 f_4 f_5 f_6 : Nat → Int32), va_P (dC, dI) vwCl [(h0, .inr (12, w0 :: .int 2 :: .ref a2 :: .ref a3 :: .ref a4 :: .ref a5 :: .ref a6 :: .ref a7 :: .ref a8 :: w9 :: w10 :: w11 :: w12 :: w13 :: w14 :: w15 :: w16 :: w17 :: w18 :: w19 :: w20 :: w21 :: w22 :: w23 :: w24 :: w25 :: w26 :: w27 :: w28 :: w29 :: w30 :: .ref a31 :: w32 :: w33 :: w34 :: w35 :: w36 :: w37 :: w38 :: w39 :: w40 :: w41 :: w42 :: w43 :: w44 :: w45 :: w46 :: w47 :: w48 :: w49 :: w50 :: w51 :: w52 :: w53 :: w54 :: w55 :: w56 :: w57 :: w58 :: w59 :: w60 :: w61 :: w62 :: w63 :: w64 :: w65 :: w66 :: w67 :: w68 :: w69 :: w70 :: w71 :: w72 :: w73 :: w74 :: w75 :: w76 :: w77 :: w78 :: w79 :: w80 :: w81 :: w82 :: w83 :: w84 :: w85 :: w86 :: w87 :: w88 :: w89 :: w90 :: w91 :: w92 :: w93 :: [])), (a2, .inl (ca2, 1560, .inl (g2))), (a31, .inl (ca31, 4000, .inl (ga31))), (a3, .inl (ca3, 130, .inl (f_1))), (a4, .inl (ca4, 130, .inl (f_2))), (a5, .inl (ca5, 130, .inl (f_3))), (a6, .inl (ca6, 130, .inl (f_4))), (a7, .inl (ca7, 130, .inl (f_5))), (a8, .inl (ca8, 130, .inl (f_6)))] t.heap ∧ va_K (dC, dI) vwCl [(ca2, .int), (ca31, .int), (ca3, .int), (ca4, .int), (ca5, .int), (ca6, .int), (ca7, .int), (ca8, .int)] t ∧ va_D (va_A [(h0, .inr (12, w0 :: .int 1 :: .ref a2 :: .ref a3 :: .ref a4 :: .ref a5 :: .ref a6 :: .ref a7 :: .ref a8 :: w9 :: w10 :: w11 :: w12 :: w13 :: w14 :: w15 :: w16 :: w17 :: w18 :: w19 :: w20 :: w21 :: w22 :: w23 :: w24 :: w25 :: w26 :: w27 :: w28 :: w29 :: w30 :: .ref a31 :: w32 :: w33 :: w34 :: w35 :: w36 :: w37 :: w38 :: w39 :: w40 :: w41 :: w42 :: w43 :: w44 :: w45 :: w46 :: w47 :: w48 :: w49 :: w50 :: w51 :: w52 :: w53 :: w54 :: w55 :: w56 :: w57 :: w58 :: w59 :: w60 :: w61 :: w62 :: w63 :: w64 :: w65 :: w66 :: w67 :: w68 :: w69 :: w70 :: w71 :: w72 :: w73 :: w74 :: w75 :: w76 :: w77 :: w78 :: w79 :: w80 :: w81 :: w82 :: w83 :: w84 :: w85 :: w86 :: w87 :: w88 :: w89 :: w90 :: w91 :: w92 :: w93 :: [])), (a2, .inl (ca2, 1560, .inl (ga2))), (a31, .inl (ca31, 4000, .inl (ga31))), (a3, .inl (ca3, 130, .inl (ga3))), (a4, .inl (ca4, 130, .inl (ga4))), (a5, .inl (ca5, 130, .inl (ga5))), (a6, .inl (ca6, 130, .inl (ga6))), (a7, .inl (ca7, 130, .inl (ga7))), (a8, .inl (ca8, 130, .inl (ga8)))] sz) [(h0, .inr (12, w0 :: .int 2 :: .ref a2 :: .ref a3 :: .ref a4 :: .ref a5 :: .ref a6 :: .ref a7 :: .ref a8 :: w9 :: w10 :: w11 :: w12 :: w13 :: w14 :: w15 :: w16 :: w17 :: w18 :: w19 :: w20 :: w21 :: w22 :: w23 :: w24 :: w25 :: w26 :: w27 :: w28 :: w29 :: w30 :: .ref a31 :: w32 :: w33 :: w34 :: w35 :: w36 :: w37 :: w38 :: w39 :: w40 :: w41 :: w42 :: w43 :: w44 :: w45 :: w46 :: w47 :: w48 :: w49 :: w50 :: w51 :: w52 :: w53 :: w54 :: w55 :: w56 :: w57 :: w58 :: w59 :: w60 :: w61 :: w62 :: w63 :: w64 :: w65 :: w66 :: w67 :: w68 :: w69 :: w70 :: w71 :: w72 :: w73 :: w74 :: w75 :: w76 :: w77 :: w78 :: w79 :: w80 :: w81 :: w82 :: w83 :: w84 :: w85 :: w86 :: w87 :: w88 :: w89 :: w90 :: w91 :: w92 :: w93 :: [])), (a2, .inl (ca2, 1560, .inl (g2))), (a31, .inl (ca31, 4000, .inl (ga31))), (a3, .inl (ca3, 130, .inl (f_1))), (a4, .inl (ca4, 130, .inl (f_2))), (a5, .inl (ca5, 130, .inl (f_3))), (a6, .inl (ca6, 130, .inl (f_4))), (a7, .inl (ca7, 130, .inl (f_5))), (a8, .inl (ca8, 130, .inl (f_6)))]) (va_A [(h0, .inr (12, w0 :: .int 1 :: .ref a2 :: .ref a3 :: .ref a4 :: .ref a5 :: .ref a6 :: .ref a7 :: .ref a8 :: w9 :: w10 :: w11 :: w12 :: w13 :: w14 :: w15 :: w16 :: w17 :: w18 :: w19 :: w20 :: w21 :: w22 :: w23 :: w24 :: w25 :: w26 :: w27 :: w28 :: w29 :: w30 :: .ref a31 :: w32 :: w33 :: w34 :: w35 :: w36 :: w37 :: w38 :: w39 :: w40 :: w41 :: w42 :: w43 :: w44 :: w45 :: w46 :: w47 :: w48 :: w49 :: w50 :: w51 :: w52 :: w53 :: w54 :: w55 :: w56 :: w57 :: w58 :: w59 :: w60 :: w61 :: w62 :: w63 :: w64 :: w65 :: w66 :: w67 :: w68 :: w69 :: w70 :: w71 :: w72 :: w73 :: w74 :: w75 :: w76 :: w77 :: w78 :: w79 :: w80 :: w81 :: w82 :: w83 :: w84 :: w85 :: w86 :: w87 :: w88 :: w89 :: w90 :: w91 :: w92 :: w93 :: [])), (a2, .inl (ca2, 1560, .inl (ga2))), (a31, .inl (ca31, 4000, .inl (ga31))), (a3, .inl (ca3, 130, .inl (ga3))), (a4, .inl (ca4, 130, .inl (ga4))), (a5, .inl (ca5, 130, .inl (ga5))), (a6, .inl (ca6, 130, .inl (ga6))), (a7, .inl (ca7, 130, .inl (ga7))), (a8, .inl (ca8, 130, .inl (ga8)))] sz)) (0) (0) (va_A [(h0, .inr (12, w0 :: .int 1 :: .ref a2 :: .ref a3 :: .ref a4 :: .ref a5 :: .ref a6 :: .ref a7 :: .ref a8 :: w9 :: w10 :: w11 :: w12 :: w13 :: w14 :: w15 :: w16 :: w17 :: w18 :: w19 :: w20 :: w21 :: w22 :: w23 :: w24 :: w25 :: w26 :: w27 :: w28 :: w29 :: w30 :: .ref a31 :: w32 :: w33 :: w34 :: w35 :: w36 :: w37 :: w38 :: w39 :: w40 :: w41 :: w42 :: w43 :: w44 :: w45 :: w46 :: w47 :: w48 :: w49 :: w50 :: w51 :: w52 :: w53 :: w54 :: w55 :: w56 :: w57 :: w58 :: w59 :: w60 :: w61 :: w62 :: w63 :: w64 :: w65 :: w66 :: w67 :: w68 :: w69 :: w70 :: w71 :: w72 :: w73 :: w74 :: w75 :: w76 :: w77 :: w78 :: w79 :: w80 :: w81 :: w82 :: w83 :: w84 :: w85 :: w86 :: w87 :: w88 :: w89 :: w90 :: w91 :: w92 :: w93 :: [])), (a2, .inl (ca2, 1560, .inl (ga2))), (a31, .inl (ca31, 4000, .inl (ga31))), (a3, .inl (ca3, 130, .inl (ga3))), (a4, .inl (ca4, 130, .inl (ga4))), (a5, .inl (ca5, 130, .inl (ga5))), (a6, .inl (ca6, 130, .inl (ga6))), (a7, .inl (ca7, 130, .inl (ga7))), (a8, .inl (ca8, 130, .inl (ga8)))] sz) := by
  refine Met.ofW (cc := cX12_newName) (maxL := 5) (ret := (some .int)) (by decide) rfl ?_
  intro p e s m args below meth c s₁ B hml hv
  obtain ⟨rfl, hsz, hP, hK, hD0⟩ := hv
  have hx := B.exec
  have hb := B.bytes
  have hr := B.returns
  have hts := atoms_spec (ws := wsX12_newName) B.pre
  have hown : s.vm.findClass RX12 = some m.cls := findClass_of_methodNamed B.named
  have hlocks := B.notSynchronized
  subst hsz
  have hD := hD0.self (sz := s.heap.size)
  generalize hAe : va_A [(h0, .inr (12, w0 :: .int 1 :: .ref a2 :: .ref a3 :: .ref a4 :: .ref a5 :: .ref a6 :: .ref a7 :: .ref a8 :: w9 :: w10 :: w11 :: w12 :: w13 :: w14 :: w15 :: w16 :: w17 :: w18 :: w19 :: w20 :: w21 :: w22 :: w23 :: w24 :: w25 :: w26 :: w27 :: w28 :: w29 :: w30 :: .ref a31 :: w32 :: w33 :: w34 :: w35 :: w36 :: w37 :: w38 :: w39 :: w40 :: w41 :: w42 :: w43 :: w44 :: w45 :: w46 :: w47 :: w48 :: w49 :: w50 :: w51 :: w52 :: w53 :: w54 :: w55 :: w56 :: w57 :: w58 :: w59 :: w60 :: w61 :: w62 :: w63 :: w64 :: w65 :: w66 :: w67 :: w68 :: w69 :: w70 :: w71 :: w72 :: w73 :: w74 :: w75 :: w76 :: w77 :: w78 :: w79 :: w80 :: w81 :: w82 :: w83 :: w84 :: w85 :: w86 :: w87 :: w88 :: w89 :: w90 :: w91 :: w92 :: w93 :: [])), (a2, .inl (ca2, 1560, .inl (ga2))), (a31, .inl (ca31, 4000, .inl (ga31))), (a3, .inl (ca3, 130, .inl (ga3))), (a4, .inl (ca4, 130, .inl (ga4))), (a5, .inl (ca5, 130, .inl (ga5))), (a6, .inl (ca6, 130, .inl (ga6))), (a7, .inl (ca7, 130, .inl (ga7))), (a8, .inl (ca8, 130, .inl (ga8)))] s.heap.size = A at hD ⊢
  have hA : ∀ q : Nat, s.heap.size ≤ q → A q := fun q h => by rw [← hAe]; exact Or.inr h
  have hS : va_S A s.heap s.heap [] := va_S.rf
  have hl := lv_entry ([.ref h0, .int 0, .int (nI n)]) (n := 5) (Nat.le_of_ble_eq_true rfl)
  rw [lg_entry_eq]
  generalize (lg_sl ([.ref h0, .int 0, .int (nI n)]) ++ List.replicate (5 - (lg_sl ([.ref h0, .int 0, .int (nI n)])).length) Slot.unset).toArray = ls at hl ⊢
  have hl : lv_has ls 5 [(0, .ref h0), (1, .int 0), (2, .int (nI n))] := hl
  refine lv_aload_n hx hb dX12_newName_0 rfl (lv_at hl 0 rfl) ?_
  refine va_get (D := (dC, dI)) (ci := 12) (v := .int 1) (C := RX12) (T := TX12) (N := 94) hx hb hts (by decide +kernel) hown hK hP 0 rfl rfl 1 (by decide) (hts (.fieldLink RX12 7 "ProofBenchModel" "names" "I") (by decide +kernel)) (fun _ h9 => h9) rfl dX12_newName_1 ?_
  refine lv_istore_n (lv' := [(3, .int 1), (0, .ref h0), (1, .int 0), (2, .int (nI n))]) hx hb dX12_newName_4 rfl hl (by decide) rfl (fun ls hl => ?_)
  refine lv_iconst (v := 0) hx hb dX12_newName_5 (by decide) ?_
  refine lv_istore (lv' := [(4, .int 0), (3, .int 1), (0, .ref h0), (1, .int 0), (2, .int (nI n))]) hx hb dX12_newName_6 hl (by decide) rfl (fun ls hl => ?_)
  refine lp_newName_1 hn hx hb hml hown hts hA hK (fun g2 i H locs ls hP hD hS hl => ?_) n 0 (by omega) _ _ _ ls hP hD hS (lv_sub hl [2, 3, 4, 1, 0] rfl)
  refine lv_aload_n hx hb dX12_newName_41 rfl (lv_at hl 0 rfl) ?_
  refine va_get (D := (dC, dI)) (ci := 12) (v := .ref a3) (C := RX12) (T := TX12) (N := 94) hx hb hts (by decide +kernel) hown hK hP 0 rfl rfl 3 (by decide) (hts (.fieldLink RX12 10 "ProofBenchModel" "letterMany" "[I") (by decide +kernel)) (fun _ h9 => h9) rfl dX12_newName_42 ?_
  refine lv_iload_n hx hb dX12_newName_45 rfl (lv_at hl 3 rfl) ?_
  refine lv_iload_n hx hb dX12_newName_46 rfl (lv_at hl 2 rfl) ?_
  refine va_iast hx hb hK hP hD hS 3 2 rfl rfl (show vp_in (1) 130 from by unfold vp_in; decide) dX12_newName_47 (fun H locs hP hD hS => ?_)
  obtain ⟨f_1, hP, hD⟩ : ∃ f9 : Nat → Int32, va_P (dC, dI) vwCl [(h0, .inr (12, w0 :: .int 1 :: .ref a2 :: .ref a3 :: .ref a4 :: .ref a5 :: .ref a6 :: .ref a7 :: .ref a8 :: w9 :: w10 :: w11 :: w12 :: w13 :: w14 :: w15 :: w16 :: w17 :: w18 :: w19 :: w20 :: w21 :: w22 :: w23 :: w24 :: w25 :: w26 :: w27 :: w28 :: w29 :: w30 :: .ref a31 :: w32 :: w33 :: w34 :: w35 :: w36 :: w37 :: w38 :: w39 :: w40 :: w41 :: w42 :: w43 :: w44 :: w45 :: w46 :: w47 :: w48 :: w49 :: w50 :: w51 :: w52 :: w53 :: w54 :: w55 :: w56 :: w57 :: w58 :: w59 :: w60 :: w61 :: w62 :: w63 :: w64 :: w65 :: w66 :: w67 :: w68 :: w69 :: w70 :: w71 :: w72 :: w73 :: w74 :: w75 :: w76 :: w77 :: w78 :: w79 :: w80 :: w81 :: w82 :: w83 :: w84 :: w85 :: w86 :: w87 :: w88 :: w89 :: w90 :: w91 :: w92 :: w93 :: [])), (a2, .inl (ca2, 1560, .inl (g2))), (a31, .inl (ca31, 4000, .inl (ga31))), (a3, .inl (ca3, 130, .inl (f9))), (a4, .inl (ca4, 130, .inl (ga4))), (a5, .inl (ca5, 130, .inl (ga5))), (a6, .inl (ca6, 130, .inl (ga6))), (a7, .inl (ca7, 130, .inl (ga7))), (a8, .inl (ca8, 130, .inl (ga8)))] H ∧ va_D A [(h0, .inr (12, w0 :: .int 1 :: .ref a2 :: .ref a3 :: .ref a4 :: .ref a5 :: .ref a6 :: .ref a7 :: .ref a8 :: w9 :: w10 :: w11 :: w12 :: w13 :: w14 :: w15 :: w16 :: w17 :: w18 :: w19 :: w20 :: w21 :: w22 :: w23 :: w24 :: w25 :: w26 :: w27 :: w28 :: w29 :: w30 :: .ref a31 :: w32 :: w33 :: w34 :: w35 :: w36 :: w37 :: w38 :: w39 :: w40 :: w41 :: w42 :: w43 :: w44 :: w45 :: w46 :: w47 :: w48 :: w49 :: w50 :: w51 :: w52 :: w53 :: w54 :: w55 :: w56 :: w57 :: w58 :: w59 :: w60 :: w61 :: w62 :: w63 :: w64 :: w65 :: w66 :: w67 :: w68 :: w69 :: w70 :: w71 :: w72 :: w73 :: w74 :: w75 :: w76 :: w77 :: w78 :: w79 :: w80 :: w81 :: w82 :: w83 :: w84 :: w85 :: w86 :: w87 :: w88 :: w89 :: w90 :: w91 :: w92 :: w93 :: [])), (a2, .inl (ca2, 1560, .inl (g2))), (a31, .inl (ca31, 4000, .inl (ga31))), (a3, .inl (ca3, 130, .inl (f9))), (a4, .inl (ca4, 130, .inl (ga4))), (a5, .inl (ca5, 130, .inl (ga5))), (a6, .inl (ca6, 130, .inl (ga6))), (a7, .inl (ca7, 130, .inl (ga7))), (a8, .inl (ca8, 130, .inl (ga8)))] := ⟨_, hP, hD⟩
  refine lv_aload_n hx hb dX12_newName_48 rfl (lv_at hl 0 rfl) ?_
  refine va_get (D := (dC, dI)) (ci := 12) (v := .ref a4) (C := RX12) (T := TX12) (N := 94) hx hb hts (by decide +kernel) hown hK hP 0 rfl rfl 4 (by decide) (hts (.fieldLink RX12 20 "ProofBenchModel" "asSort" "[I") (by decide +kernel)) (fun _ h9 => h9) rfl dX12_newName_49 ?_
  refine lv_iload_n hx hb dX12_newName_52 rfl (lv_at hl 3 rfl) ?_
  refine lv_iconst (v := -1) hx hb dX12_newName_53 (by decide) ?_
  refine va_iast hx hb hK hP hD hS 4 3 rfl rfl (show vp_in (1) 130 from by unfold vp_in; decide) dX12_newName_54 (fun H locs hP hD hS => ?_)
  obtain ⟨f_2, hP, hD⟩ : ∃ f9 : Nat → Int32, va_P (dC, dI) vwCl [(h0, .inr (12, w0 :: .int 1 :: .ref a2 :: .ref a3 :: .ref a4 :: .ref a5 :: .ref a6 :: .ref a7 :: .ref a8 :: w9 :: w10 :: w11 :: w12 :: w13 :: w14 :: w15 :: w16 :: w17 :: w18 :: w19 :: w20 :: w21 :: w22 :: w23 :: w24 :: w25 :: w26 :: w27 :: w28 :: w29 :: w30 :: .ref a31 :: w32 :: w33 :: w34 :: w35 :: w36 :: w37 :: w38 :: w39 :: w40 :: w41 :: w42 :: w43 :: w44 :: w45 :: w46 :: w47 :: w48 :: w49 :: w50 :: w51 :: w52 :: w53 :: w54 :: w55 :: w56 :: w57 :: w58 :: w59 :: w60 :: w61 :: w62 :: w63 :: w64 :: w65 :: w66 :: w67 :: w68 :: w69 :: w70 :: w71 :: w72 :: w73 :: w74 :: w75 :: w76 :: w77 :: w78 :: w79 :: w80 :: w81 :: w82 :: w83 :: w84 :: w85 :: w86 :: w87 :: w88 :: w89 :: w90 :: w91 :: w92 :: w93 :: [])), (a2, .inl (ca2, 1560, .inl (g2))), (a31, .inl (ca31, 4000, .inl (ga31))), (a3, .inl (ca3, 130, .inl (f_1))), (a4, .inl (ca4, 130, .inl (f9))), (a5, .inl (ca5, 130, .inl (ga5))), (a6, .inl (ca6, 130, .inl (ga6))), (a7, .inl (ca7, 130, .inl (ga7))), (a8, .inl (ca8, 130, .inl (ga8)))] H ∧ va_D A [(h0, .inr (12, w0 :: .int 1 :: .ref a2 :: .ref a3 :: .ref a4 :: .ref a5 :: .ref a6 :: .ref a7 :: .ref a8 :: w9 :: w10 :: w11 :: w12 :: w13 :: w14 :: w15 :: w16 :: w17 :: w18 :: w19 :: w20 :: w21 :: w22 :: w23 :: w24 :: w25 :: w26 :: w27 :: w28 :: w29 :: w30 :: .ref a31 :: w32 :: w33 :: w34 :: w35 :: w36 :: w37 :: w38 :: w39 :: w40 :: w41 :: w42 :: w43 :: w44 :: w45 :: w46 :: w47 :: w48 :: w49 :: w50 :: w51 :: w52 :: w53 :: w54 :: w55 :: w56 :: w57 :: w58 :: w59 :: w60 :: w61 :: w62 :: w63 :: w64 :: w65 :: w66 :: w67 :: w68 :: w69 :: w70 :: w71 :: w72 :: w73 :: w74 :: w75 :: w76 :: w77 :: w78 :: w79 :: w80 :: w81 :: w82 :: w83 :: w84 :: w85 :: w86 :: w87 :: w88 :: w89 :: w90 :: w91 :: w92 :: w93 :: [])), (a2, .inl (ca2, 1560, .inl (g2))), (a31, .inl (ca31, 4000, .inl (ga31))), (a3, .inl (ca3, 130, .inl (f_1))), (a4, .inl (ca4, 130, .inl (f9))), (a5, .inl (ca5, 130, .inl (ga5))), (a6, .inl (ca6, 130, .inl (ga6))), (a7, .inl (ca7, 130, .inl (ga7))), (a8, .inl (ca8, 130, .inl (ga8)))] := ⟨_, hP, hD⟩
  refine lv_aload_n hx hb dX12_newName_55 rfl (lv_at hl 0 rfl) ?_
  refine va_get (D := (dC, dI)) (ci := 12) (v := .ref a5) (C := RX12) (T := TX12) (N := 94) hx hb hts (by decide +kernel) hown hK hP 0 rfl rfl 5 (by decide) (hts (.fieldLink RX12 23 "ProofBenchModel" "asFun" "[I") (by decide +kernel)) (fun _ h9 => h9) rfl dX12_newName_56 ?_
  refine lv_iload_n hx hb dX12_newName_59 rfl (lv_at hl 3 rfl) ?_
  refine lv_iconst (v := -1) hx hb dX12_newName_60 (by decide) ?_
  refine va_iast hx hb hK hP hD hS 5 4 rfl rfl (show vp_in (1) 130 from by unfold vp_in; decide) dX12_newName_61 (fun H locs hP hD hS => ?_)
  obtain ⟨f_3, hP, hD⟩ : ∃ f9 : Nat → Int32, va_P (dC, dI) vwCl [(h0, .inr (12, w0 :: .int 1 :: .ref a2 :: .ref a3 :: .ref a4 :: .ref a5 :: .ref a6 :: .ref a7 :: .ref a8 :: w9 :: w10 :: w11 :: w12 :: w13 :: w14 :: w15 :: w16 :: w17 :: w18 :: w19 :: w20 :: w21 :: w22 :: w23 :: w24 :: w25 :: w26 :: w27 :: w28 :: w29 :: w30 :: .ref a31 :: w32 :: w33 :: w34 :: w35 :: w36 :: w37 :: w38 :: w39 :: w40 :: w41 :: w42 :: w43 :: w44 :: w45 :: w46 :: w47 :: w48 :: w49 :: w50 :: w51 :: w52 :: w53 :: w54 :: w55 :: w56 :: w57 :: w58 :: w59 :: w60 :: w61 :: w62 :: w63 :: w64 :: w65 :: w66 :: w67 :: w68 :: w69 :: w70 :: w71 :: w72 :: w73 :: w74 :: w75 :: w76 :: w77 :: w78 :: w79 :: w80 :: w81 :: w82 :: w83 :: w84 :: w85 :: w86 :: w87 :: w88 :: w89 :: w90 :: w91 :: w92 :: w93 :: [])), (a2, .inl (ca2, 1560, .inl (g2))), (a31, .inl (ca31, 4000, .inl (ga31))), (a3, .inl (ca3, 130, .inl (f_1))), (a4, .inl (ca4, 130, .inl (f_2))), (a5, .inl (ca5, 130, .inl (f9))), (a6, .inl (ca6, 130, .inl (ga6))), (a7, .inl (ca7, 130, .inl (ga7))), (a8, .inl (ca8, 130, .inl (ga8)))] H ∧ va_D A [(h0, .inr (12, w0 :: .int 1 :: .ref a2 :: .ref a3 :: .ref a4 :: .ref a5 :: .ref a6 :: .ref a7 :: .ref a8 :: w9 :: w10 :: w11 :: w12 :: w13 :: w14 :: w15 :: w16 :: w17 :: w18 :: w19 :: w20 :: w21 :: w22 :: w23 :: w24 :: w25 :: w26 :: w27 :: w28 :: w29 :: w30 :: .ref a31 :: w32 :: w33 :: w34 :: w35 :: w36 :: w37 :: w38 :: w39 :: w40 :: w41 :: w42 :: w43 :: w44 :: w45 :: w46 :: w47 :: w48 :: w49 :: w50 :: w51 :: w52 :: w53 :: w54 :: w55 :: w56 :: w57 :: w58 :: w59 :: w60 :: w61 :: w62 :: w63 :: w64 :: w65 :: w66 :: w67 :: w68 :: w69 :: w70 :: w71 :: w72 :: w73 :: w74 :: w75 :: w76 :: w77 :: w78 :: w79 :: w80 :: w81 :: w82 :: w83 :: w84 :: w85 :: w86 :: w87 :: w88 :: w89 :: w90 :: w91 :: w92 :: w93 :: [])), (a2, .inl (ca2, 1560, .inl (g2))), (a31, .inl (ca31, 4000, .inl (ga31))), (a3, .inl (ca3, 130, .inl (f_1))), (a4, .inl (ca4, 130, .inl (f_2))), (a5, .inl (ca5, 130, .inl (f9))), (a6, .inl (ca6, 130, .inl (ga6))), (a7, .inl (ca7, 130, .inl (ga7))), (a8, .inl (ca8, 130, .inl (ga8)))] := ⟨_, hP, hD⟩
  refine lv_aload_n hx hb dX12_newName_62 rfl (lv_at hl 0 rfl) ?_
  refine va_get (D := (dC, dI)) (ci := 12) (v := .ref a6) (C := RX12) (T := TX12) (N := 94) hx hb hts (by decide +kernel) hown hK hP 0 rfl rfl 6 (by decide) (hts (.fieldLink RX12 26 "ProofBenchModel" "asRel" "[I") (by decide +kernel)) (fun _ h9 => h9) rfl dX12_newName_63 ?_
  refine lv_iload_n hx hb dX12_newName_66 rfl (lv_at hl 3 rfl) ?_
  refine lv_iconst (v := -1) hx hb dX12_newName_67 (by decide) ?_
  refine va_iast hx hb hK hP hD hS 6 5 rfl rfl (show vp_in (1) 130 from by unfold vp_in; decide) dX12_newName_68 (fun H locs hP hD hS => ?_)
  obtain ⟨f_4, hP, hD⟩ : ∃ f9 : Nat → Int32, va_P (dC, dI) vwCl [(h0, .inr (12, w0 :: .int 1 :: .ref a2 :: .ref a3 :: .ref a4 :: .ref a5 :: .ref a6 :: .ref a7 :: .ref a8 :: w9 :: w10 :: w11 :: w12 :: w13 :: w14 :: w15 :: w16 :: w17 :: w18 :: w19 :: w20 :: w21 :: w22 :: w23 :: w24 :: w25 :: w26 :: w27 :: w28 :: w29 :: w30 :: .ref a31 :: w32 :: w33 :: w34 :: w35 :: w36 :: w37 :: w38 :: w39 :: w40 :: w41 :: w42 :: w43 :: w44 :: w45 :: w46 :: w47 :: w48 :: w49 :: w50 :: w51 :: w52 :: w53 :: w54 :: w55 :: w56 :: w57 :: w58 :: w59 :: w60 :: w61 :: w62 :: w63 :: w64 :: w65 :: w66 :: w67 :: w68 :: w69 :: w70 :: w71 :: w72 :: w73 :: w74 :: w75 :: w76 :: w77 :: w78 :: w79 :: w80 :: w81 :: w82 :: w83 :: w84 :: w85 :: w86 :: w87 :: w88 :: w89 :: w90 :: w91 :: w92 :: w93 :: [])), (a2, .inl (ca2, 1560, .inl (g2))), (a31, .inl (ca31, 4000, .inl (ga31))), (a3, .inl (ca3, 130, .inl (f_1))), (a4, .inl (ca4, 130, .inl (f_2))), (a5, .inl (ca5, 130, .inl (f_3))), (a6, .inl (ca6, 130, .inl (f9))), (a7, .inl (ca7, 130, .inl (ga7))), (a8, .inl (ca8, 130, .inl (ga8)))] H ∧ va_D A [(h0, .inr (12, w0 :: .int 1 :: .ref a2 :: .ref a3 :: .ref a4 :: .ref a5 :: .ref a6 :: .ref a7 :: .ref a8 :: w9 :: w10 :: w11 :: w12 :: w13 :: w14 :: w15 :: w16 :: w17 :: w18 :: w19 :: w20 :: w21 :: w22 :: w23 :: w24 :: w25 :: w26 :: w27 :: w28 :: w29 :: w30 :: .ref a31 :: w32 :: w33 :: w34 :: w35 :: w36 :: w37 :: w38 :: w39 :: w40 :: w41 :: w42 :: w43 :: w44 :: w45 :: w46 :: w47 :: w48 :: w49 :: w50 :: w51 :: w52 :: w53 :: w54 :: w55 :: w56 :: w57 :: w58 :: w59 :: w60 :: w61 :: w62 :: w63 :: w64 :: w65 :: w66 :: w67 :: w68 :: w69 :: w70 :: w71 :: w72 :: w73 :: w74 :: w75 :: w76 :: w77 :: w78 :: w79 :: w80 :: w81 :: w82 :: w83 :: w84 :: w85 :: w86 :: w87 :: w88 :: w89 :: w90 :: w91 :: w92 :: w93 :: [])), (a2, .inl (ca2, 1560, .inl (g2))), (a31, .inl (ca31, 4000, .inl (ga31))), (a3, .inl (ca3, 130, .inl (f_1))), (a4, .inl (ca4, 130, .inl (f_2))), (a5, .inl (ca5, 130, .inl (f_3))), (a6, .inl (ca6, 130, .inl (f9))), (a7, .inl (ca7, 130, .inl (ga7))), (a8, .inl (ca8, 130, .inl (ga8)))] := ⟨_, hP, hD⟩
  refine lv_aload_n hx hb dX12_newName_69 rfl (lv_at hl 0 rfl) ?_
  refine va_get (D := (dC, dI)) (ci := 12) (v := .ref a7) (C := RX12) (T := TX12) (N := 94) hx hb hts (by decide +kernel) hown hK hP 0 rfl rfl 7 (by decide) (hts (.fieldLink RX12 29 "ProofBenchModel" "asVariable" "[I") (by decide +kernel)) (fun _ h9 => h9) rfl dX12_newName_70 ?_
  refine lv_iload_n hx hb dX12_newName_73 rfl (lv_at hl 3 rfl) ?_
  refine lv_iconst (v := -1) hx hb dX12_newName_74 (by decide) ?_
  refine va_iast hx hb hK hP hD hS 7 6 rfl rfl (show vp_in (1) 130 from by unfold vp_in; decide) dX12_newName_75 (fun H locs hP hD hS => ?_)
  obtain ⟨f_5, hP, hD⟩ : ∃ f9 : Nat → Int32, va_P (dC, dI) vwCl [(h0, .inr (12, w0 :: .int 1 :: .ref a2 :: .ref a3 :: .ref a4 :: .ref a5 :: .ref a6 :: .ref a7 :: .ref a8 :: w9 :: w10 :: w11 :: w12 :: w13 :: w14 :: w15 :: w16 :: w17 :: w18 :: w19 :: w20 :: w21 :: w22 :: w23 :: w24 :: w25 :: w26 :: w27 :: w28 :: w29 :: w30 :: .ref a31 :: w32 :: w33 :: w34 :: w35 :: w36 :: w37 :: w38 :: w39 :: w40 :: w41 :: w42 :: w43 :: w44 :: w45 :: w46 :: w47 :: w48 :: w49 :: w50 :: w51 :: w52 :: w53 :: w54 :: w55 :: w56 :: w57 :: w58 :: w59 :: w60 :: w61 :: w62 :: w63 :: w64 :: w65 :: w66 :: w67 :: w68 :: w69 :: w70 :: w71 :: w72 :: w73 :: w74 :: w75 :: w76 :: w77 :: w78 :: w79 :: w80 :: w81 :: w82 :: w83 :: w84 :: w85 :: w86 :: w87 :: w88 :: w89 :: w90 :: w91 :: w92 :: w93 :: [])), (a2, .inl (ca2, 1560, .inl (g2))), (a31, .inl (ca31, 4000, .inl (ga31))), (a3, .inl (ca3, 130, .inl (f_1))), (a4, .inl (ca4, 130, .inl (f_2))), (a5, .inl (ca5, 130, .inl (f_3))), (a6, .inl (ca6, 130, .inl (f_4))), (a7, .inl (ca7, 130, .inl (f9))), (a8, .inl (ca8, 130, .inl (ga8)))] H ∧ va_D A [(h0, .inr (12, w0 :: .int 1 :: .ref a2 :: .ref a3 :: .ref a4 :: .ref a5 :: .ref a6 :: .ref a7 :: .ref a8 :: w9 :: w10 :: w11 :: w12 :: w13 :: w14 :: w15 :: w16 :: w17 :: w18 :: w19 :: w20 :: w21 :: w22 :: w23 :: w24 :: w25 :: w26 :: w27 :: w28 :: w29 :: w30 :: .ref a31 :: w32 :: w33 :: w34 :: w35 :: w36 :: w37 :: w38 :: w39 :: w40 :: w41 :: w42 :: w43 :: w44 :: w45 :: w46 :: w47 :: w48 :: w49 :: w50 :: w51 :: w52 :: w53 :: w54 :: w55 :: w56 :: w57 :: w58 :: w59 :: w60 :: w61 :: w62 :: w63 :: w64 :: w65 :: w66 :: w67 :: w68 :: w69 :: w70 :: w71 :: w72 :: w73 :: w74 :: w75 :: w76 :: w77 :: w78 :: w79 :: w80 :: w81 :: w82 :: w83 :: w84 :: w85 :: w86 :: w87 :: w88 :: w89 :: w90 :: w91 :: w92 :: w93 :: [])), (a2, .inl (ca2, 1560, .inl (g2))), (a31, .inl (ca31, 4000, .inl (ga31))), (a3, .inl (ca3, 130, .inl (f_1))), (a4, .inl (ca4, 130, .inl (f_2))), (a5, .inl (ca5, 130, .inl (f_3))), (a6, .inl (ca6, 130, .inl (f_4))), (a7, .inl (ca7, 130, .inl (f9))), (a8, .inl (ca8, 130, .inl (ga8)))] := ⟨_, hP, hD⟩
  refine lv_aload_n hx hb dX12_newName_76 rfl (lv_at hl 0 rfl) ?_
  refine va_get (D := (dC, dI)) (ci := 12) (v := .ref a8) (C := RX12) (T := TX12) (N := 94) hx hb hts (by decide +kernel) hown hK hP 0 rfl rfl 8 (by decide) (hts (.fieldLink RX12 32 "ProofBenchModel" "asFact" "[I") (by decide +kernel)) (fun _ h9 => h9) rfl dX12_newName_77 ?_
  refine lv_iload_n hx hb dX12_newName_80 rfl (lv_at hl 3 rfl) ?_
  refine lv_iconst (v := -1) hx hb dX12_newName_81 (by decide) ?_
  refine va_iast hx hb hK hP hD hS 8 7 rfl rfl (show vp_in (1) 130 from by unfold vp_in; decide) dX12_newName_82 (fun H locs hP hD hS => ?_)
  obtain ⟨f_6, hP, hD⟩ : ∃ f9 : Nat → Int32, va_P (dC, dI) vwCl [(h0, .inr (12, w0 :: .int 1 :: .ref a2 :: .ref a3 :: .ref a4 :: .ref a5 :: .ref a6 :: .ref a7 :: .ref a8 :: w9 :: w10 :: w11 :: w12 :: w13 :: w14 :: w15 :: w16 :: w17 :: w18 :: w19 :: w20 :: w21 :: w22 :: w23 :: w24 :: w25 :: w26 :: w27 :: w28 :: w29 :: w30 :: .ref a31 :: w32 :: w33 :: w34 :: w35 :: w36 :: w37 :: w38 :: w39 :: w40 :: w41 :: w42 :: w43 :: w44 :: w45 :: w46 :: w47 :: w48 :: w49 :: w50 :: w51 :: w52 :: w53 :: w54 :: w55 :: w56 :: w57 :: w58 :: w59 :: w60 :: w61 :: w62 :: w63 :: w64 :: w65 :: w66 :: w67 :: w68 :: w69 :: w70 :: w71 :: w72 :: w73 :: w74 :: w75 :: w76 :: w77 :: w78 :: w79 :: w80 :: w81 :: w82 :: w83 :: w84 :: w85 :: w86 :: w87 :: w88 :: w89 :: w90 :: w91 :: w92 :: w93 :: [])), (a2, .inl (ca2, 1560, .inl (g2))), (a31, .inl (ca31, 4000, .inl (ga31))), (a3, .inl (ca3, 130, .inl (f_1))), (a4, .inl (ca4, 130, .inl (f_2))), (a5, .inl (ca5, 130, .inl (f_3))), (a6, .inl (ca6, 130, .inl (f_4))), (a7, .inl (ca7, 130, .inl (f_5))), (a8, .inl (ca8, 130, .inl (f9)))] H ∧ va_D A [(h0, .inr (12, w0 :: .int 1 :: .ref a2 :: .ref a3 :: .ref a4 :: .ref a5 :: .ref a6 :: .ref a7 :: .ref a8 :: w9 :: w10 :: w11 :: w12 :: w13 :: w14 :: w15 :: w16 :: w17 :: w18 :: w19 :: w20 :: w21 :: w22 :: w23 :: w24 :: w25 :: w26 :: w27 :: w28 :: w29 :: w30 :: .ref a31 :: w32 :: w33 :: w34 :: w35 :: w36 :: w37 :: w38 :: w39 :: w40 :: w41 :: w42 :: w43 :: w44 :: w45 :: w46 :: w47 :: w48 :: w49 :: w50 :: w51 :: w52 :: w53 :: w54 :: w55 :: w56 :: w57 :: w58 :: w59 :: w60 :: w61 :: w62 :: w63 :: w64 :: w65 :: w66 :: w67 :: w68 :: w69 :: w70 :: w71 :: w72 :: w73 :: w74 :: w75 :: w76 :: w77 :: w78 :: w79 :: w80 :: w81 :: w82 :: w83 :: w84 :: w85 :: w86 :: w87 :: w88 :: w89 :: w90 :: w91 :: w92 :: w93 :: [])), (a2, .inl (ca2, 1560, .inl (g2))), (a31, .inl (ca31, 4000, .inl (ga31))), (a3, .inl (ca3, 130, .inl (f_1))), (a4, .inl (ca4, 130, .inl (f_2))), (a5, .inl (ca5, 130, .inl (f_3))), (a6, .inl (ca6, 130, .inl (f_4))), (a7, .inl (ca7, 130, .inl (f_5))), (a8, .inl (ca8, 130, .inl (f9)))] := ⟨_, hP, hD⟩
  refine lv_aload_n hx hb dX12_newName_83 rfl (lv_at hl 0 rfl) ?_
  refine lv_dup hx hb dX12_newName_84 rfl ?_
  refine va_get (D := (dC, dI)) (ci := 12) (v := .int 1) (C := RX12) (T := TX12) (N := 94) hx hb hts (by decide +kernel) hown hK hP 0 rfl rfl 1 (by decide) (hts (.fieldLink RX12 7 "ProofBenchModel" "names" "I") (by decide +kernel)) (fun _ h9 => h9) rfl dX12_newName_85 ?_
  refine lv_iconst (v := 1) hx hb dX12_newName_88 (by decide) ?_
  refine lv_iadd hx hb dX12_newName_89 ?_
  refine lv_topi (fun z_7 e9 => ?_)
  obtain rfl : z_7 = 2 := by rw [e9]; decide
  refine va_put (D := (dC, dI)) (ci := 12) (v := .int 2) (ty := .int) (C := RX12) (T := TX12) (N := 94) hx hb hts (by decide +kernel) tyX12 tyX12_ok nmX12 hown hK hP hD hS 0 rfl rfl 1 (by decide) (hts (.fieldLink RX12 7 "ProofBenchModel" "names" "I") (by decide +kernel)) (fun _ h9 => h9) rfl (by decide +kernel) rfl rfl (Nat.le_of_ble_eq_true rfl) dX12_newName_90 (fun H locs hP hD hS => ?_)
  have hP : va_P (dC, dI) vwCl [(h0, .inr (12, w0 :: .int 2 :: .ref a2 :: .ref a3 :: .ref a4 :: .ref a5 :: .ref a6 :: .ref a7 :: .ref a8 :: w9 :: w10 :: w11 :: w12 :: w13 :: w14 :: w15 :: w16 :: w17 :: w18 :: w19 :: w20 :: w21 :: w22 :: w23 :: w24 :: w25 :: w26 :: w27 :: w28 :: w29 :: w30 :: .ref a31 :: w32 :: w33 :: w34 :: w35 :: w36 :: w37 :: w38 :: w39 :: w40 :: w41 :: w42 :: w43 :: w44 :: w45 :: w46 :: w47 :: w48 :: w49 :: w50 :: w51 :: w52 :: w53 :: w54 :: w55 :: w56 :: w57 :: w58 :: w59 :: w60 :: w61 :: w62 :: w63 :: w64 :: w65 :: w66 :: w67 :: w68 :: w69 :: w70 :: w71 :: w72 :: w73 :: w74 :: w75 :: w76 :: w77 :: w78 :: w79 :: w80 :: w81 :: w82 :: w83 :: w84 :: w85 :: w86 :: w87 :: w88 :: w89 :: w90 :: w91 :: w92 :: w93 :: [])), (a2, .inl (ca2, 1560, .inl (g2))), (a31, .inl (ca31, 4000, .inl (ga31))), (a3, .inl (ca3, 130, .inl (f_1))), (a4, .inl (ca4, 130, .inl (f_2))), (a5, .inl (ca5, 130, .inl (f_3))), (a6, .inl (ca6, 130, .inl (f_4))), (a7, .inl (ca7, 130, .inl (f_5))), (a8, .inl (ca8, 130, .inl (f_6)))] H := hP
  have hD : va_D A [(h0, .inr (12, w0 :: .int 2 :: .ref a2 :: .ref a3 :: .ref a4 :: .ref a5 :: .ref a6 :: .ref a7 :: .ref a8 :: w9 :: w10 :: w11 :: w12 :: w13 :: w14 :: w15 :: w16 :: w17 :: w18 :: w19 :: w20 :: w21 :: w22 :: w23 :: w24 :: w25 :: w26 :: w27 :: w28 :: w29 :: w30 :: .ref a31 :: w32 :: w33 :: w34 :: w35 :: w36 :: w37 :: w38 :: w39 :: w40 :: w41 :: w42 :: w43 :: w44 :: w45 :: w46 :: w47 :: w48 :: w49 :: w50 :: w51 :: w52 :: w53 :: w54 :: w55 :: w56 :: w57 :: w58 :: w59 :: w60 :: w61 :: w62 :: w63 :: w64 :: w65 :: w66 :: w67 :: w68 :: w69 :: w70 :: w71 :: w72 :: w73 :: w74 :: w75 :: w76 :: w77 :: w78 :: w79 :: w80 :: w81 :: w82 :: w83 :: w84 :: w85 :: w86 :: w87 :: w88 :: w89 :: w90 :: w91 :: w92 :: w93 :: [])), (a2, .inl (ca2, 1560, .inl (g2))), (a31, .inl (ca31, 4000, .inl (ga31))), (a3, .inl (ca3, 130, .inl (f_1))), (a4, .inl (ca4, 130, .inl (f_2))), (a5, .inl (ca5, 130, .inl (f_3))), (a6, .inl (ca6, 130, .inl (f_4))), (a7, .inl (ca7, 130, .inl (f_5))), (a8, .inl (ca8, 130, .inl (f_6)))] := hD
  refine lv_iload_n hx hb dX12_newName_93 rfl (lv_at hl 3 rfl) ?_
  have hP9 := hP.sub (ws' := [(h0, .inr (12, w0 :: .int 2 :: .ref a2 :: .ref a3 :: .ref a4 :: .ref a5 :: .ref a6 :: .ref a7 :: .ref a8 :: w9 :: w10 :: w11 :: w12 :: w13 :: w14 :: w15 :: w16 :: w17 :: w18 :: w19 :: w20 :: w21 :: w22 :: w23 :: w24 :: w25 :: w26 :: w27 :: w28 :: w29 :: w30 :: .ref a31 :: w32 :: w33 :: w34 :: w35 :: w36 :: w37 :: w38 :: w39 :: w40 :: w41 :: w42 :: w43 :: w44 :: w45 :: w46 :: w47 :: w48 :: w49 :: w50 :: w51 :: w52 :: w53 :: w54 :: w55 :: w56 :: w57 :: w58 :: w59 :: w60 :: w61 :: w62 :: w63 :: w64 :: w65 :: w66 :: w67 :: w68 :: w69 :: w70 :: w71 :: w72 :: w73 :: w74 :: w75 :: w76 :: w77 :: w78 :: w79 :: w80 :: w81 :: w82 :: w83 :: w84 :: w85 :: w86 :: w87 :: w88 :: w89 :: w90 :: w91 :: w92 :: w93 :: [])), (a2, .inl (ca2, 1560, .inl (g2))), (a31, .inl (ca31, 4000, .inl (ga31))), (a3, .inl (ca3, 130, .inl (f_1))), (a4, .inl (ca4, 130, .inl (f_2))), (a5, .inl (ca5, 130, .inl (f_3))), (a6, .inl (ca6, 130, .inl (f_4))), (a7, .inl (ca7, 130, .inl (f_5))), (a8, .inl (ca8, 130, .inl (f_6)))]) [0, 1, 2, 3, 4, 5, 6, 7, 8] rfl
  have hD9 := hD.sub (ws' := [(h0, .inr (12, w0 :: .int 2 :: .ref a2 :: .ref a3 :: .ref a4 :: .ref a5 :: .ref a6 :: .ref a7 :: .ref a8 :: w9 :: w10 :: w11 :: w12 :: w13 :: w14 :: w15 :: w16 :: w17 :: w18 :: w19 :: w20 :: w21 :: w22 :: w23 :: w24 :: w25 :: w26 :: w27 :: w28 :: w29 :: w30 :: .ref a31 :: w32 :: w33 :: w34 :: w35 :: w36 :: w37 :: w38 :: w39 :: w40 :: w41 :: w42 :: w43 :: w44 :: w45 :: w46 :: w47 :: w48 :: w49 :: w50 :: w51 :: w52 :: w53 :: w54 :: w55 :: w56 :: w57 :: w58 :: w59 :: w60 :: w61 :: w62 :: w63 :: w64 :: w65 :: w66 :: w67 :: w68 :: w69 :: w70 :: w71 :: w72 :: w73 :: w74 :: w75 :: w76 :: w77 :: w78 :: w79 :: w80 :: w81 :: w82 :: w83 :: w84 :: w85 :: w86 :: w87 :: w88 :: w89 :: w90 :: w91 :: w92 :: w93 :: [])), (a2, .inl (ca2, 1560, .inl (g2))), (a31, .inl (ca31, 4000, .inl (ga31))), (a3, .inl (ca3, 130, .inl (f_1))), (a4, .inl (ca4, 130, .inl (f_2))), (a5, .inl (ca5, 130, .inl (f_3))), (a6, .inl (ca6, 130, .inl (f_4))), (a7, .inl (ca7, 130, .inl (f_5))), (a8, .inl (ca8, 130, .inl (f_6)))]) [0, 1, 2, 3, 4, 5, 6, 7, 8] (by decide) rfl
  have hK9 := hK.sub (tys' := [(ca2, .int), (ca31, .int), (ca3, .int), (ca4, .int), (ca5, .int), (ca6, .int), (ca7, .int), (ca8, .int)]) [0, 1, 2, 3, 4, 5, 6, 7] rfl
  refine W.widen (k := 0) (n := 0) (by omega) (by omega) ?_
  exact W.iret (v := 1) hx hb hr (fun t ht hW => ⟨⟨1, (), rfl, rfl, g2, f_1, f_2, f_3, f_4, f_5, f_6, by rw [ht]; exact hP9, va_K.moved hW.alike hK9, hD9⟩, hS.F ht⟩) hS.2.2 dX12_newName_94
set_option maxHeartbeats 1000000 in
set_option maxRecDepth 100000 in
theorem lp_known_0 {p : Program} {l : Launch} {e : Env} {s : State} {m : MethodId} {args : Array Value} {below : List Frame} {meth : Method} {c : Code} {Q : State → Prop} {dC : Nat → ClassId} {dI : Nat → Nat → Nat} {A : Nat → Prop} {h0 a2 a31 a3 a4 a5 a6 a7 a8 b v n : Nat} {f : Nat → Int32} {ca2 ca31 ca3 ca4 ca5 ca6 ca7 ca8 : ClassId} {ga2 ga3 ga4 ga5 ga6 ga7 ga8 : Nat → Int32} {w0 w9 w10 w11 w12 w13 w14 w15 w16 w17 w18 w19 w20 w21 w22 w23 w24 w25 w26 w27 w28 w29 w30 w32 w33 w34 w35 w36 w37 w38 w39 w40 w41 w42 w43 w44 w45 w46 w47 w48 w49 w50 w51 w52 w53 w54 w55 w56 w57 w58 w59 w60 w61 w62 w63 w64 w65 w66 w67 w68 w69 w70 w71 w72 w73 w74 w75 w76 w77 w78 w79 w80 w81 w82 w83 w84 w85 w86 w87 w88 w89 w90 w91 w92 w93 : Value} (hn : n ≤ 12) (hx : p.tables.exec = Jvm.exec) (hb : c.code = cX12_known) (hml : c.maxLocals = 4) (hown : s.vm.findClass RX12 = some m.cls) (hts : ∀ w ∈ wsX12_known, w.before args s = true) (hA : ∀ q : Nat, s.heap.size ≤ q → A q) (hst : st_S b v n f A s s.heap) (hK : va_K (dC, dI) vwCl [(ca2, .int), (ca31, .int), (ca3, .int), (ca4, .int), (ca5, .int), (ca6, .int), (ca7, .int), (ca8, .int)] s) (hexit : ∀ (g : Nat → Int32) (i : Nat) (H : Heap) (locs : List Loc) (ls : Array Slot), va_P (dC, dI) vwCl [(h0, .inr (12, w0 :: .int 0 :: .ref a2 :: .ref a3 :: .ref a4 :: .ref a5 :: .ref a6 :: .ref a7 :: .ref a8 :: w9 :: w10 :: w11 :: w12 :: w13 :: w14 :: w15 :: w16 :: w17 :: w18 :: w19 :: w20 :: w21 :: w22 :: w23 :: w24 :: w25 :: w26 :: w27 :: w28 :: w29 :: w30 :: .ref a31 :: w32 :: w33 :: w34 :: w35 :: w36 :: w37 :: w38 :: w39 :: w40 :: w41 :: w42 :: w43 :: w44 :: w45 :: w46 :: w47 :: w48 :: w49 :: w50 :: w51 :: w52 :: w53 :: w54 :: w55 :: w56 :: w57 :: w58 :: w59 :: w60 :: w61 :: w62 :: w63 :: w64 :: w65 :: w66 :: w67 :: w68 :: w69 :: w70 :: w71 :: w72 :: w73 :: w74 :: w75 :: w76 :: w77 :: w78 :: w79 :: w80 :: w81 :: w82 :: w83 :: w84 :: w85 :: w86 :: w87 :: w88 :: w89 :: w90 :: w91 :: w92 :: w93 :: [])), (a2, .inl (ca2, 1560, .inl (ga2))), (a31, .inl (ca31, 4000, .inl (g))), (a3, .inl (ca3, 130, .inl (ga3))), (a4, .inl (ca4, 130, .inl (ga4))), (a5, .inl (ca5, 130, .inl (ga5))), (a6, .inl (ca6, 130, .inl (ga6))), (a7, .inl (ca7, 130, .inl (ga7))), (a8, .inl (ca8, 130, .inl (ga8)))] H → va_D A [(h0, .inr (12, w0 :: .int 0 :: .ref a2 :: .ref a3 :: .ref a4 :: .ref a5 :: .ref a6 :: .ref a7 :: .ref a8 :: w9 :: w10 :: w11 :: w12 :: w13 :: w14 :: w15 :: w16 :: w17 :: w18 :: w19 :: w20 :: w21 :: w22 :: w23 :: w24 :: w25 :: w26 :: w27 :: w28 :: w29 :: w30 :: .ref a31 :: w32 :: w33 :: w34 :: w35 :: w36 :: w37 :: w38 :: w39 :: w40 :: w41 :: w42 :: w43 :: w44 :: w45 :: w46 :: w47 :: w48 :: w49 :: w50 :: w51 :: w52 :: w53 :: w54 :: w55 :: w56 :: w57 :: w58 :: w59 :: w60 :: w61 :: w62 :: w63 :: w64 :: w65 :: w66 :: w67 :: w68 :: w69 :: w70 :: w71 :: w72 :: w73 :: w74 :: w75 :: w76 :: w77 :: w78 :: w79 :: w80 :: w81 :: w82 :: w83 :: w84 :: w85 :: w86 :: w87 :: w88 :: w89 :: w90 :: w91 :: w92 :: w93 :: [])), (a2, .inl (ca2, 1560, .inl (ga2))), (a31, .inl (ca31, 4000, .inl (g))), (a3, .inl (ca3, 130, .inl (ga3))), (a4, .inl (ca4, 130, .inl (ga4))), (a5, .inl (ca5, 130, .inl (ga5))), (a6, .inl (ca6, 130, .inl (ga6))), (a7, .inl (ca7, 130, .inl (ga7))), (a8, .inl (ca8, 130, .inl (ga8)))] → va_S A s.heap H locs → lv_has ls 4 [(0, .ref h0), (1, .ref b), (2, .ref a4), (3, .int (nI i))] → W p l e ({ frames := 4, cells := 0, slots := 0, locals := 85 } : Room) s m args below meth c H locs 0 0 Q (F0 m 27 ls [])) : ∀ (d i : Nat), n = i + d → ∀ (g : Nat → Int32) (H : Heap) (locs : List Loc) (ls : Array Slot), va_P (dC, dI) vwCl [(h0, .inr (12, w0 :: .int 0 :: .ref a2 :: .ref a3 :: .ref a4 :: .ref a5 :: .ref a6 :: .ref a7 :: .ref a8 :: w9 :: w10 :: w11 :: w12 :: w13 :: w14 :: w15 :: w16 :: w17 :: w18 :: w19 :: w20 :: w21 :: w22 :: w23 :: w24 :: w25 :: w26 :: w27 :: w28 :: w29 :: w30 :: .ref a31 :: w32 :: w33 :: w34 :: w35 :: w36 :: w37 :: w38 :: w39 :: w40 :: w41 :: w42 :: w43 :: w44 :: w45 :: w46 :: w47 :: w48 :: w49 :: w50 :: w51 :: w52 :: w53 :: w54 :: w55 :: w56 :: w57 :: w58 :: w59 :: w60 :: w61 :: w62 :: w63 :: w64 :: w65 :: w66 :: w67 :: w68 :: w69 :: w70 :: w71 :: w72 :: w73 :: w74 :: w75 :: w76 :: w77 :: w78 :: w79 :: w80 :: w81 :: w82 :: w83 :: w84 :: w85 :: w86 :: w87 :: w88 :: w89 :: w90 :: w91 :: w92 :: w93 :: [])), (a2, .inl (ca2, 1560, .inl (ga2))), (a31, .inl (ca31, 4000, .inl (g))), (a3, .inl (ca3, 130, .inl (ga3))), (a4, .inl (ca4, 130, .inl (ga4))), (a5, .inl (ca5, 130, .inl (ga5))), (a6, .inl (ca6, 130, .inl (ga6))), (a7, .inl (ca7, 130, .inl (ga7))), (a8, .inl (ca8, 130, .inl (ga8)))] H → va_D A [(h0, .inr (12, w0 :: .int 0 :: .ref a2 :: .ref a3 :: .ref a4 :: .ref a5 :: .ref a6 :: .ref a7 :: .ref a8 :: w9 :: w10 :: w11 :: w12 :: w13 :: w14 :: w15 :: w16 :: w17 :: w18 :: w19 :: w20 :: w21 :: w22 :: w23 :: w24 :: w25 :: w26 :: w27 :: w28 :: w29 :: w30 :: .ref a31 :: w32 :: w33 :: w34 :: w35 :: w36 :: w37 :: w38 :: w39 :: w40 :: w41 :: w42 :: w43 :: w44 :: w45 :: w46 :: w47 :: w48 :: w49 :: w50 :: w51 :: w52 :: w53 :: w54 :: w55 :: w56 :: w57 :: w58 :: w59 :: w60 :: w61 :: w62 :: w63 :: w64 :: w65 :: w66 :: w67 :: w68 :: w69 :: w70 :: w71 :: w72 :: w73 :: w74 :: w75 :: w76 :: w77 :: w78 :: w79 :: w80 :: w81 :: w82 :: w83 :: w84 :: w85 :: w86 :: w87 :: w88 :: w89 :: w90 :: w91 :: w92 :: w93 :: [])), (a2, .inl (ca2, 1560, .inl (ga2))), (a31, .inl (ca31, 4000, .inl (g))), (a3, .inl (ca3, 130, .inl (ga3))), (a4, .inl (ca4, 130, .inl (ga4))), (a5, .inl (ca5, 130, .inl (ga5))), (a6, .inl (ca6, 130, .inl (ga6))), (a7, .inl (ca7, 130, .inl (ga7))), (a8, .inl (ca8, 130, .inl (ga8)))] → va_S A s.heap H locs → lv_has ls 4 [(0, .ref h0), (1, .ref b), (2, .ref a4), (3, .int (nI i))] → W p l e ({ frames := 4, cells := 0, slots := 0, locals := 85 } : Room) s m args below meth c H locs 0 0 Q (F0 m 2 ls []) := by
  intro d
  induction d with
  | zero =>
    intro i hi g H locs ls hP hD hS hl
    refine lv_iload_n hx hb dX12_known_2 rfl (lv_at hl 3 rfl) ?_
    refine lv_aload_n hx hb dX12_known_3 rfl (lv_at hl 1 rfl) ?_
    have hPc := hP.sub (ws' := []) [] rfl
    have hDc := hD.sub (ws' := []) [] (by decide) rfl
    have hKc := hK.sub (tys' := []) [] rfl
    have hFc := va_free (wc := []) hD hS hA [] rfl
    refine va_calli (va_runV (As := []) (rest := [.int (nI i)]) ⟨hx, hb, hml, hown, hts⟩ (c_length l dC dI H.size b v n f) (cwV 0 hts gX12_known_J0_length_8abf5 rfl rfl rfl (by decide +kernel) ⟨Nat.le_of_ble_eq_true rfl, Nat.le_of_ble_eq_true rfl⟩) ⟨fun a U g mk q => by obtain ⟨q0, q1, qP, qK, qD, qE0⟩ := q; exact ⟨q0, q1, qP, va_K.moved (u := U) (U := U.calling g mk a) (Vm.Alike.refl U.vm) qK, qD, st_S.moved (u := U) (U := U.calling g mk a) (Vm.Alike.refl U.vm) qE0⟩, hst.recv hS, fun U hU hW => ⟨rfl, by rw [hU], by rw [hU]; exact hPc, va_K.moved hW.alike hKc, hDc.weaken (fun _ _ _ _ => trivial), by rw [hU]; exact st_S.moved hW.alike ((hst.kept hS.2.1).narrow hFc)⟩⟩ rfl rfl hl.1 rfl (lv_room (Nat.le_of_ble_eq_true rfl)) dX12_known_4 ⟨(show 0 + 0 ≤ 0 by omega), (show 0 + 0 ≤ 0 by omega)⟩) hS (fun q _ h => hFc q h) hFc (fun r0 u t H1 locs ht hvm hw hB hz1 hk1 hS => ?_)
    obtain ⟨hP1, hK1, hD1⟩ := hB
    rw [ht] at hP1
    have hK1 := va_K.moved hvm.symm hK1
    obtain ⟨hP, hD⟩ := va_join (wr := [(h0, .inr (12, w0 :: .int 0 :: .ref a2 :: .ref a3 :: .ref a4 :: .ref a5 :: .ref a6 :: .ref a7 :: .ref a8 :: w9 :: w10 :: w11 :: w12 :: w13 :: w14 :: w15 :: w16 :: w17 :: w18 :: w19 :: w20 :: w21 :: w22 :: w23 :: w24 :: w25 :: w26 :: w27 :: w28 :: w29 :: w30 :: .ref a31 :: w32 :: w33 :: w34 :: w35 :: w36 :: w37 :: w38 :: w39 :: w40 :: w41 :: w42 :: w43 :: w44 :: w45 :: w46 :: w47 :: w48 :: w49 :: w50 :: w51 :: w52 :: w53 :: w54 :: w55 :: w56 :: w57 :: w58 :: w59 :: w60 :: w61 :: w62 :: w63 :: w64 :: w65 :: w66 :: w67 :: w68 :: w69 :: w70 :: w71 :: w72 :: w73 :: w74 :: w75 :: w76 :: w77 :: w78 :: w79 :: w80 :: w81 :: w82 :: w83 :: w84 :: w85 :: w86 :: w87 :: w88 :: w89 :: w90 :: w91 :: w92 :: w93 :: [])), (a2, .inl (ca2, 1560, .inl (ga2))), (a31, .inl (ca31, 4000, .inl (g))), (a3, .inl (ca3, 130, .inl (ga3))), (a4, .inl (ca4, 130, .inl (ga4))), (a5, .inl (ca5, 130, .inl (ga5))), (a6, .inl (ca6, 130, .inl (ga6))), (a7, .inl (ca7, 130, .inl (ga7))), (a8, .inl (ca8, 130, .inl (ga8)))]) (w1 := []) hP hD [] [0, 1, 2, 3, 4, 5, 6, 7, 8] rfl rfl (by decide) (by decide) hk1 hFc hP1 hD1
    have hK := (hK.sub (tys' := [(ca2, .int), (ca31, .int), (ca3, .int), (ca4, .int), (ca5, .int), (ca6, .int), (ca7, .int), (ca8, .int)]) [0, 1, 2, 3, 4, 5, 6, 7] rfl).app hK1
    generalize H1 = H at hP hS ⊢
    have hP : va_P (dC, dI) vwCl [(h0, .inr (12, w0 :: .int 0 :: .ref a2 :: .ref a3 :: .ref a4 :: .ref a5 :: .ref a6 :: .ref a7 :: .ref a8 :: w9 :: w10 :: w11 :: w12 :: w13 :: w14 :: w15 :: w16 :: w17 :: w18 :: w19 :: w20 :: w21 :: w22 :: w23 :: w24 :: w25 :: w26 :: w27 :: w28 :: w29 :: w30 :: .ref a31 :: w32 :: w33 :: w34 :: w35 :: w36 :: w37 :: w38 :: w39 :: w40 :: w41 :: w42 :: w43 :: w44 :: w45 :: w46 :: w47 :: w48 :: w49 :: w50 :: w51 :: w52 :: w53 :: w54 :: w55 :: w56 :: w57 :: w58 :: w59 :: w60 :: w61 :: w62 :: w63 :: w64 :: w65 :: w66 :: w67 :: w68 :: w69 :: w70 :: w71 :: w72 :: w73 :: w74 :: w75 :: w76 :: w77 :: w78 :: w79 :: w80 :: w81 :: w82 :: w83 :: w84 :: w85 :: w86 :: w87 :: w88 :: w89 :: w90 :: w91 :: w92 :: w93 :: [])), (a2, .inl (ca2, 1560, .inl (ga2))), (a31, .inl (ca31, 4000, .inl (g))), (a3, .inl (ca3, 130, .inl (ga3))), (a4, .inl (ca4, 130, .inl (ga4))), (a5, .inl (ca5, 130, .inl (ga5))), (a6, .inl (ca6, 130, .inl (ga6))), (a7, .inl (ca7, 130, .inl (ga7))), (a8, .inl (ca8, 130, .inl (ga8)))] H := hP
    have hD : va_D A [(h0, .inr (12, w0 :: .int 0 :: .ref a2 :: .ref a3 :: .ref a4 :: .ref a5 :: .ref a6 :: .ref a7 :: .ref a8 :: w9 :: w10 :: w11 :: w12 :: w13 :: w14 :: w15 :: w16 :: w17 :: w18 :: w19 :: w20 :: w21 :: w22 :: w23 :: w24 :: w25 :: w26 :: w27 :: w28 :: w29 :: w30 :: .ref a31 :: w32 :: w33 :: w34 :: w35 :: w36 :: w37 :: w38 :: w39 :: w40 :: w41 :: w42 :: w43 :: w44 :: w45 :: w46 :: w47 :: w48 :: w49 :: w50 :: w51 :: w52 :: w53 :: w54 :: w55 :: w56 :: w57 :: w58 :: w59 :: w60 :: w61 :: w62 :: w63 :: w64 :: w65 :: w66 :: w67 :: w68 :: w69 :: w70 :: w71 :: w72 :: w73 :: w74 :: w75 :: w76 :: w77 :: w78 :: w79 :: w80 :: w81 :: w82 :: w83 :: w84 :: w85 :: w86 :: w87 :: w88 :: w89 :: w90 :: w91 :: w92 :: w93 :: [])), (a2, .inl (ca2, 1560, .inl (ga2))), (a31, .inl (ca31, 4000, .inl (g))), (a3, .inl (ca3, 130, .inl (ga3))), (a4, .inl (ca4, 130, .inl (ga4))), (a5, .inl (ca5, 130, .inl (ga5))), (a6, .inl (ca6, 130, .inl (ga6))), (a7, .inl (ca7, 130, .inl (ga7))), (a8, .inl (ca8, 130, .inl (ga8)))] := hD
    have hK : va_K (dC, dI) vwCl [(ca2, .int), (ca31, .int), (ca3, .int), (ca4, .int), (ca5, .int), (ca6, .int), (ca7, .int), (ca8, .int)] s := hK
    refine W.widen (k := 0) (n := 0) (by omega) (by omega) ?_
    subst hw
    refine lv_icmp_ge (tgt := 27) hx hb dX12_known_7 (by decide) (fun c9 => ?_) (fun c9 => absurd (nI_le (by omega) (by omega)) c9)
    exact hexit g i _ _ ls hP hD hS hl
  | succ d ih =>
    intro i hi g H locs ls hP hD hS hl
    refine lv_iload_n hx hb dX12_known_2 rfl (lv_at hl 3 rfl) ?_
    refine lv_aload_n hx hb dX12_known_3 rfl (lv_at hl 1 rfl) ?_
    have hPc := hP.sub (ws' := []) [] rfl
    have hDc := hD.sub (ws' := []) [] (by decide) rfl
    have hKc := hK.sub (tys' := []) [] rfl
    have hFc := va_free (wc := []) hD hS hA [] rfl
    refine va_calli (va_runV (As := []) (rest := [.int (nI i)]) ⟨hx, hb, hml, hown, hts⟩ (c_length l dC dI H.size b v n f) (cwV 0 hts gX12_known_J0_length_8abf5 rfl rfl rfl (by decide +kernel) ⟨Nat.le_of_ble_eq_true rfl, Nat.le_of_ble_eq_true rfl⟩) ⟨fun a U g mk q => by obtain ⟨q0, q1, qP, qK, qD, qE0⟩ := q; exact ⟨q0, q1, qP, va_K.moved (u := U) (U := U.calling g mk a) (Vm.Alike.refl U.vm) qK, qD, st_S.moved (u := U) (U := U.calling g mk a) (Vm.Alike.refl U.vm) qE0⟩, hst.recv hS, fun U hU hW => ⟨rfl, by rw [hU], by rw [hU]; exact hPc, va_K.moved hW.alike hKc, hDc.weaken (fun _ _ _ _ => trivial), by rw [hU]; exact st_S.moved hW.alike ((hst.kept hS.2.1).narrow hFc)⟩⟩ rfl rfl hl.1 rfl (lv_room (Nat.le_of_ble_eq_true rfl)) dX12_known_4 ⟨(show 0 + 0 ≤ 0 by omega), (show 0 + 0 ≤ 0 by omega)⟩) hS (fun q _ h => hFc q h) hFc (fun r0 u t H1 locs ht hvm hw hB hz1 hk1 hS => ?_)
    obtain ⟨hP1, hK1, hD1⟩ := hB
    rw [ht] at hP1
    have hK1 := va_K.moved hvm.symm hK1
    obtain ⟨hP, hD⟩ := va_join (wr := [(h0, .inr (12, w0 :: .int 0 :: .ref a2 :: .ref a3 :: .ref a4 :: .ref a5 :: .ref a6 :: .ref a7 :: .ref a8 :: w9 :: w10 :: w11 :: w12 :: w13 :: w14 :: w15 :: w16 :: w17 :: w18 :: w19 :: w20 :: w21 :: w22 :: w23 :: w24 :: w25 :: w26 :: w27 :: w28 :: w29 :: w30 :: .ref a31 :: w32 :: w33 :: w34 :: w35 :: w36 :: w37 :: w38 :: w39 :: w40 :: w41 :: w42 :: w43 :: w44 :: w45 :: w46 :: w47 :: w48 :: w49 :: w50 :: w51 :: w52 :: w53 :: w54 :: w55 :: w56 :: w57 :: w58 :: w59 :: w60 :: w61 :: w62 :: w63 :: w64 :: w65 :: w66 :: w67 :: w68 :: w69 :: w70 :: w71 :: w72 :: w73 :: w74 :: w75 :: w76 :: w77 :: w78 :: w79 :: w80 :: w81 :: w82 :: w83 :: w84 :: w85 :: w86 :: w87 :: w88 :: w89 :: w90 :: w91 :: w92 :: w93 :: [])), (a2, .inl (ca2, 1560, .inl (ga2))), (a31, .inl (ca31, 4000, .inl (g))), (a3, .inl (ca3, 130, .inl (ga3))), (a4, .inl (ca4, 130, .inl (ga4))), (a5, .inl (ca5, 130, .inl (ga5))), (a6, .inl (ca6, 130, .inl (ga6))), (a7, .inl (ca7, 130, .inl (ga7))), (a8, .inl (ca8, 130, .inl (ga8)))]) (w1 := []) hP hD [] [0, 1, 2, 3, 4, 5, 6, 7, 8] rfl rfl (by decide) (by decide) hk1 hFc hP1 hD1
    have hK := (hK.sub (tys' := [(ca2, .int), (ca31, .int), (ca3, .int), (ca4, .int), (ca5, .int), (ca6, .int), (ca7, .int), (ca8, .int)]) [0, 1, 2, 3, 4, 5, 6, 7] rfl).app hK1
    generalize H1 = H at hP hS ⊢
    have hP : va_P (dC, dI) vwCl [(h0, .inr (12, w0 :: .int 0 :: .ref a2 :: .ref a3 :: .ref a4 :: .ref a5 :: .ref a6 :: .ref a7 :: .ref a8 :: w9 :: w10 :: w11 :: w12 :: w13 :: w14 :: w15 :: w16 :: w17 :: w18 :: w19 :: w20 :: w21 :: w22 :: w23 :: w24 :: w25 :: w26 :: w27 :: w28 :: w29 :: w30 :: .ref a31 :: w32 :: w33 :: w34 :: w35 :: w36 :: w37 :: w38 :: w39 :: w40 :: w41 :: w42 :: w43 :: w44 :: w45 :: w46 :: w47 :: w48 :: w49 :: w50 :: w51 :: w52 :: w53 :: w54 :: w55 :: w56 :: w57 :: w58 :: w59 :: w60 :: w61 :: w62 :: w63 :: w64 :: w65 :: w66 :: w67 :: w68 :: w69 :: w70 :: w71 :: w72 :: w73 :: w74 :: w75 :: w76 :: w77 :: w78 :: w79 :: w80 :: w81 :: w82 :: w83 :: w84 :: w85 :: w86 :: w87 :: w88 :: w89 :: w90 :: w91 :: w92 :: w93 :: [])), (a2, .inl (ca2, 1560, .inl (ga2))), (a31, .inl (ca31, 4000, .inl (g))), (a3, .inl (ca3, 130, .inl (ga3))), (a4, .inl (ca4, 130, .inl (ga4))), (a5, .inl (ca5, 130, .inl (ga5))), (a6, .inl (ca6, 130, .inl (ga6))), (a7, .inl (ca7, 130, .inl (ga7))), (a8, .inl (ca8, 130, .inl (ga8)))] H := hP
    have hD : va_D A [(h0, .inr (12, w0 :: .int 0 :: .ref a2 :: .ref a3 :: .ref a4 :: .ref a5 :: .ref a6 :: .ref a7 :: .ref a8 :: w9 :: w10 :: w11 :: w12 :: w13 :: w14 :: w15 :: w16 :: w17 :: w18 :: w19 :: w20 :: w21 :: w22 :: w23 :: w24 :: w25 :: w26 :: w27 :: w28 :: w29 :: w30 :: .ref a31 :: w32 :: w33 :: w34 :: w35 :: w36 :: w37 :: w38 :: w39 :: w40 :: w41 :: w42 :: w43 :: w44 :: w45 :: w46 :: w47 :: w48 :: w49 :: w50 :: w51 :: w52 :: w53 :: w54 :: w55 :: w56 :: w57 :: w58 :: w59 :: w60 :: w61 :: w62 :: w63 :: w64 :: w65 :: w66 :: w67 :: w68 :: w69 :: w70 :: w71 :: w72 :: w73 :: w74 :: w75 :: w76 :: w77 :: w78 :: w79 :: w80 :: w81 :: w82 :: w83 :: w84 :: w85 :: w86 :: w87 :: w88 :: w89 :: w90 :: w91 :: w92 :: w93 :: [])), (a2, .inl (ca2, 1560, .inl (ga2))), (a31, .inl (ca31, 4000, .inl (g))), (a3, .inl (ca3, 130, .inl (ga3))), (a4, .inl (ca4, 130, .inl (ga4))), (a5, .inl (ca5, 130, .inl (ga5))), (a6, .inl (ca6, 130, .inl (ga6))), (a7, .inl (ca7, 130, .inl (ga7))), (a8, .inl (ca8, 130, .inl (ga8)))] := hD
    have hK : va_K (dC, dI) vwCl [(ca2, .int), (ca31, .int), (ca3, .int), (ca4, .int), (ca5, .int), (ca6, .int), (ca7, .int), (ca8, .int)] s := hK
    refine W.widen (k := 0) (n := 0) (by omega) (by omega) ?_
    subst hw
    refine lv_icmp_ge (tgt := 27) hx hb dX12_known_7 (by decide) (fun c9 => absurd c9 (nI_ge (by omega) (by omega))) (fun c9 => ?_)
    refine lv_aload_n hx hb dX12_known_10 rfl (lv_at hl 0 rfl) ?_
    refine va_get (D := (dC, dI)) (ci := 12) (v := .ref a31) (C := RX12) (T := TX12) (N := 94) hx hb hts (by decide +kernel) hown hK hP 0 rfl rfl 31 (by decide) (hts (.fieldLink RX12 17 "ProofBenchModel" "tape" "[I") (by decide +kernel)) (fun _ h9 => h9) rfl dX12_known_11 ?_
    refine lv_iload_n hx hb dX12_known_14 rfl (lv_at hl 3 rfl) ?_
    refine lv_aload_n hx hb dX12_known_15 rfl (lv_at hl 1 rfl) ?_
    refine lv_iload_n hx hb dX12_known_16 rfl (lv_at hl 3 rfl) ?_
    have hPc := hP.sub (ws' := []) [] rfl
    have hDc := hD.sub (ws' := []) [] (by decide) rfl
    have hKc := hK.sub (tys' := []) [] rfl
    have hFc := va_free (wc := []) hD hS hA [] rfl
    refine va_calli (va_runV (As := [.int (nI i)]) (rest := [.int (nI i), .ref a31]) ⟨hx, hb, hml, hown, hts⟩ (c_charAt l dC dI H.size b v n f i (by omega) (by omega)) (cwV 1 hts gX12_known_J0_charAt_5068e rfl rfl rfl (by decide +kernel) ⟨Nat.le_of_ble_eq_true rfl, Nat.le_of_ble_eq_true rfl⟩) ⟨fun a U g mk q => by obtain ⟨q0, q1, qP, qK, qD, qE0⟩ := q; exact ⟨q0, q1, qP, va_K.moved (u := U) (U := U.calling g mk a) (Vm.Alike.refl U.vm) qK, qD, st_S.moved (u := U) (U := U.calling g mk a) (Vm.Alike.refl U.vm) qE0⟩, hst.recv hS, fun U hU hW => ⟨rfl, by rw [hU], by rw [hU]; exact hPc, va_K.moved hW.alike hKc, hDc.weaken (fun _ _ _ _ => trivial), by rw [hU]; exact st_S.moved hW.alike ((hst.kept hS.2.1).narrow hFc)⟩⟩ rfl rfl hl.1 rfl (lv_room (Nat.le_of_ble_eq_true rfl)) dX12_known_17 ⟨(show 0 + 0 ≤ 0 by omega), (show 0 + 0 ≤ 0 by omega)⟩) hS (fun q _ h => hFc q h) hFc (fun r1 u t H1 locs ht hvm hw hB hz1 hk1 hS => ?_)
    obtain ⟨hP1, hK1, hD1⟩ := hB
    rw [ht] at hP1
    have hK1 := va_K.moved hvm.symm hK1
    obtain ⟨hP, hD⟩ := va_join (wr := [(h0, .inr (12, w0 :: .int 0 :: .ref a2 :: .ref a3 :: .ref a4 :: .ref a5 :: .ref a6 :: .ref a7 :: .ref a8 :: w9 :: w10 :: w11 :: w12 :: w13 :: w14 :: w15 :: w16 :: w17 :: w18 :: w19 :: w20 :: w21 :: w22 :: w23 :: w24 :: w25 :: w26 :: w27 :: w28 :: w29 :: w30 :: .ref a31 :: w32 :: w33 :: w34 :: w35 :: w36 :: w37 :: w38 :: w39 :: w40 :: w41 :: w42 :: w43 :: w44 :: w45 :: w46 :: w47 :: w48 :: w49 :: w50 :: w51 :: w52 :: w53 :: w54 :: w55 :: w56 :: w57 :: w58 :: w59 :: w60 :: w61 :: w62 :: w63 :: w64 :: w65 :: w66 :: w67 :: w68 :: w69 :: w70 :: w71 :: w72 :: w73 :: w74 :: w75 :: w76 :: w77 :: w78 :: w79 :: w80 :: w81 :: w82 :: w83 :: w84 :: w85 :: w86 :: w87 :: w88 :: w89 :: w90 :: w91 :: w92 :: w93 :: [])), (a2, .inl (ca2, 1560, .inl (ga2))), (a31, .inl (ca31, 4000, .inl (g))), (a3, .inl (ca3, 130, .inl (ga3))), (a4, .inl (ca4, 130, .inl (ga4))), (a5, .inl (ca5, 130, .inl (ga5))), (a6, .inl (ca6, 130, .inl (ga6))), (a7, .inl (ca7, 130, .inl (ga7))), (a8, .inl (ca8, 130, .inl (ga8)))]) (w1 := []) hP hD [] [0, 1, 2, 3, 4, 5, 6, 7, 8] rfl rfl (by decide) (by decide) hk1 hFc hP1 hD1
    have hK := (hK.sub (tys' := [(ca2, .int), (ca31, .int), (ca3, .int), (ca4, .int), (ca5, .int), (ca6, .int), (ca7, .int), (ca8, .int)]) [0, 1, 2, 3, 4, 5, 6, 7] rfl).app hK1
    generalize H1 = H at hP hS ⊢
    have hP : va_P (dC, dI) vwCl [(h0, .inr (12, w0 :: .int 0 :: .ref a2 :: .ref a3 :: .ref a4 :: .ref a5 :: .ref a6 :: .ref a7 :: .ref a8 :: w9 :: w10 :: w11 :: w12 :: w13 :: w14 :: w15 :: w16 :: w17 :: w18 :: w19 :: w20 :: w21 :: w22 :: w23 :: w24 :: w25 :: w26 :: w27 :: w28 :: w29 :: w30 :: .ref a31 :: w32 :: w33 :: w34 :: w35 :: w36 :: w37 :: w38 :: w39 :: w40 :: w41 :: w42 :: w43 :: w44 :: w45 :: w46 :: w47 :: w48 :: w49 :: w50 :: w51 :: w52 :: w53 :: w54 :: w55 :: w56 :: w57 :: w58 :: w59 :: w60 :: w61 :: w62 :: w63 :: w64 :: w65 :: w66 :: w67 :: w68 :: w69 :: w70 :: w71 :: w72 :: w73 :: w74 :: w75 :: w76 :: w77 :: w78 :: w79 :: w80 :: w81 :: w82 :: w83 :: w84 :: w85 :: w86 :: w87 :: w88 :: w89 :: w90 :: w91 :: w92 :: w93 :: [])), (a2, .inl (ca2, 1560, .inl (ga2))), (a31, .inl (ca31, 4000, .inl (g))), (a3, .inl (ca3, 130, .inl (ga3))), (a4, .inl (ca4, 130, .inl (ga4))), (a5, .inl (ca5, 130, .inl (ga5))), (a6, .inl (ca6, 130, .inl (ga6))), (a7, .inl (ca7, 130, .inl (ga7))), (a8, .inl (ca8, 130, .inl (ga8)))] H := hP
    have hD : va_D A [(h0, .inr (12, w0 :: .int 0 :: .ref a2 :: .ref a3 :: .ref a4 :: .ref a5 :: .ref a6 :: .ref a7 :: .ref a8 :: w9 :: w10 :: w11 :: w12 :: w13 :: w14 :: w15 :: w16 :: w17 :: w18 :: w19 :: w20 :: w21 :: w22 :: w23 :: w24 :: w25 :: w26 :: w27 :: w28 :: w29 :: w30 :: .ref a31 :: w32 :: w33 :: w34 :: w35 :: w36 :: w37 :: w38 :: w39 :: w40 :: w41 :: w42 :: w43 :: w44 :: w45 :: w46 :: w47 :: w48 :: w49 :: w50 :: w51 :: w52 :: w53 :: w54 :: w55 :: w56 :: w57 :: w58 :: w59 :: w60 :: w61 :: w62 :: w63 :: w64 :: w65 :: w66 :: w67 :: w68 :: w69 :: w70 :: w71 :: w72 :: w73 :: w74 :: w75 :: w76 :: w77 :: w78 :: w79 :: w80 :: w81 :: w82 :: w83 :: w84 :: w85 :: w86 :: w87 :: w88 :: w89 :: w90 :: w91 :: w92 :: w93 :: [])), (a2, .inl (ca2, 1560, .inl (ga2))), (a31, .inl (ca31, 4000, .inl (g))), (a3, .inl (ca3, 130, .inl (ga3))), (a4, .inl (ca4, 130, .inl (ga4))), (a5, .inl (ca5, 130, .inl (ga5))), (a6, .inl (ca6, 130, .inl (ga6))), (a7, .inl (ca7, 130, .inl (ga7))), (a8, .inl (ca8, 130, .inl (ga8)))] := hD
    have hK : va_K (dC, dI) vwCl [(ca2, .int), (ca31, .int), (ca3, .int), (ca4, .int), (ca5, .int), (ca6, .int), (ca7, .int), (ca8, .int)] s := hK
    refine W.widen (k := 0) (n := 0) (by omega) (by omega) ?_
    refine va_iast hx hb hK hP hD hS 2 1 rfl rfl (vp_in_nI (N := 4000) (by omega) (by decide)) dX12_known_20 (fun H locs hP hD hS => ?_)
    obtain ⟨f_1, hP, hD⟩ : ∃ f9 : Nat → Int32, va_P (dC, dI) vwCl [(h0, .inr (12, w0 :: .int 0 :: .ref a2 :: .ref a3 :: .ref a4 :: .ref a5 :: .ref a6 :: .ref a7 :: .ref a8 :: w9 :: w10 :: w11 :: w12 :: w13 :: w14 :: w15 :: w16 :: w17 :: w18 :: w19 :: w20 :: w21 :: w22 :: w23 :: w24 :: w25 :: w26 :: w27 :: w28 :: w29 :: w30 :: .ref a31 :: w32 :: w33 :: w34 :: w35 :: w36 :: w37 :: w38 :: w39 :: w40 :: w41 :: w42 :: w43 :: w44 :: w45 :: w46 :: w47 :: w48 :: w49 :: w50 :: w51 :: w52 :: w53 :: w54 :: w55 :: w56 :: w57 :: w58 :: w59 :: w60 :: w61 :: w62 :: w63 :: w64 :: w65 :: w66 :: w67 :: w68 :: w69 :: w70 :: w71 :: w72 :: w73 :: w74 :: w75 :: w76 :: w77 :: w78 :: w79 :: w80 :: w81 :: w82 :: w83 :: w84 :: w85 :: w86 :: w87 :: w88 :: w89 :: w90 :: w91 :: w92 :: w93 :: [])), (a2, .inl (ca2, 1560, .inl (ga2))), (a31, .inl (ca31, 4000, .inl (f9))), (a3, .inl (ca3, 130, .inl (ga3))), (a4, .inl (ca4, 130, .inl (ga4))), (a5, .inl (ca5, 130, .inl (ga5))), (a6, .inl (ca6, 130, .inl (ga6))), (a7, .inl (ca7, 130, .inl (ga7))), (a8, .inl (ca8, 130, .inl (ga8)))] H ∧ va_D A [(h0, .inr (12, w0 :: .int 0 :: .ref a2 :: .ref a3 :: .ref a4 :: .ref a5 :: .ref a6 :: .ref a7 :: .ref a8 :: w9 :: w10 :: w11 :: w12 :: w13 :: w14 :: w15 :: w16 :: w17 :: w18 :: w19 :: w20 :: w21 :: w22 :: w23 :: w24 :: w25 :: w26 :: w27 :: w28 :: w29 :: w30 :: .ref a31 :: w32 :: w33 :: w34 :: w35 :: w36 :: w37 :: w38 :: w39 :: w40 :: w41 :: w42 :: w43 :: w44 :: w45 :: w46 :: w47 :: w48 :: w49 :: w50 :: w51 :: w52 :: w53 :: w54 :: w55 :: w56 :: w57 :: w58 :: w59 :: w60 :: w61 :: w62 :: w63 :: w64 :: w65 :: w66 :: w67 :: w68 :: w69 :: w70 :: w71 :: w72 :: w73 :: w74 :: w75 :: w76 :: w77 :: w78 :: w79 :: w80 :: w81 :: w82 :: w83 :: w84 :: w85 :: w86 :: w87 :: w88 :: w89 :: w90 :: w91 :: w92 :: w93 :: [])), (a2, .inl (ca2, 1560, .inl (ga2))), (a31, .inl (ca31, 4000, .inl (f9))), (a3, .inl (ca3, 130, .inl (ga3))), (a4, .inl (ca4, 130, .inl (ga4))), (a5, .inl (ca5, 130, .inl (ga5))), (a6, .inl (ca6, 130, .inl (ga6))), (a7, .inl (ca7, 130, .inl (ga7))), (a8, .inl (ca8, 130, .inl (ga8)))] := ⟨_, hP, hD⟩
    refine lv_iinc (v := nI (i + 1)) (lv' := [(3, .int (nI (i + 1))), (0, .ref h0), (1, .ref b), (2, .ref a4)]) hx hb dX12_known_21 hl (k := 3) rfl (by rw [← nI_1]; rfl) (by decide) rfl (fun ls hl => ?_)
    refine lv_goto (tgt := 2) hx hb dX12_known_24 (by decide) ?_
    exact ih (i + 1) (by omega) _ _ _ ls hP hD hS (lv_sub hl [1, 2, 3, 0] rfl)
set_option maxHeartbeats 1000000 in
set_option maxRecDepth 100000 in
/-- known(word, as): the name 0 -/
theorem c_known_0 (l : Launch) (dC : Nat → ClassId) (dI : Nat → Nat → Nat) (sz : Nat) (h0 a2 a31 a3 a4 a5 a6 a7 a8 b v n : Nat) (f : Nat → Int32) (ca2 ca31 ca3 ca4 ca5 ca6 ca7 ca8 : ClassId) (ga2 ga31 ga3 ga4 ga5 ga6 ga7 ga8 : Nat → Int32) (w0 w9 w10 w11 w12 w13 w14 w15 w16 w17 w18 w19 w20 w21 w22 w23 w24 w25 w26 w27 w28 w29 w30 w32 w33 w34 w35 w36 w37 w38 w39 w40 w41 w42 w43 w44 w45 w46 w47 w48 w49 w50 w51 w52 w53 w54 w55 w56 w57 w58 w59 w60 w61 w62 w63 w64 w65 w66 w67 w68 w69 w70 w71 w72 w73 w74 w75 w76 w77 w78 w79 w80 w81 w82 w83 w84 w85 w86 w87 w88 w89 w90 w91 w92 w93 : Value) (hn : n ≤ 12) : Met l yX12_known wsX12_known ({ frames := 4, cells := 0, slots := 0, locals := 85 }) (va_Pc [.ref h0, .ref b, .ref a4] (fun U => U.heap.size = sz ∧ va_P (dC, dI) vwCl [(h0, .inr (12, w0 :: .int 0 :: .ref a2 :: .ref a3 :: .ref a4 :: .ref a5 :: .ref a6 :: .ref a7 :: .ref a8 :: w9 :: w10 :: w11 :: w12 :: w13 :: w14 :: w15 :: w16 :: w17 :: w18 :: w19 :: w20 :: w21 :: w22 :: w23 :: w24 :: w25 :: w26 :: w27 :: w28 :: w29 :: w30 :: .ref a31 :: w32 :: w33 :: w34 :: w35 :: w36 :: w37 :: w38 :: w39 :: w40 :: w41 :: w42 :: w43 :: w44 :: w45 :: w46 :: w47 :: w48 :: w49 :: w50 :: w51 :: w52 :: w53 :: w54 :: w55 :: w56 :: w57 :: w58 :: w59 :: w60 :: w61 :: w62 :: w63 :: w64 :: w65 :: w66 :: w67 :: w68 :: w69 :: w70 :: w71 :: w72 :: w73 :: w74 :: w75 :: w76 :: w77 :: w78 :: w79 :: w80 :: w81 :: w82 :: w83 :: w84 :: w85 :: w86 :: w87 :: w88 :: w89 :: w90 :: w91 :: w92 :: w93 :: [])), (a2, .inl (ca2, 1560, .inl (ga2))), (a31, .inl (ca31, 4000, .inl (ga31))), (a3, .inl (ca3, 130, .inl (ga3))), (a4, .inl (ca4, 130, .inl (ga4))), (a5, .inl (ca5, 130, .inl (ga5))), (a6, .inl (ca6, 130, .inl (ga6))), (a7, .inl (ca7, 130, .inl (ga7))), (a8, .inl (ca8, 130, .inl (ga8)))] U.heap ∧ va_K (dC, dI) vwCl [(ca2, .int), (ca31, .int), (ca3, .int), (ca4, .int), (ca5, .int), (ca6, .int), (ca7, .int), (ca8, .int)] U ∧ va_D (fun _ => True) [(h0, .inr (12, w0 :: .int 0 :: .ref a2 :: .ref a3 :: .ref a4 :: .ref a5 :: .ref a6 :: .ref a7 :: .ref a8 :: w9 :: w10 :: w11 :: w12 :: w13 :: w14 :: w15 :: w16 :: w17 :: w18 :: w19 :: w20 :: w21 :: w22 :: w23 :: w24 :: w25 :: w26 :: w27 :: w28 :: w29 :: w30 :: .ref a31 :: w32 :: w33 :: w34 :: w35 :: w36 :: w37 :: w38 :: w39 :: w40 :: w41 :: w42 :: w43 :: w44 :: w45 :: w46 :: w47 :: w48 :: w49 :: w50 :: w51 :: w52 :: w53 :: w54 :: w55 :: w56 :: w57 :: w58 :: w59 :: w60 :: w61 :: w62 :: w63 :: w64 :: w65 :: w66 :: w67 :: w68 :: w69 :: w70 :: w71 :: w72 :: w73 :: w74 :: w75 :: w76 :: w77 :: w78 :: w79 :: w80 :: w81 :: w82 :: w83 :: w84 :: w85 :: w86 :: w87 :: w88 :: w89 :: w90 :: w91 :: w92 :: w93 :: [])), (a2, .inl (ca2, 1560, .inl (ga2))), (a31, .inl (ca31, 4000, .inl (ga31))), (a3, .inl (ca3, 130, .inl (ga3))), (a4, .inl (ca4, 130, .inl (ga4))), (a5, .inl (ca5, 130, .inl (ga5))), (a6, .inl (ca6, 130, .inl (ga6))), (a7, .inl (ca7, 130, .inl (ga7))), (a8, .inl (ca8, 130, .inl (ga8)))] ∧ st_S b v n f (va_A [(h0, .inr (12, w0 :: .int 0 :: .ref a2 :: .ref a3 :: .ref a4 :: .ref a5 :: .ref a6 :: .ref a7 :: .ref a8 :: w9 :: w10 :: w11 :: w12 :: w13 :: w14 :: w15 :: w16 :: w17 :: w18 :: w19 :: w20 :: w21 :: w22 :: w23 :: w24 :: w25 :: w26 :: w27 :: w28 :: w29 :: w30 :: .ref a31 :: w32 :: w33 :: w34 :: w35 :: w36 :: w37 :: w38 :: w39 :: w40 :: w41 :: w42 :: w43 :: w44 :: w45 :: w46 :: w47 :: w48 :: w49 :: w50 :: w51 :: w52 :: w53 :: w54 :: w55 :: w56 :: w57 :: w58 :: w59 :: w60 :: w61 :: w62 :: w63 :: w64 :: w65 :: w66 :: w67 :: w68 :: w69 :: w70 :: w71 :: w72 :: w73 :: w74 :: w75 :: w76 :: w77 :: w78 :: w79 :: w80 :: w81 :: w82 :: w83 :: w84 :: w85 :: w86 :: w87 :: w88 :: w89 :: w90 :: w91 :: w92 :: w93 :: [])), (a2, .inl (ca2, 1560, .inl (ga2))), (a31, .inl (ca31, 4000, .inl (ga31))), (a3, .inl (ca3, 130, .inl (ga3))), (a4, .inl (ca4, 130, .inl (ga4))), (a5, .inl (ca5, 130, .inl (ga5))), (a6, .inl (ca6, 130, .inl (ga6))), (a7, .inl (ca7, 130, .inl (ga7))), (a8, .inl (ca8, 130, .inl (ga8)))] sz) U U.heap)) (va_Qv (fun _ : Unit => True) (fun _ t => ∃ (f_1 g2 f_2 f_8 f_4 f_5 f_6 f_7 : Nat → Int32), va_P (dC, dI) vwCl [(h0, .inr (12, w0 :: .int 1 :: .ref a2 :: .ref a3 :: .ref a4 :: .ref a5 :: .ref a6 :: .ref a7 :: .ref a8 :: w9 :: w10 :: w11 :: w12 :: w13 :: w14 :: w15 :: w16 :: w17 :: w18 :: w19 :: w20 :: w21 :: w22 :: w23 :: w24 :: w25 :: w26 :: w27 :: w28 :: w29 :: w30 :: .ref a31 :: w32 :: w33 :: w34 :: w35 :: w36 :: w37 :: w38 :: w39 :: w40 :: w41 :: w42 :: w43 :: w44 :: w45 :: w46 :: w47 :: w48 :: w49 :: w50 :: w51 :: w52 :: w53 :: w54 :: w55 :: w56 :: w57 :: w58 :: w59 :: w60 :: w61 :: w62 :: w63 :: w64 :: w65 :: w66 :: w67 :: w68 :: w69 :: w70 :: w71 :: w72 :: w73 :: w74 :: w75 :: w76 :: w77 :: w78 :: w79 :: w80 :: w81 :: w82 :: w83 :: w84 :: w85 :: w86 :: w87 :: w88 :: w89 :: w90 :: w91 :: w92 :: w93 :: [])), (a2, .inl (ca2, 1560, .inl (f_1))), (a31, .inl (ca31, 4000, .inl (g2))), (a3, .inl (ca3, 130, .inl (f_2))), (a4, .inl (ca4, 130, .inl (f_8))), (a5, .inl (ca5, 130, .inl (f_4))), (a6, .inl (ca6, 130, .inl (f_5))), (a7, .inl (ca7, 130, .inl (f_6))), (a8, .inl (ca8, 130, .inl (f_7)))] t.heap ∧ va_K (dC, dI) vwCl [(ca2, .int), (ca31, .int), (ca3, .int), (ca4, .int), (ca5, .int), (ca6, .int), (ca7, .int), (ca8, .int)] t ∧ va_D (va_A [(h0, .inr (12, w0 :: .int 0 :: .ref a2 :: .ref a3 :: .ref a4 :: .ref a5 :: .ref a6 :: .ref a7 :: .ref a8 :: w9 :: w10 :: w11 :: w12 :: w13 :: w14 :: w15 :: w16 :: w17 :: w18 :: w19 :: w20 :: w21 :: w22 :: w23 :: w24 :: w25 :: w26 :: w27 :: w28 :: w29 :: w30 :: .ref a31 :: w32 :: w33 :: w34 :: w35 :: w36 :: w37 :: w38 :: w39 :: w40 :: w41 :: w42 :: w43 :: w44 :: w45 :: w46 :: w47 :: w48 :: w49 :: w50 :: w51 :: w52 :: w53 :: w54 :: w55 :: w56 :: w57 :: w58 :: w59 :: w60 :: w61 :: w62 :: w63 :: w64 :: w65 :: w66 :: w67 :: w68 :: w69 :: w70 :: w71 :: w72 :: w73 :: w74 :: w75 :: w76 :: w77 :: w78 :: w79 :: w80 :: w81 :: w82 :: w83 :: w84 :: w85 :: w86 :: w87 :: w88 :: w89 :: w90 :: w91 :: w92 :: w93 :: [])), (a2, .inl (ca2, 1560, .inl (ga2))), (a31, .inl (ca31, 4000, .inl (ga31))), (a3, .inl (ca3, 130, .inl (ga3))), (a4, .inl (ca4, 130, .inl (ga4))), (a5, .inl (ca5, 130, .inl (ga5))), (a6, .inl (ca6, 130, .inl (ga6))), (a7, .inl (ca7, 130, .inl (ga7))), (a8, .inl (ca8, 130, .inl (ga8)))] sz) [(h0, .inr (12, w0 :: .int 1 :: .ref a2 :: .ref a3 :: .ref a4 :: .ref a5 :: .ref a6 :: .ref a7 :: .ref a8 :: w9 :: w10 :: w11 :: w12 :: w13 :: w14 :: w15 :: w16 :: w17 :: w18 :: w19 :: w20 :: w21 :: w22 :: w23 :: w24 :: w25 :: w26 :: w27 :: w28 :: w29 :: w30 :: .ref a31 :: w32 :: w33 :: w34 :: w35 :: w36 :: w37 :: w38 :: w39 :: w40 :: w41 :: w42 :: w43 :: w44 :: w45 :: w46 :: w47 :: w48 :: w49 :: w50 :: w51 :: w52 :: w53 :: w54 :: w55 :: w56 :: w57 :: w58 :: w59 :: w60 :: w61 :: w62 :: w63 :: w64 :: w65 :: w66 :: w67 :: w68 :: w69 :: w70 :: w71 :: w72 :: w73 :: w74 :: w75 :: w76 :: w77 :: w78 :: w79 :: w80 :: w81 :: w82 :: w83 :: w84 :: w85 :: w86 :: w87 :: w88 :: w89 :: w90 :: w91 :: w92 :: w93 :: [])), (a2, .inl (ca2, 1560, .inl (f_1))), (a31, .inl (ca31, 4000, .inl (g2))), (a3, .inl (ca3, 130, .inl (f_2))), (a4, .inl (ca4, 130, .inl (f_8))), (a5, .inl (ca5, 130, .inl (f_4))), (a6, .inl (ca6, 130, .inl (f_5))), (a7, .inl (ca7, 130, .inl (f_6))), (a8, .inl (ca8, 130, .inl (f_7)))]) (va_A [(h0, .inr (12, w0 :: .int 0 :: .ref a2 :: .ref a3 :: .ref a4 :: .ref a5 :: .ref a6 :: .ref a7 :: .ref a8 :: w9 :: w10 :: w11 :: w12 :: w13 :: w14 :: w15 :: w16 :: w17 :: w18 :: w19 :: w20 :: w21 :: w22 :: w23 :: w24 :: w25 :: w26 :: w27 :: w28 :: w29 :: w30 :: .ref a31 :: w32 :: w33 :: w34 :: w35 :: w36 :: w37 :: w38 :: w39 :: w40 :: w41 :: w42 :: w43 :: w44 :: w45 :: w46 :: w47 :: w48 :: w49 :: w50 :: w51 :: w52 :: w53 :: w54 :: w55 :: w56 :: w57 :: w58 :: w59 :: w60 :: w61 :: w62 :: w63 :: w64 :: w65 :: w66 :: w67 :: w68 :: w69 :: w70 :: w71 :: w72 :: w73 :: w74 :: w75 :: w76 :: w77 :: w78 :: w79 :: w80 :: w81 :: w82 :: w83 :: w84 :: w85 :: w86 :: w87 :: w88 :: w89 :: w90 :: w91 :: w92 :: w93 :: [])), (a2, .inl (ca2, 1560, .inl (ga2))), (a31, .inl (ca31, 4000, .inl (ga31))), (a3, .inl (ca3, 130, .inl (ga3))), (a4, .inl (ca4, 130, .inl (ga4))), (a5, .inl (ca5, 130, .inl (ga5))), (a6, .inl (ca6, 130, .inl (ga6))), (a7, .inl (ca7, 130, .inl (ga7))), (a8, .inl (ca8, 130, .inl (ga8)))] sz)) (0) (0) (va_A [(h0, .inr (12, w0 :: .int 0 :: .ref a2 :: .ref a3 :: .ref a4 :: .ref a5 :: .ref a6 :: .ref a7 :: .ref a8 :: w9 :: w10 :: w11 :: w12 :: w13 :: w14 :: w15 :: w16 :: w17 :: w18 :: w19 :: w20 :: w21 :: w22 :: w23 :: w24 :: w25 :: w26 :: w27 :: w28 :: w29 :: w30 :: .ref a31 :: w32 :: w33 :: w34 :: w35 :: w36 :: w37 :: w38 :: w39 :: w40 :: w41 :: w42 :: w43 :: w44 :: w45 :: w46 :: w47 :: w48 :: w49 :: w50 :: w51 :: w52 :: w53 :: w54 :: w55 :: w56 :: w57 :: w58 :: w59 :: w60 :: w61 :: w62 :: w63 :: w64 :: w65 :: w66 :: w67 :: w68 :: w69 :: w70 :: w71 :: w72 :: w73 :: w74 :: w75 :: w76 :: w77 :: w78 :: w79 :: w80 :: w81 :: w82 :: w83 :: w84 :: w85 :: w86 :: w87 :: w88 :: w89 :: w90 :: w91 :: w92 :: w93 :: [])), (a2, .inl (ca2, 1560, .inl (ga2))), (a31, .inl (ca31, 4000, .inl (ga31))), (a3, .inl (ca3, 130, .inl (ga3))), (a4, .inl (ca4, 130, .inl (ga4))), (a5, .inl (ca5, 130, .inl (ga5))), (a6, .inl (ca6, 130, .inl (ga6))), (a7, .inl (ca7, 130, .inl (ga7))), (a8, .inl (ca8, 130, .inl (ga8)))] sz) := by
  refine Met.ofW (cc := cX12_known) (maxL := 4) (ret := none) (by decide) rfl ?_
  intro p e s m args below meth c s₁ B hml hv
  obtain ⟨rfl, hsz, hP, hK, hD0, hst⟩ := hv
  have hx := B.exec
  have hb := B.bytes
  have hr := B.returns
  have hts := atoms_spec (ws := wsX12_known) B.pre
  have hown : s.vm.findClass RX12 = some m.cls := findClass_of_methodNamed B.named
  have hlocks := B.notSynchronized
  subst hsz
  have hD := hD0.self (sz := s.heap.size)
  generalize hAe : va_A [(h0, .inr (12, w0 :: .int 0 :: .ref a2 :: .ref a3 :: .ref a4 :: .ref a5 :: .ref a6 :: .ref a7 :: .ref a8 :: w9 :: w10 :: w11 :: w12 :: w13 :: w14 :: w15 :: w16 :: w17 :: w18 :: w19 :: w20 :: w21 :: w22 :: w23 :: w24 :: w25 :: w26 :: w27 :: w28 :: w29 :: w30 :: .ref a31 :: w32 :: w33 :: w34 :: w35 :: w36 :: w37 :: w38 :: w39 :: w40 :: w41 :: w42 :: w43 :: w44 :: w45 :: w46 :: w47 :: w48 :: w49 :: w50 :: w51 :: w52 :: w53 :: w54 :: w55 :: w56 :: w57 :: w58 :: w59 :: w60 :: w61 :: w62 :: w63 :: w64 :: w65 :: w66 :: w67 :: w68 :: w69 :: w70 :: w71 :: w72 :: w73 :: w74 :: w75 :: w76 :: w77 :: w78 :: w79 :: w80 :: w81 :: w82 :: w83 :: w84 :: w85 :: w86 :: w87 :: w88 :: w89 :: w90 :: w91 :: w92 :: w93 :: [])), (a2, .inl (ca2, 1560, .inl (ga2))), (a31, .inl (ca31, 4000, .inl (ga31))), (a3, .inl (ca3, 130, .inl (ga3))), (a4, .inl (ca4, 130, .inl (ga4))), (a5, .inl (ca5, 130, .inl (ga5))), (a6, .inl (ca6, 130, .inl (ga6))), (a7, .inl (ca7, 130, .inl (ga7))), (a8, .inl (ca8, 130, .inl (ga8)))] s.heap.size = A at hD hst ⊢
  have hA : ∀ q : Nat, s.heap.size ≤ q → A q := fun q h => by rw [← hAe]; exact Or.inr h
  have hS : va_S A s.heap s.heap [] := va_S.rf
  have hl := lv_entry ([.ref h0, .ref b, .ref a4]) (n := 4) (Nat.le_of_ble_eq_true rfl)
  rw [lg_entry_eq]
  generalize (lg_sl ([.ref h0, .ref b, .ref a4]) ++ List.replicate (4 - (lg_sl ([.ref h0, .ref b, .ref a4])).length) Slot.unset).toArray = ls at hl ⊢
  have hl : lv_has ls 4 [(0, .ref h0), (1, .ref b), (2, .ref a4)] := hl
  refine lv_iconst (v := 0) hx hb dX12_known_0 (by decide) ?_
  refine lv_istore_n (lv' := [(3, .int 0), (0, .ref h0), (1, .ref b), (2, .ref a4)]) hx hb dX12_known_1 rfl hl (by decide) rfl (fun ls hl => ?_)
  refine lp_known_0 hn hx hb hml hown hts hA hst hK (fun g2 i H locs ls hP hD hS hl => ?_) n 0 (by omega) _ _ _ ls hP hD hS (lv_sub hl [1, 2, 3, 0] rfl)
  refine lv_aload_n hx hb dX12_known_27 rfl (lv_at hl 0 rfl) ?_
  refine lv_iconst (v := 0) hx hb dX12_known_28 (by decide) ?_
  refine lv_aload_n hx hb dX12_known_29 rfl (lv_at hl 1 rfl) ?_
  have hPc := hP.sub (ws' := []) [] rfl
  have hDc := hD.sub (ws' := []) [] (by decide) rfl
  have hKc := hK.sub (tys' := []) [] rfl
  have hFc := va_free (wc := []) hD hS hA [] rfl
  refine va_calli (va_runV (As := []) (rest := [.int 0, .ref h0]) ⟨hx, hb, hml, hown, hts⟩ (c_length l dC dI H.size b v n f) (cwV 0 hts gX12_known_J0_length_8abf5 rfl rfl rfl (by decide +kernel) ⟨Nat.le_of_ble_eq_true rfl, Nat.le_of_ble_eq_true rfl⟩) ⟨fun a U g mk q => by obtain ⟨q0, q1, qP, qK, qD, qE0⟩ := q; exact ⟨q0, q1, qP, va_K.moved (u := U) (U := U.calling g mk a) (Vm.Alike.refl U.vm) qK, qD, st_S.moved (u := U) (U := U.calling g mk a) (Vm.Alike.refl U.vm) qE0⟩, hst.recv hS, fun U hU hW => ⟨rfl, by rw [hU], by rw [hU]; exact hPc, va_K.moved hW.alike hKc, hDc.weaken (fun _ _ _ _ => trivial), by rw [hU]; exact st_S.moved hW.alike ((hst.kept hS.2.1).narrow hFc)⟩⟩ rfl rfl hl.1 rfl (lv_room (Nat.le_of_ble_eq_true rfl)) dX12_known_30 ⟨(show 0 + 0 ≤ 0 by omega), (show 0 + 0 ≤ 0 by omega)⟩) hS (fun q _ h => hFc q h) hFc (fun r0 u t H1 locs ht hvm hw hB hz1 hk1 hS => ?_)
  obtain ⟨hP1, hK1, hD1⟩ := hB
  rw [ht] at hP1
  have hK1 := va_K.moved hvm.symm hK1
  obtain ⟨hP, hD⟩ := va_join (wr := [(h0, .inr (12, w0 :: .int 0 :: .ref a2 :: .ref a3 :: .ref a4 :: .ref a5 :: .ref a6 :: .ref a7 :: .ref a8 :: w9 :: w10 :: w11 :: w12 :: w13 :: w14 :: w15 :: w16 :: w17 :: w18 :: w19 :: w20 :: w21 :: w22 :: w23 :: w24 :: w25 :: w26 :: w27 :: w28 :: w29 :: w30 :: .ref a31 :: w32 :: w33 :: w34 :: w35 :: w36 :: w37 :: w38 :: w39 :: w40 :: w41 :: w42 :: w43 :: w44 :: w45 :: w46 :: w47 :: w48 :: w49 :: w50 :: w51 :: w52 :: w53 :: w54 :: w55 :: w56 :: w57 :: w58 :: w59 :: w60 :: w61 :: w62 :: w63 :: w64 :: w65 :: w66 :: w67 :: w68 :: w69 :: w70 :: w71 :: w72 :: w73 :: w74 :: w75 :: w76 :: w77 :: w78 :: w79 :: w80 :: w81 :: w82 :: w83 :: w84 :: w85 :: w86 :: w87 :: w88 :: w89 :: w90 :: w91 :: w92 :: w93 :: [])), (a2, .inl (ca2, 1560, .inl (ga2))), (a31, .inl (ca31, 4000, .inl (g2))), (a3, .inl (ca3, 130, .inl (ga3))), (a4, .inl (ca4, 130, .inl (ga4))), (a5, .inl (ca5, 130, .inl (ga5))), (a6, .inl (ca6, 130, .inl (ga6))), (a7, .inl (ca7, 130, .inl (ga7))), (a8, .inl (ca8, 130, .inl (ga8)))]) (w1 := []) hP hD [] [0, 1, 2, 3, 4, 5, 6, 7, 8] rfl rfl (by decide) (by decide) hk1 hFc hP1 hD1
  have hK := (hK.sub (tys' := [(ca2, .int), (ca31, .int), (ca3, .int), (ca4, .int), (ca5, .int), (ca6, .int), (ca7, .int), (ca8, .int)]) [0, 1, 2, 3, 4, 5, 6, 7] rfl).app hK1
  generalize H1 = H at hP hS ⊢
  have hP : va_P (dC, dI) vwCl [(h0, .inr (12, w0 :: .int 0 :: .ref a2 :: .ref a3 :: .ref a4 :: .ref a5 :: .ref a6 :: .ref a7 :: .ref a8 :: w9 :: w10 :: w11 :: w12 :: w13 :: w14 :: w15 :: w16 :: w17 :: w18 :: w19 :: w20 :: w21 :: w22 :: w23 :: w24 :: w25 :: w26 :: w27 :: w28 :: w29 :: w30 :: .ref a31 :: w32 :: w33 :: w34 :: w35 :: w36 :: w37 :: w38 :: w39 :: w40 :: w41 :: w42 :: w43 :: w44 :: w45 :: w46 :: w47 :: w48 :: w49 :: w50 :: w51 :: w52 :: w53 :: w54 :: w55 :: w56 :: w57 :: w58 :: w59 :: w60 :: w61 :: w62 :: w63 :: w64 :: w65 :: w66 :: w67 :: w68 :: w69 :: w70 :: w71 :: w72 :: w73 :: w74 :: w75 :: w76 :: w77 :: w78 :: w79 :: w80 :: w81 :: w82 :: w83 :: w84 :: w85 :: w86 :: w87 :: w88 :: w89 :: w90 :: w91 :: w92 :: w93 :: [])), (a2, .inl (ca2, 1560, .inl (ga2))), (a31, .inl (ca31, 4000, .inl (g2))), (a3, .inl (ca3, 130, .inl (ga3))), (a4, .inl (ca4, 130, .inl (ga4))), (a5, .inl (ca5, 130, .inl (ga5))), (a6, .inl (ca6, 130, .inl (ga6))), (a7, .inl (ca7, 130, .inl (ga7))), (a8, .inl (ca8, 130, .inl (ga8)))] H := hP
  have hD : va_D A [(h0, .inr (12, w0 :: .int 0 :: .ref a2 :: .ref a3 :: .ref a4 :: .ref a5 :: .ref a6 :: .ref a7 :: .ref a8 :: w9 :: w10 :: w11 :: w12 :: w13 :: w14 :: w15 :: w16 :: w17 :: w18 :: w19 :: w20 :: w21 :: w22 :: w23 :: w24 :: w25 :: w26 :: w27 :: w28 :: w29 :: w30 :: .ref a31 :: w32 :: w33 :: w34 :: w35 :: w36 :: w37 :: w38 :: w39 :: w40 :: w41 :: w42 :: w43 :: w44 :: w45 :: w46 :: w47 :: w48 :: w49 :: w50 :: w51 :: w52 :: w53 :: w54 :: w55 :: w56 :: w57 :: w58 :: w59 :: w60 :: w61 :: w62 :: w63 :: w64 :: w65 :: w66 :: w67 :: w68 :: w69 :: w70 :: w71 :: w72 :: w73 :: w74 :: w75 :: w76 :: w77 :: w78 :: w79 :: w80 :: w81 :: w82 :: w83 :: w84 :: w85 :: w86 :: w87 :: w88 :: w89 :: w90 :: w91 :: w92 :: w93 :: [])), (a2, .inl (ca2, 1560, .inl (ga2))), (a31, .inl (ca31, 4000, .inl (g2))), (a3, .inl (ca3, 130, .inl (ga3))), (a4, .inl (ca4, 130, .inl (ga4))), (a5, .inl (ca5, 130, .inl (ga5))), (a6, .inl (ca6, 130, .inl (ga6))), (a7, .inl (ca7, 130, .inl (ga7))), (a8, .inl (ca8, 130, .inl (ga8)))] := hD
  have hK : va_K (dC, dI) vwCl [(ca2, .int), (ca31, .int), (ca3, .int), (ca4, .int), (ca5, .int), (ca6, .int), (ca7, .int), (ca8, .int)] s := hK
  refine W.widen (k := 0) (n := 0) (by omega) (by omega) ?_
  subst hw
  have hPc := hP.sub (ws' := [(h0, .inr (12, w0 :: .int 0 :: .ref a2 :: .ref a3 :: .ref a4 :: .ref a5 :: .ref a6 :: .ref a7 :: .ref a8 :: w9 :: w10 :: w11 :: w12 :: w13 :: w14 :: w15 :: w16 :: w17 :: w18 :: w19 :: w20 :: w21 :: w22 :: w23 :: w24 :: w25 :: w26 :: w27 :: w28 :: w29 :: w30 :: .ref a31 :: w32 :: w33 :: w34 :: w35 :: w36 :: w37 :: w38 :: w39 :: w40 :: w41 :: w42 :: w43 :: w44 :: w45 :: w46 :: w47 :: w48 :: w49 :: w50 :: w51 :: w52 :: w53 :: w54 :: w55 :: w56 :: w57 :: w58 :: w59 :: w60 :: w61 :: w62 :: w63 :: w64 :: w65 :: w66 :: w67 :: w68 :: w69 :: w70 :: w71 :: w72 :: w73 :: w74 :: w75 :: w76 :: w77 :: w78 :: w79 :: w80 :: w81 :: w82 :: w83 :: w84 :: w85 :: w86 :: w87 :: w88 :: w89 :: w90 :: w91 :: w92 :: w93 :: [])), (a2, .inl (ca2, 1560, .inl (ga2))), (a31, .inl (ca31, 4000, .inl (g2))), (a3, .inl (ca3, 130, .inl (ga3))), (a4, .inl (ca4, 130, .inl (ga4))), (a5, .inl (ca5, 130, .inl (ga5))), (a6, .inl (ca6, 130, .inl (ga6))), (a7, .inl (ca7, 130, .inl (ga7))), (a8, .inl (ca8, 130, .inl (ga8)))]) [0, 1, 2, 3, 4, 5, 6, 7, 8] rfl
  have hDc := hD.sub (ws' := [(h0, .inr (12, w0 :: .int 0 :: .ref a2 :: .ref a3 :: .ref a4 :: .ref a5 :: .ref a6 :: .ref a7 :: .ref a8 :: w9 :: w10 :: w11 :: w12 :: w13 :: w14 :: w15 :: w16 :: w17 :: w18 :: w19 :: w20 :: w21 :: w22 :: w23 :: w24 :: w25 :: w26 :: w27 :: w28 :: w29 :: w30 :: .ref a31 :: w32 :: w33 :: w34 :: w35 :: w36 :: w37 :: w38 :: w39 :: w40 :: w41 :: w42 :: w43 :: w44 :: w45 :: w46 :: w47 :: w48 :: w49 :: w50 :: w51 :: w52 :: w53 :: w54 :: w55 :: w56 :: w57 :: w58 :: w59 :: w60 :: w61 :: w62 :: w63 :: w64 :: w65 :: w66 :: w67 :: w68 :: w69 :: w70 :: w71 :: w72 :: w73 :: w74 :: w75 :: w76 :: w77 :: w78 :: w79 :: w80 :: w81 :: w82 :: w83 :: w84 :: w85 :: w86 :: w87 :: w88 :: w89 :: w90 :: w91 :: w92 :: w93 :: [])), (a2, .inl (ca2, 1560, .inl (ga2))), (a31, .inl (ca31, 4000, .inl (g2))), (a3, .inl (ca3, 130, .inl (ga3))), (a4, .inl (ca4, 130, .inl (ga4))), (a5, .inl (ca5, 130, .inl (ga5))), (a6, .inl (ca6, 130, .inl (ga6))), (a7, .inl (ca7, 130, .inl (ga7))), (a8, .inl (ca8, 130, .inl (ga8)))]) [0, 1, 2, 3, 4, 5, 6, 7, 8] (by decide) rfl
  have hKc := hK.sub (tys' := [(ca2, .int), (ca31, .int), (ca3, .int), (ca4, .int), (ca5, .int), (ca6, .int), (ca7, .int), (ca8, .int)]) [0, 1, 2, 3, 4, 5, 6, 7] rfl
  have hFc := va_free (wc := [(h0, .inr (12, w0 :: .int 0 :: .ref a2 :: .ref a3 :: .ref a4 :: .ref a5 :: .ref a6 :: .ref a7 :: .ref a8 :: w9 :: w10 :: w11 :: w12 :: w13 :: w14 :: w15 :: w16 :: w17 :: w18 :: w19 :: w20 :: w21 :: w22 :: w23 :: w24 :: w25 :: w26 :: w27 :: w28 :: w29 :: w30 :: .ref a31 :: w32 :: w33 :: w34 :: w35 :: w36 :: w37 :: w38 :: w39 :: w40 :: w41 :: w42 :: w43 :: w44 :: w45 :: w46 :: w47 :: w48 :: w49 :: w50 :: w51 :: w52 :: w53 :: w54 :: w55 :: w56 :: w57 :: w58 :: w59 :: w60 :: w61 :: w62 :: w63 :: w64 :: w65 :: w66 :: w67 :: w68 :: w69 :: w70 :: w71 :: w72 :: w73 :: w74 :: w75 :: w76 :: w77 :: w78 :: w79 :: w80 :: w81 :: w82 :: w83 :: w84 :: w85 :: w86 :: w87 :: w88 :: w89 :: w90 :: w91 :: w92 :: w93 :: [])), (a2, .inl (ca2, 1560, .inl (ga2))), (a31, .inl (ca31, 4000, .inl (g2))), (a3, .inl (ca3, 130, .inl (ga3))), (a4, .inl (ca4, 130, .inl (ga4))), (a5, .inl (ca5, 130, .inl (ga5))), (a6, .inl (ca6, 130, .inl (ga6))), (a7, .inl (ca7, 130, .inl (ga7))), (a8, .inl (ca8, 130, .inl (ga8)))]) hD hS hA [0, 1, 2, 3, 4, 5, 6, 7, 8] rfl
  refine va_calli (va_runV (As := [.int 0, .int (nI n)]) (rest := []) ⟨hx, hb, hml, hown, hts⟩ (c_newName_0 l dC dI H.size h0 a2 a31 a3 a4 a5 a6 a7 a8 n ca2 ca31 ca3 ca4 ca5 ca6 ca7 ca8 ga2 g2 ga3 ga4 ga5 ga6 ga7 ga8 w0 w9 w10 w11 w12 w13 w14 w15 w16 w17 w18 w19 w20 w21 w22 w23 w24 w25 w26 w27 w28 w29 w30 w32 w33 w34 w35 w36 w37 w38 w39 w40 w41 w42 w43 w44 w45 w46 w47 w48 w49 w50 w51 w52 w53 w54 w55 w56 w57 w58 w59 w60 w61 w62 w63 w64 w65 w66 w67 w68 w69 w70 w71 w72 w73 w74 w75 w76 w77 w78 w79 w80 w81 w82 w83 w84 w85 w86 w87 w88 w89 w90 w91 w92 w93 hn) (cwV 2 hts gX12_known_X12_newName rfl rfl rfl (by decide +kernel) ⟨Nat.le_of_ble_eq_true rfl, Nat.le_of_ble_eq_true rfl⟩) ⟨fun a U g mk q => by obtain ⟨q0, q1, qP, qK, qD⟩ := q; exact ⟨q0, q1, qP, va_K.moved (u := U) (U := U.calling g mk a) (Vm.Alike.refl U.vm) qK, qD⟩, va_recv hKc hPc (ci := 12) (q0 := 0) rfl rfl, fun U hU hW => ⟨rfl, by rw [hU], by rw [hU]; exact hPc, va_K.moved hW.alike hKc, hDc.weaken (fun _ _ _ _ => trivial)⟩⟩ rfl rfl hl.1 rfl (lv_room (Nat.le_of_ble_eq_true rfl)) dX12_known_33 ⟨(show 0 + 0 ≤ 0 by omega), (show 0 + 0 ≤ 0 by omega)⟩) hS (fun q _ h => hFc q h) hFc (fun r2 u t H1 locs ht hvm hw hB hz1 hk1 hS => ?_)
  obtain ⟨f_1, f_2, f_3, f_4, f_5, f_6, f_7, hP1, hK1, hD1⟩ := hB
  rw [ht] at hP1
  have hK1 := va_K.moved hvm.symm hK1
  obtain ⟨hP, hD⟩ := va_join (wr := []) (w1 := [(h0, .inr (12, w0 :: .int 1 :: .ref a2 :: .ref a3 :: .ref a4 :: .ref a5 :: .ref a6 :: .ref a7 :: .ref a8 :: w9 :: w10 :: w11 :: w12 :: w13 :: w14 :: w15 :: w16 :: w17 :: w18 :: w19 :: w20 :: w21 :: w22 :: w23 :: w24 :: w25 :: w26 :: w27 :: w28 :: w29 :: w30 :: .ref a31 :: w32 :: w33 :: w34 :: w35 :: w36 :: w37 :: w38 :: w39 :: w40 :: w41 :: w42 :: w43 :: w44 :: w45 :: w46 :: w47 :: w48 :: w49 :: w50 :: w51 :: w52 :: w53 :: w54 :: w55 :: w56 :: w57 :: w58 :: w59 :: w60 :: w61 :: w62 :: w63 :: w64 :: w65 :: w66 :: w67 :: w68 :: w69 :: w70 :: w71 :: w72 :: w73 :: w74 :: w75 :: w76 :: w77 :: w78 :: w79 :: w80 :: w81 :: w82 :: w83 :: w84 :: w85 :: w86 :: w87 :: w88 :: w89 :: w90 :: w91 :: w92 :: w93 :: [])), (a2, .inl (ca2, 1560, .inl (f_1))), (a31, .inl (ca31, 4000, .inl (g2))), (a3, .inl (ca3, 130, .inl (f_2))), (a4, .inl (ca4, 130, .inl (f_3))), (a5, .inl (ca5, 130, .inl (f_4))), (a6, .inl (ca6, 130, .inl (f_5))), (a7, .inl (ca7, 130, .inl (f_6))), (a8, .inl (ca8, 130, .inl (f_7)))]) hP hD [0, 1, 2, 3, 4, 5, 6, 7, 8] [] rfl rfl (by decide) (by decide) hk1 hFc hP1 hD1
  have hK := (hK.sub (tys' := [(ca2, .int), (ca31, .int), (ca3, .int), (ca4, .int), (ca5, .int), (ca6, .int), (ca7, .int), (ca8, .int)]) [0, 1, 2, 3, 4, 5, 6, 7] rfl).app hK1
  generalize H1 = H at hP hS ⊢
  have hP : va_P (dC, dI) vwCl [(h0, .inr (12, w0 :: .int 1 :: .ref a2 :: .ref a3 :: .ref a4 :: .ref a5 :: .ref a6 :: .ref a7 :: .ref a8 :: w9 :: w10 :: w11 :: w12 :: w13 :: w14 :: w15 :: w16 :: w17 :: w18 :: w19 :: w20 :: w21 :: w22 :: w23 :: w24 :: w25 :: w26 :: w27 :: w28 :: w29 :: w30 :: .ref a31 :: w32 :: w33 :: w34 :: w35 :: w36 :: w37 :: w38 :: w39 :: w40 :: w41 :: w42 :: w43 :: w44 :: w45 :: w46 :: w47 :: w48 :: w49 :: w50 :: w51 :: w52 :: w53 :: w54 :: w55 :: w56 :: w57 :: w58 :: w59 :: w60 :: w61 :: w62 :: w63 :: w64 :: w65 :: w66 :: w67 :: w68 :: w69 :: w70 :: w71 :: w72 :: w73 :: w74 :: w75 :: w76 :: w77 :: w78 :: w79 :: w80 :: w81 :: w82 :: w83 :: w84 :: w85 :: w86 :: w87 :: w88 :: w89 :: w90 :: w91 :: w92 :: w93 :: [])), (a2, .inl (ca2, 1560, .inl (f_1))), (a31, .inl (ca31, 4000, .inl (g2))), (a3, .inl (ca3, 130, .inl (f_2))), (a4, .inl (ca4, 130, .inl (f_3))), (a5, .inl (ca5, 130, .inl (f_4))), (a6, .inl (ca6, 130, .inl (f_5))), (a7, .inl (ca7, 130, .inl (f_6))), (a8, .inl (ca8, 130, .inl (f_7)))] H := hP
  have hD : va_D A [(h0, .inr (12, w0 :: .int 1 :: .ref a2 :: .ref a3 :: .ref a4 :: .ref a5 :: .ref a6 :: .ref a7 :: .ref a8 :: w9 :: w10 :: w11 :: w12 :: w13 :: w14 :: w15 :: w16 :: w17 :: w18 :: w19 :: w20 :: w21 :: w22 :: w23 :: w24 :: w25 :: w26 :: w27 :: w28 :: w29 :: w30 :: .ref a31 :: w32 :: w33 :: w34 :: w35 :: w36 :: w37 :: w38 :: w39 :: w40 :: w41 :: w42 :: w43 :: w44 :: w45 :: w46 :: w47 :: w48 :: w49 :: w50 :: w51 :: w52 :: w53 :: w54 :: w55 :: w56 :: w57 :: w58 :: w59 :: w60 :: w61 :: w62 :: w63 :: w64 :: w65 :: w66 :: w67 :: w68 :: w69 :: w70 :: w71 :: w72 :: w73 :: w74 :: w75 :: w76 :: w77 :: w78 :: w79 :: w80 :: w81 :: w82 :: w83 :: w84 :: w85 :: w86 :: w87 :: w88 :: w89 :: w90 :: w91 :: w92 :: w93 :: [])), (a2, .inl (ca2, 1560, .inl (f_1))), (a31, .inl (ca31, 4000, .inl (g2))), (a3, .inl (ca3, 130, .inl (f_2))), (a4, .inl (ca4, 130, .inl (f_3))), (a5, .inl (ca5, 130, .inl (f_4))), (a6, .inl (ca6, 130, .inl (f_5))), (a7, .inl (ca7, 130, .inl (f_6))), (a8, .inl (ca8, 130, .inl (f_7)))] := hD
  have hK : va_K (dC, dI) vwCl [(ca2, .int), (ca31, .int), (ca3, .int), (ca4, .int), (ca5, .int), (ca6, .int), (ca7, .int), (ca8, .int), (ca2, .int), (ca31, .int), (ca3, .int), (ca4, .int), (ca5, .int), (ca6, .int), (ca7, .int), (ca8, .int)] s := hK
  refine W.widen (k := 0) (n := 0) (by omega) (by omega) ?_
  subst hw
  refine lv_istore_n (lv' := [(3, .int 0), (0, .ref h0), (1, .ref b), (2, .ref a4)]) hx hb dX12_known_36 rfl hl (by decide) rfl (fun ls hl => ?_)
  refine lv_aload_n hx hb dX12_known_37 rfl (lv_at hl 3 rfl) ?_
  refine lv_iload_n hx hb dX12_known_38 rfl (lv_at hl 0 rfl) ?_
  refine lv_iconst (v := 0) hx hb dX12_known_39 (by decide) ?_
  refine va_iast hx hb hK hP hD hS 4 3 rfl rfl (show vp_in (0) 130 from by unfold vp_in; decide) dX12_known_40 (fun H locs hP hD hS => ?_)
  obtain ⟨f_8, hP, hD⟩ : ∃ f9 : Nat → Int32, va_P (dC, dI) vwCl [(h0, .inr (12, w0 :: .int 1 :: .ref a2 :: .ref a3 :: .ref a4 :: .ref a5 :: .ref a6 :: .ref a7 :: .ref a8 :: w9 :: w10 :: w11 :: w12 :: w13 :: w14 :: w15 :: w16 :: w17 :: w18 :: w19 :: w20 :: w21 :: w22 :: w23 :: w24 :: w25 :: w26 :: w27 :: w28 :: w29 :: w30 :: .ref a31 :: w32 :: w33 :: w34 :: w35 :: w36 :: w37 :: w38 :: w39 :: w40 :: w41 :: w42 :: w43 :: w44 :: w45 :: w46 :: w47 :: w48 :: w49 :: w50 :: w51 :: w52 :: w53 :: w54 :: w55 :: w56 :: w57 :: w58 :: w59 :: w60 :: w61 :: w62 :: w63 :: w64 :: w65 :: w66 :: w67 :: w68 :: w69 :: w70 :: w71 :: w72 :: w73 :: w74 :: w75 :: w76 :: w77 :: w78 :: w79 :: w80 :: w81 :: w82 :: w83 :: w84 :: w85 :: w86 :: w87 :: w88 :: w89 :: w90 :: w91 :: w92 :: w93 :: [])), (a2, .inl (ca2, 1560, .inl (f_1))), (a31, .inl (ca31, 4000, .inl (g2))), (a3, .inl (ca3, 130, .inl (f_2))), (a4, .inl (ca4, 130, .inl (f9))), (a5, .inl (ca5, 130, .inl (f_4))), (a6, .inl (ca6, 130, .inl (f_5))), (a7, .inl (ca7, 130, .inl (f_6))), (a8, .inl (ca8, 130, .inl (f_7)))] H ∧ va_D A [(h0, .inr (12, w0 :: .int 1 :: .ref a2 :: .ref a3 :: .ref a4 :: .ref a5 :: .ref a6 :: .ref a7 :: .ref a8 :: w9 :: w10 :: w11 :: w12 :: w13 :: w14 :: w15 :: w16 :: w17 :: w18 :: w19 :: w20 :: w21 :: w22 :: w23 :: w24 :: w25 :: w26 :: w27 :: w28 :: w29 :: w30 :: .ref a31 :: w32 :: w33 :: w34 :: w35 :: w36 :: w37 :: w38 :: w39 :: w40 :: w41 :: w42 :: w43 :: w44 :: w45 :: w46 :: w47 :: w48 :: w49 :: w50 :: w51 :: w52 :: w53 :: w54 :: w55 :: w56 :: w57 :: w58 :: w59 :: w60 :: w61 :: w62 :: w63 :: w64 :: w65 :: w66 :: w67 :: w68 :: w69 :: w70 :: w71 :: w72 :: w73 :: w74 :: w75 :: w76 :: w77 :: w78 :: w79 :: w80 :: w81 :: w82 :: w83 :: w84 :: w85 :: w86 :: w87 :: w88 :: w89 :: w90 :: w91 :: w92 :: w93 :: [])), (a2, .inl (ca2, 1560, .inl (f_1))), (a31, .inl (ca31, 4000, .inl (g2))), (a3, .inl (ca3, 130, .inl (f_2))), (a4, .inl (ca4, 130, .inl (f9))), (a5, .inl (ca5, 130, .inl (f_4))), (a6, .inl (ca6, 130, .inl (f_5))), (a7, .inl (ca7, 130, .inl (f_6))), (a8, .inl (ca8, 130, .inl (f_7)))] := ⟨_, hP, hD⟩
  have hP9 := hP.sub (ws' := [(h0, .inr (12, w0 :: .int 1 :: .ref a2 :: .ref a3 :: .ref a4 :: .ref a5 :: .ref a6 :: .ref a7 :: .ref a8 :: w9 :: w10 :: w11 :: w12 :: w13 :: w14 :: w15 :: w16 :: w17 :: w18 :: w19 :: w20 :: w21 :: w22 :: w23 :: w24 :: w25 :: w26 :: w27 :: w28 :: w29 :: w30 :: .ref a31 :: w32 :: w33 :: w34 :: w35 :: w36 :: w37 :: w38 :: w39 :: w40 :: w41 :: w42 :: w43 :: w44 :: w45 :: w46 :: w47 :: w48 :: w49 :: w50 :: w51 :: w52 :: w53 :: w54 :: w55 :: w56 :: w57 :: w58 :: w59 :: w60 :: w61 :: w62 :: w63 :: w64 :: w65 :: w66 :: w67 :: w68 :: w69 :: w70 :: w71 :: w72 :: w73 :: w74 :: w75 :: w76 :: w77 :: w78 :: w79 :: w80 :: w81 :: w82 :: w83 :: w84 :: w85 :: w86 :: w87 :: w88 :: w89 :: w90 :: w91 :: w92 :: w93 :: [])), (a2, .inl (ca2, 1560, .inl (f_1))), (a31, .inl (ca31, 4000, .inl (g2))), (a3, .inl (ca3, 130, .inl (f_2))), (a4, .inl (ca4, 130, .inl (f_8))), (a5, .inl (ca5, 130, .inl (f_4))), (a6, .inl (ca6, 130, .inl (f_5))), (a7, .inl (ca7, 130, .inl (f_6))), (a8, .inl (ca8, 130, .inl (f_7)))]) [0, 1, 2, 3, 4, 5, 6, 7, 8] rfl
  have hD9 := hD.sub (ws' := [(h0, .inr (12, w0 :: .int 1 :: .ref a2 :: .ref a3 :: .ref a4 :: .ref a5 :: .ref a6 :: .ref a7 :: .ref a8 :: w9 :: w10 :: w11 :: w12 :: w13 :: w14 :: w15 :: w16 :: w17 :: w18 :: w19 :: w20 :: w21 :: w22 :: w23 :: w24 :: w25 :: w26 :: w27 :: w28 :: w29 :: w30 :: .ref a31 :: w32 :: w33 :: w34 :: w35 :: w36 :: w37 :: w38 :: w39 :: w40 :: w41 :: w42 :: w43 :: w44 :: w45 :: w46 :: w47 :: w48 :: w49 :: w50 :: w51 :: w52 :: w53 :: w54 :: w55 :: w56 :: w57 :: w58 :: w59 :: w60 :: w61 :: w62 :: w63 :: w64 :: w65 :: w66 :: w67 :: w68 :: w69 :: w70 :: w71 :: w72 :: w73 :: w74 :: w75 :: w76 :: w77 :: w78 :: w79 :: w80 :: w81 :: w82 :: w83 :: w84 :: w85 :: w86 :: w87 :: w88 :: w89 :: w90 :: w91 :: w92 :: w93 :: [])), (a2, .inl (ca2, 1560, .inl (f_1))), (a31, .inl (ca31, 4000, .inl (g2))), (a3, .inl (ca3, 130, .inl (f_2))), (a4, .inl (ca4, 130, .inl (f_8))), (a5, .inl (ca5, 130, .inl (f_4))), (a6, .inl (ca6, 130, .inl (f_5))), (a7, .inl (ca7, 130, .inl (f_6))), (a8, .inl (ca8, 130, .inl (f_7)))]) [0, 1, 2, 3, 4, 5, 6, 7, 8] (by decide) rfl
  have hK9 := hK.sub (tys' := [(ca2, .int), (ca31, .int), (ca3, .int), (ca4, .int), (ca5, .int), (ca6, .int), (ca7, .int), (ca8, .int)]) [0, 1, 2, 3, 4, 5, 6, 7] rfl
  refine W.widen (k := 0) (n := 0) (by omega) (by omega) ?_
  exact W.vret hx hb hr (fun t ht hW => ⟨⟨(), rfl, trivial, f_1, g2, f_2, f_8, f_4, f_5, f_6, f_7, by rw [ht]; exact hP9, va_K.moved hW.alike hK9, hD9⟩, hS.F ht⟩) hS.2.2 dX12_known_41
set_option maxHeartbeats 1000000 in
set_option maxRecDepth 100000 in
theorem lp_known_1 {p : Program} {l : Launch} {e : Env} {s : State} {m : MethodId} {args : Array Value} {below : List Frame} {meth : Method} {c : Code} {Q : State → Prop} {dC : Nat → ClassId} {dI : Nat → Nat → Nat} {A : Nat → Prop} {h0 a2 a31 a3 a4 a5 a6 a7 a8 b v n : Nat} {f : Nat → Int32} {ca2 ca31 ca3 ca4 ca5 ca6 ca7 ca8 : ClassId} {ga2 ga3 ga4 ga5 ga6 ga7 ga8 : Nat → Int32} {w0 w9 w10 w11 w12 w13 w14 w15 w16 w17 w18 w19 w20 w21 w22 w23 w24 w25 w26 w27 w28 w29 w30 w32 w33 w34 w35 w36 w37 w38 w39 w40 w41 w42 w43 w44 w45 w46 w47 w48 w49 w50 w51 w52 w53 w54 w55 w56 w57 w58 w59 w60 w61 w62 w63 w64 w65 w66 w67 w68 w69 w70 w71 w72 w73 w74 w75 w76 w77 w78 w79 w80 w81 w82 w83 w84 w85 w86 w87 w88 w89 w90 w91 w92 w93 : Value} (hn : n ≤ 12) (hx : p.tables.exec = Jvm.exec) (hb : c.code = cX12_known) (hml : c.maxLocals = 4) (hown : s.vm.findClass RX12 = some m.cls) (hts : ∀ w ∈ wsX12_known, w.before args s = true) (hA : ∀ q : Nat, s.heap.size ≤ q → A q) (hst : st_S b v n f A s s.heap) (hK : va_K (dC, dI) vwCl [(ca2, .int), (ca31, .int), (ca3, .int), (ca4, .int), (ca5, .int), (ca6, .int), (ca7, .int), (ca8, .int)] s) (hexit : ∀ (g : Nat → Int32) (i : Nat) (H : Heap) (locs : List Loc) (ls : Array Slot), va_P (dC, dI) vwCl [(h0, .inr (12, w0 :: .int 1 :: .ref a2 :: .ref a3 :: .ref a4 :: .ref a5 :: .ref a6 :: .ref a7 :: .ref a8 :: w9 :: w10 :: w11 :: w12 :: w13 :: w14 :: w15 :: w16 :: w17 :: w18 :: w19 :: w20 :: w21 :: w22 :: w23 :: w24 :: w25 :: w26 :: w27 :: w28 :: w29 :: w30 :: .ref a31 :: w32 :: w33 :: w34 :: w35 :: w36 :: w37 :: w38 :: w39 :: w40 :: w41 :: w42 :: w43 :: w44 :: w45 :: w46 :: w47 :: w48 :: w49 :: w50 :: w51 :: w52 :: w53 :: w54 :: w55 :: w56 :: w57 :: w58 :: w59 :: w60 :: w61 :: w62 :: w63 :: w64 :: w65 :: w66 :: w67 :: w68 :: w69 :: w70 :: w71 :: w72 :: w73 :: w74 :: w75 :: w76 :: w77 :: w78 :: w79 :: w80 :: w81 :: w82 :: w83 :: w84 :: w85 :: w86 :: w87 :: w88 :: w89 :: w90 :: w91 :: w92 :: w93 :: [])), (a2, .inl (ca2, 1560, .inl (ga2))), (a31, .inl (ca31, 4000, .inl (g))), (a3, .inl (ca3, 130, .inl (ga3))), (a4, .inl (ca4, 130, .inl (ga4))), (a5, .inl (ca5, 130, .inl (ga5))), (a6, .inl (ca6, 130, .inl (ga6))), (a7, .inl (ca7, 130, .inl (ga7))), (a8, .inl (ca8, 130, .inl (ga8)))] H → va_D A [(h0, .inr (12, w0 :: .int 1 :: .ref a2 :: .ref a3 :: .ref a4 :: .ref a5 :: .ref a6 :: .ref a7 :: .ref a8 :: w9 :: w10 :: w11 :: w12 :: w13 :: w14 :: w15 :: w16 :: w17 :: w18 :: w19 :: w20 :: w21 :: w22 :: w23 :: w24 :: w25 :: w26 :: w27 :: w28 :: w29 :: w30 :: .ref a31 :: w32 :: w33 :: w34 :: w35 :: w36 :: w37 :: w38 :: w39 :: w40 :: w41 :: w42 :: w43 :: w44 :: w45 :: w46 :: w47 :: w48 :: w49 :: w50 :: w51 :: w52 :: w53 :: w54 :: w55 :: w56 :: w57 :: w58 :: w59 :: w60 :: w61 :: w62 :: w63 :: w64 :: w65 :: w66 :: w67 :: w68 :: w69 :: w70 :: w71 :: w72 :: w73 :: w74 :: w75 :: w76 :: w77 :: w78 :: w79 :: w80 :: w81 :: w82 :: w83 :: w84 :: w85 :: w86 :: w87 :: w88 :: w89 :: w90 :: w91 :: w92 :: w93 :: [])), (a2, .inl (ca2, 1560, .inl (ga2))), (a31, .inl (ca31, 4000, .inl (g))), (a3, .inl (ca3, 130, .inl (ga3))), (a4, .inl (ca4, 130, .inl (ga4))), (a5, .inl (ca5, 130, .inl (ga5))), (a6, .inl (ca6, 130, .inl (ga6))), (a7, .inl (ca7, 130, .inl (ga7))), (a8, .inl (ca8, 130, .inl (ga8)))] → va_S A s.heap H locs → lv_has ls 4 [(0, .ref h0), (1, .ref b), (2, .ref a5), (3, .int (nI i))] → W p l e ({ frames := 4, cells := 0, slots := 0, locals := 85 } : Room) s m args below meth c H locs 0 0 Q (F0 m 27 ls [])) : ∀ (d i : Nat), n = i + d → ∀ (g : Nat → Int32) (H : Heap) (locs : List Loc) (ls : Array Slot), va_P (dC, dI) vwCl [(h0, .inr (12, w0 :: .int 1 :: .ref a2 :: .ref a3 :: .ref a4 :: .ref a5 :: .ref a6 :: .ref a7 :: .ref a8 :: w9 :: w10 :: w11 :: w12 :: w13 :: w14 :: w15 :: w16 :: w17 :: w18 :: w19 :: w20 :: w21 :: w22 :: w23 :: w24 :: w25 :: w26 :: w27 :: w28 :: w29 :: w30 :: .ref a31 :: w32 :: w33 :: w34 :: w35 :: w36 :: w37 :: w38 :: w39 :: w40 :: w41 :: w42 :: w43 :: w44 :: w45 :: w46 :: w47 :: w48 :: w49 :: w50 :: w51 :: w52 :: w53 :: w54 :: w55 :: w56 :: w57 :: w58 :: w59 :: w60 :: w61 :: w62 :: w63 :: w64 :: w65 :: w66 :: w67 :: w68 :: w69 :: w70 :: w71 :: w72 :: w73 :: w74 :: w75 :: w76 :: w77 :: w78 :: w79 :: w80 :: w81 :: w82 :: w83 :: w84 :: w85 :: w86 :: w87 :: w88 :: w89 :: w90 :: w91 :: w92 :: w93 :: [])), (a2, .inl (ca2, 1560, .inl (ga2))), (a31, .inl (ca31, 4000, .inl (g))), (a3, .inl (ca3, 130, .inl (ga3))), (a4, .inl (ca4, 130, .inl (ga4))), (a5, .inl (ca5, 130, .inl (ga5))), (a6, .inl (ca6, 130, .inl (ga6))), (a7, .inl (ca7, 130, .inl (ga7))), (a8, .inl (ca8, 130, .inl (ga8)))] H → va_D A [(h0, .inr (12, w0 :: .int 1 :: .ref a2 :: .ref a3 :: .ref a4 :: .ref a5 :: .ref a6 :: .ref a7 :: .ref a8 :: w9 :: w10 :: w11 :: w12 :: w13 :: w14 :: w15 :: w16 :: w17 :: w18 :: w19 :: w20 :: w21 :: w22 :: w23 :: w24 :: w25 :: w26 :: w27 :: w28 :: w29 :: w30 :: .ref a31 :: w32 :: w33 :: w34 :: w35 :: w36 :: w37 :: w38 :: w39 :: w40 :: w41 :: w42 :: w43 :: w44 :: w45 :: w46 :: w47 :: w48 :: w49 :: w50 :: w51 :: w52 :: w53 :: w54 :: w55 :: w56 :: w57 :: w58 :: w59 :: w60 :: w61 :: w62 :: w63 :: w64 :: w65 :: w66 :: w67 :: w68 :: w69 :: w70 :: w71 :: w72 :: w73 :: w74 :: w75 :: w76 :: w77 :: w78 :: w79 :: w80 :: w81 :: w82 :: w83 :: w84 :: w85 :: w86 :: w87 :: w88 :: w89 :: w90 :: w91 :: w92 :: w93 :: [])), (a2, .inl (ca2, 1560, .inl (ga2))), (a31, .inl (ca31, 4000, .inl (g))), (a3, .inl (ca3, 130, .inl (ga3))), (a4, .inl (ca4, 130, .inl (ga4))), (a5, .inl (ca5, 130, .inl (ga5))), (a6, .inl (ca6, 130, .inl (ga6))), (a7, .inl (ca7, 130, .inl (ga7))), (a8, .inl (ca8, 130, .inl (ga8)))] → va_S A s.heap H locs → lv_has ls 4 [(0, .ref h0), (1, .ref b), (2, .ref a5), (3, .int (nI i))] → W p l e ({ frames := 4, cells := 0, slots := 0, locals := 85 } : Room) s m args below meth c H locs 0 0 Q (F0 m 2 ls []) := by
  intro d
  induction d with
  | zero =>
    intro i hi g H locs ls hP hD hS hl
    refine lv_iload_n hx hb dX12_known_2 rfl (lv_at hl 3 rfl) ?_
    refine lv_aload_n hx hb dX12_known_3 rfl (lv_at hl 1 rfl) ?_
    have hPc := hP.sub (ws' := []) [] rfl
    have hDc := hD.sub (ws' := []) [] (by decide) rfl
    have hKc := hK.sub (tys' := []) [] rfl
    have hFc := va_free (wc := []) hD hS hA [] rfl
    refine va_calli (va_runV (As := []) (rest := [.int (nI i)]) ⟨hx, hb, hml, hown, hts⟩ (c_length l dC dI H.size b v n f) (cwV 0 hts gX12_known_J0_length_8abf5 rfl rfl rfl (by decide +kernel) ⟨Nat.le_of_ble_eq_true rfl, Nat.le_of_ble_eq_true rfl⟩) ⟨fun a U g mk q => by obtain ⟨q0, q1, qP, qK, qD, qE0⟩ := q; exact ⟨q0, q1, qP, va_K.moved (u := U) (U := U.calling g mk a) (Vm.Alike.refl U.vm) qK, qD, st_S.moved (u := U) (U := U.calling g mk a) (Vm.Alike.refl U.vm) qE0⟩, hst.recv hS, fun U hU hW => ⟨rfl, by rw [hU], by rw [hU]; exact hPc, va_K.moved hW.alike hKc, hDc.weaken (fun _ _ _ _ => trivial), by rw [hU]; exact st_S.moved hW.alike ((hst.kept hS.2.1).narrow hFc)⟩⟩ rfl rfl hl.1 rfl (lv_room (Nat.le_of_ble_eq_true rfl)) dX12_known_4 ⟨(show 0 + 0 ≤ 0 by omega), (show 0 + 0 ≤ 0 by omega)⟩) hS (fun q _ h => hFc q h) hFc (fun r0 u t H1 locs ht hvm hw hB hz1 hk1 hS => ?_)
    obtain ⟨hP1, hK1, hD1⟩ := hB
    rw [ht] at hP1
    have hK1 := va_K.moved hvm.symm hK1
    obtain ⟨hP, hD⟩ := va_join (wr := [(h0, .inr (12, w0 :: .int 1 :: .ref a2 :: .ref a3 :: .ref a4 :: .ref a5 :: .ref a6 :: .ref a7 :: .ref a8 :: w9 :: w10 :: w11 :: w12 :: w13 :: w14 :: w15 :: w16 :: w17 :: w18 :: w19 :: w20 :: w21 :: w22 :: w23 :: w24 :: w25 :: w26 :: w27 :: w28 :: w29 :: w30 :: .ref a31 :: w32 :: w33 :: w34 :: w35 :: w36 :: w37 :: w38 :: w39 :: w40 :: w41 :: w42 :: w43 :: w44 :: w45 :: w46 :: w47 :: w48 :: w49 :: w50 :: w51 :: w52 :: w53 :: w54 :: w55 :: w56 :: w57 :: w58 :: w59 :: w60 :: w61 :: w62 :: w63 :: w64 :: w65 :: w66 :: w67 :: w68 :: w69 :: w70 :: w71 :: w72 :: w73 :: w74 :: w75 :: w76 :: w77 :: w78 :: w79 :: w80 :: w81 :: w82 :: w83 :: w84 :: w85 :: w86 :: w87 :: w88 :: w89 :: w90 :: w91 :: w92 :: w93 :: [])), (a2, .inl (ca2, 1560, .inl (ga2))), (a31, .inl (ca31, 4000, .inl (g))), (a3, .inl (ca3, 130, .inl (ga3))), (a4, .inl (ca4, 130, .inl (ga4))), (a5, .inl (ca5, 130, .inl (ga5))), (a6, .inl (ca6, 130, .inl (ga6))), (a7, .inl (ca7, 130, .inl (ga7))), (a8, .inl (ca8, 130, .inl (ga8)))]) (w1 := []) hP hD [] [0, 1, 2, 3, 4, 5, 6, 7, 8] rfl rfl (by decide) (by decide) hk1 hFc hP1 hD1
    have hK := (hK.sub (tys' := [(ca2, .int), (ca31, .int), (ca3, .int), (ca4, .int), (ca5, .int), (ca6, .int), (ca7, .int), (ca8, .int)]) [0, 1, 2, 3, 4, 5, 6, 7] rfl).app hK1
    generalize H1 = H at hP hS ⊢
    have hP : va_P (dC, dI) vwCl [(h0, .inr (12, w0 :: .int 1 :: .ref a2 :: .ref a3 :: .ref a4 :: .ref a5 :: .ref a6 :: .ref a7 :: .ref a8 :: w9 :: w10 :: w11 :: w12 :: w13 :: w14 :: w15 :: w16 :: w17 :: w18 :: w19 :: w20 :: w21 :: w22 :: w23 :: w24 :: w25 :: w26 :: w27 :: w28 :: w29 :: w30 :: .ref a31 :: w32 :: w33 :: w34 :: w35 :: w36 :: w37 :: w38 :: w39 :: w40 :: w41 :: w42 :: w43 :: w44 :: w45 :: w46 :: w47 :: w48 :: w49 :: w50 :: w51 :: w52 :: w53 :: w54 :: w55 :: w56 :: w57 :: w58 :: w59 :: w60 :: w61 :: w62 :: w63 :: w64 :: w65 :: w66 :: w67 :: w68 :: w69 :: w70 :: w71 :: w72 :: w73 :: w74 :: w75 :: w76 :: w77 :: w78 :: w79 :: w80 :: w81 :: w82 :: w83 :: w84 :: w85 :: w86 :: w87 :: w88 :: w89 :: w90 :: w91 :: w92 :: w93 :: [])), (a2, .inl (ca2, 1560, .inl (ga2))), (a31, .inl (ca31, 4000, .inl (g))), (a3, .inl (ca3, 130, .inl (ga3))), (a4, .inl (ca4, 130, .inl (ga4))), (a5, .inl (ca5, 130, .inl (ga5))), (a6, .inl (ca6, 130, .inl (ga6))), (a7, .inl (ca7, 130, .inl (ga7))), (a8, .inl (ca8, 130, .inl (ga8)))] H := hP
    have hD : va_D A [(h0, .inr (12, w0 :: .int 1 :: .ref a2 :: .ref a3 :: .ref a4 :: .ref a5 :: .ref a6 :: .ref a7 :: .ref a8 :: w9 :: w10 :: w11 :: w12 :: w13 :: w14 :: w15 :: w16 :: w17 :: w18 :: w19 :: w20 :: w21 :: w22 :: w23 :: w24 :: w25 :: w26 :: w27 :: w28 :: w29 :: w30 :: .ref a31 :: w32 :: w33 :: w34 :: w35 :: w36 :: w37 :: w38 :: w39 :: w40 :: w41 :: w42 :: w43 :: w44 :: w45 :: w46 :: w47 :: w48 :: w49 :: w50 :: w51 :: w52 :: w53 :: w54 :: w55 :: w56 :: w57 :: w58 :: w59 :: w60 :: w61 :: w62 :: w63 :: w64 :: w65 :: w66 :: w67 :: w68 :: w69 :: w70 :: w71 :: w72 :: w73 :: w74 :: w75 :: w76 :: w77 :: w78 :: w79 :: w80 :: w81 :: w82 :: w83 :: w84 :: w85 :: w86 :: w87 :: w88 :: w89 :: w90 :: w91 :: w92 :: w93 :: [])), (a2, .inl (ca2, 1560, .inl (ga2))), (a31, .inl (ca31, 4000, .inl (g))), (a3, .inl (ca3, 130, .inl (ga3))), (a4, .inl (ca4, 130, .inl (ga4))), (a5, .inl (ca5, 130, .inl (ga5))), (a6, .inl (ca6, 130, .inl (ga6))), (a7, .inl (ca7, 130, .inl (ga7))), (a8, .inl (ca8, 130, .inl (ga8)))] := hD
    have hK : va_K (dC, dI) vwCl [(ca2, .int), (ca31, .int), (ca3, .int), (ca4, .int), (ca5, .int), (ca6, .int), (ca7, .int), (ca8, .int)] s := hK
    refine W.widen (k := 0) (n := 0) (by omega) (by omega) ?_
    subst hw
    refine lv_icmp_ge (tgt := 27) hx hb dX12_known_7 (by decide) (fun c9 => ?_) (fun c9 => absurd (nI_le (by omega) (by omega)) c9)
    exact hexit g i _ _ ls hP hD hS hl
  | succ d ih =>
    intro i hi g H locs ls hP hD hS hl
    refine lv_iload_n hx hb dX12_known_2 rfl (lv_at hl 3 rfl) ?_
    refine lv_aload_n hx hb dX12_known_3 rfl (lv_at hl 1 rfl) ?_
    have hPc := hP.sub (ws' := []) [] rfl
    have hDc := hD.sub (ws' := []) [] (by decide) rfl
    have hKc := hK.sub (tys' := []) [] rfl
    have hFc := va_free (wc := []) hD hS hA [] rfl
    refine va_calli (va_runV (As := []) (rest := [.int (nI i)]) ⟨hx, hb, hml, hown, hts⟩ (c_length l dC dI H.size b v n f) (cwV 0 hts gX12_known_J0_length_8abf5 rfl rfl rfl (by decide +kernel) ⟨Nat.le_of_ble_eq_true rfl, Nat.le_of_ble_eq_true rfl⟩) ⟨fun a U g mk q => by obtain ⟨q0, q1, qP, qK, qD, qE0⟩ := q; exact ⟨q0, q1, qP, va_K.moved (u := U) (U := U.calling g mk a) (Vm.Alike.refl U.vm) qK, qD, st_S.moved (u := U) (U := U.calling g mk a) (Vm.Alike.refl U.vm) qE0⟩, hst.recv hS, fun U hU hW => ⟨rfl, by rw [hU], by rw [hU]; exact hPc, va_K.moved hW.alike hKc, hDc.weaken (fun _ _ _ _ => trivial), by rw [hU]; exact st_S.moved hW.alike ((hst.kept hS.2.1).narrow hFc)⟩⟩ rfl rfl hl.1 rfl (lv_room (Nat.le_of_ble_eq_true rfl)) dX12_known_4 ⟨(show 0 + 0 ≤ 0 by omega), (show 0 + 0 ≤ 0 by omega)⟩) hS (fun q _ h => hFc q h) hFc (fun r0 u t H1 locs ht hvm hw hB hz1 hk1 hS => ?_)
    obtain ⟨hP1, hK1, hD1⟩ := hB
    rw [ht] at hP1
    have hK1 := va_K.moved hvm.symm hK1
    obtain ⟨hP, hD⟩ := va_join (wr := [(h0, .inr (12, w0 :: .int 1 :: .ref a2 :: .ref a3 :: .ref a4 :: .ref a5 :: .ref a6 :: .ref a7 :: .ref a8 :: w9 :: w10 :: w11 :: w12 :: w13 :: w14 :: w15 :: w16 :: w17 :: w18 :: w19 :: w20 :: w21 :: w22 :: w23 :: w24 :: w25 :: w26 :: w27 :: w28 :: w29 :: w30 :: .ref a31 :: w32 :: w33 :: w34 :: w35 :: w36 :: w37 :: w38 :: w39 :: w40 :: w41 :: w42 :: w43 :: w44 :: w45 :: w46 :: w47 :: w48 :: w49 :: w50 :: w51 :: w52 :: w53 :: w54 :: w55 :: w56 :: w57 :: w58 :: w59 :: w60 :: w61 :: w62 :: w63 :: w64 :: w65 :: w66 :: w67 :: w68 :: w69 :: w70 :: w71 :: w72 :: w73 :: w74 :: w75 :: w76 :: w77 :: w78 :: w79 :: w80 :: w81 :: w82 :: w83 :: w84 :: w85 :: w86 :: w87 :: w88 :: w89 :: w90 :: w91 :: w92 :: w93 :: [])), (a2, .inl (ca2, 1560, .inl (ga2))), (a31, .inl (ca31, 4000, .inl (g))), (a3, .inl (ca3, 130, .inl (ga3))), (a4, .inl (ca4, 130, .inl (ga4))), (a5, .inl (ca5, 130, .inl (ga5))), (a6, .inl (ca6, 130, .inl (ga6))), (a7, .inl (ca7, 130, .inl (ga7))), (a8, .inl (ca8, 130, .inl (ga8)))]) (w1 := []) hP hD [] [0, 1, 2, 3, 4, 5, 6, 7, 8] rfl rfl (by decide) (by decide) hk1 hFc hP1 hD1
    have hK := (hK.sub (tys' := [(ca2, .int), (ca31, .int), (ca3, .int), (ca4, .int), (ca5, .int), (ca6, .int), (ca7, .int), (ca8, .int)]) [0, 1, 2, 3, 4, 5, 6, 7] rfl).app hK1
    generalize H1 = H at hP hS ⊢
    have hP : va_P (dC, dI) vwCl [(h0, .inr (12, w0 :: .int 1 :: .ref a2 :: .ref a3 :: .ref a4 :: .ref a5 :: .ref a6 :: .ref a7 :: .ref a8 :: w9 :: w10 :: w11 :: w12 :: w13 :: w14 :: w15 :: w16 :: w17 :: w18 :: w19 :: w20 :: w21 :: w22 :: w23 :: w24 :: w25 :: w26 :: w27 :: w28 :: w29 :: w30 :: .ref a31 :: w32 :: w33 :: w34 :: w35 :: w36 :: w37 :: w38 :: w39 :: w40 :: w41 :: w42 :: w43 :: w44 :: w45 :: w46 :: w47 :: w48 :: w49 :: w50 :: w51 :: w52 :: w53 :: w54 :: w55 :: w56 :: w57 :: w58 :: w59 :: w60 :: w61 :: w62 :: w63 :: w64 :: w65 :: w66 :: w67 :: w68 :: w69 :: w70 :: w71 :: w72 :: w73 :: w74 :: w75 :: w76 :: w77 :: w78 :: w79 :: w80 :: w81 :: w82 :: w83 :: w84 :: w85 :: w86 :: w87 :: w88 :: w89 :: w90 :: w91 :: w92 :: w93 :: [])), (a2, .inl (ca2, 1560, .inl (ga2))), (a31, .inl (ca31, 4000, .inl (g))), (a3, .inl (ca3, 130, .inl (ga3))), (a4, .inl (ca4, 130, .inl (ga4))), (a5, .inl (ca5, 130, .inl (ga5))), (a6, .inl (ca6, 130, .inl (ga6))), (a7, .inl (ca7, 130, .inl (ga7))), (a8, .inl (ca8, 130, .inl (ga8)))] H := hP
    have hD : va_D A [(h0, .inr (12, w0 :: .int 1 :: .ref a2 :: .ref a3 :: .ref a4 :: .ref a5 :: .ref a6 :: .ref a7 :: .ref a8 :: w9 :: w10 :: w11 :: w12 :: w13 :: w14 :: w15 :: w16 :: w17 :: w18 :: w19 :: w20 :: w21 :: w22 :: w23 :: w24 :: w25 :: w26 :: w27 :: w28 :: w29 :: w30 :: .ref a31 :: w32 :: w33 :: w34 :: w35 :: w36 :: w37 :: w38 :: w39 :: w40 :: w41 :: w42 :: w43 :: w44 :: w45 :: w46 :: w47 :: w48 :: w49 :: w50 :: w51 :: w52 :: w53 :: w54 :: w55 :: w56 :: w57 :: w58 :: w59 :: w60 :: w61 :: w62 :: w63 :: w64 :: w65 :: w66 :: w67 :: w68 :: w69 :: w70 :: w71 :: w72 :: w73 :: w74 :: w75 :: w76 :: w77 :: w78 :: w79 :: w80 :: w81 :: w82 :: w83 :: w84 :: w85 :: w86 :: w87 :: w88 :: w89 :: w90 :: w91 :: w92 :: w93 :: [])), (a2, .inl (ca2, 1560, .inl (ga2))), (a31, .inl (ca31, 4000, .inl (g))), (a3, .inl (ca3, 130, .inl (ga3))), (a4, .inl (ca4, 130, .inl (ga4))), (a5, .inl (ca5, 130, .inl (ga5))), (a6, .inl (ca6, 130, .inl (ga6))), (a7, .inl (ca7, 130, .inl (ga7))), (a8, .inl (ca8, 130, .inl (ga8)))] := hD
    have hK : va_K (dC, dI) vwCl [(ca2, .int), (ca31, .int), (ca3, .int), (ca4, .int), (ca5, .int), (ca6, .int), (ca7, .int), (ca8, .int)] s := hK
    refine W.widen (k := 0) (n := 0) (by omega) (by omega) ?_
    subst hw
    refine lv_icmp_ge (tgt := 27) hx hb dX12_known_7 (by decide) (fun c9 => absurd c9 (nI_ge (by omega) (by omega))) (fun c9 => ?_)
    refine lv_aload_n hx hb dX12_known_10 rfl (lv_at hl 0 rfl) ?_
    refine va_get (D := (dC, dI)) (ci := 12) (v := .ref a31) (C := RX12) (T := TX12) (N := 94) hx hb hts (by decide +kernel) hown hK hP 0 rfl rfl 31 (by decide) (hts (.fieldLink RX12 17 "ProofBenchModel" "tape" "[I") (by decide +kernel)) (fun _ h9 => h9) rfl dX12_known_11 ?_
    refine lv_iload_n hx hb dX12_known_14 rfl (lv_at hl 3 rfl) ?_
    refine lv_aload_n hx hb dX12_known_15 rfl (lv_at hl 1 rfl) ?_
    refine lv_iload_n hx hb dX12_known_16 rfl (lv_at hl 3 rfl) ?_
    have hPc := hP.sub (ws' := []) [] rfl
    have hDc := hD.sub (ws' := []) [] (by decide) rfl
    have hKc := hK.sub (tys' := []) [] rfl
    have hFc := va_free (wc := []) hD hS hA [] rfl
    refine va_calli (va_runV (As := [.int (nI i)]) (rest := [.int (nI i), .ref a31]) ⟨hx, hb, hml, hown, hts⟩ (c_charAt l dC dI H.size b v n f i (by omega) (by omega)) (cwV 1 hts gX12_known_J0_charAt_5068e rfl rfl rfl (by decide +kernel) ⟨Nat.le_of_ble_eq_true rfl, Nat.le_of_ble_eq_true rfl⟩) ⟨fun a U g mk q => by obtain ⟨q0, q1, qP, qK, qD, qE0⟩ := q; exact ⟨q0, q1, qP, va_K.moved (u := U) (U := U.calling g mk a) (Vm.Alike.refl U.vm) qK, qD, st_S.moved (u := U) (U := U.calling g mk a) (Vm.Alike.refl U.vm) qE0⟩, hst.recv hS, fun U hU hW => ⟨rfl, by rw [hU], by rw [hU]; exact hPc, va_K.moved hW.alike hKc, hDc.weaken (fun _ _ _ _ => trivial), by rw [hU]; exact st_S.moved hW.alike ((hst.kept hS.2.1).narrow hFc)⟩⟩ rfl rfl hl.1 rfl (lv_room (Nat.le_of_ble_eq_true rfl)) dX12_known_17 ⟨(show 0 + 0 ≤ 0 by omega), (show 0 + 0 ≤ 0 by omega)⟩) hS (fun q _ h => hFc q h) hFc (fun r1 u t H1 locs ht hvm hw hB hz1 hk1 hS => ?_)
    obtain ⟨hP1, hK1, hD1⟩ := hB
    rw [ht] at hP1
    have hK1 := va_K.moved hvm.symm hK1
    obtain ⟨hP, hD⟩ := va_join (wr := [(h0, .inr (12, w0 :: .int 1 :: .ref a2 :: .ref a3 :: .ref a4 :: .ref a5 :: .ref a6 :: .ref a7 :: .ref a8 :: w9 :: w10 :: w11 :: w12 :: w13 :: w14 :: w15 :: w16 :: w17 :: w18 :: w19 :: w20 :: w21 :: w22 :: w23 :: w24 :: w25 :: w26 :: w27 :: w28 :: w29 :: w30 :: .ref a31 :: w32 :: w33 :: w34 :: w35 :: w36 :: w37 :: w38 :: w39 :: w40 :: w41 :: w42 :: w43 :: w44 :: w45 :: w46 :: w47 :: w48 :: w49 :: w50 :: w51 :: w52 :: w53 :: w54 :: w55 :: w56 :: w57 :: w58 :: w59 :: w60 :: w61 :: w62 :: w63 :: w64 :: w65 :: w66 :: w67 :: w68 :: w69 :: w70 :: w71 :: w72 :: w73 :: w74 :: w75 :: w76 :: w77 :: w78 :: w79 :: w80 :: w81 :: w82 :: w83 :: w84 :: w85 :: w86 :: w87 :: w88 :: w89 :: w90 :: w91 :: w92 :: w93 :: [])), (a2, .inl (ca2, 1560, .inl (ga2))), (a31, .inl (ca31, 4000, .inl (g))), (a3, .inl (ca3, 130, .inl (ga3))), (a4, .inl (ca4, 130, .inl (ga4))), (a5, .inl (ca5, 130, .inl (ga5))), (a6, .inl (ca6, 130, .inl (ga6))), (a7, .inl (ca7, 130, .inl (ga7))), (a8, .inl (ca8, 130, .inl (ga8)))]) (w1 := []) hP hD [] [0, 1, 2, 3, 4, 5, 6, 7, 8] rfl rfl (by decide) (by decide) hk1 hFc hP1 hD1
    have hK := (hK.sub (tys' := [(ca2, .int), (ca31, .int), (ca3, .int), (ca4, .int), (ca5, .int), (ca6, .int), (ca7, .int), (ca8, .int)]) [0, 1, 2, 3, 4, 5, 6, 7] rfl).app hK1
    generalize H1 = H at hP hS ⊢
    have hP : va_P (dC, dI) vwCl [(h0, .inr (12, w0 :: .int 1 :: .ref a2 :: .ref a3 :: .ref a4 :: .ref a5 :: .ref a6 :: .ref a7 :: .ref a8 :: w9 :: w10 :: w11 :: w12 :: w13 :: w14 :: w15 :: w16 :: w17 :: w18 :: w19 :: w20 :: w21 :: w22 :: w23 :: w24 :: w25 :: w26 :: w27 :: w28 :: w29 :: w30 :: .ref a31 :: w32 :: w33 :: w34 :: w35 :: w36 :: w37 :: w38 :: w39 :: w40 :: w41 :: w42 :: w43 :: w44 :: w45 :: w46 :: w47 :: w48 :: w49 :: w50 :: w51 :: w52 :: w53 :: w54 :: w55 :: w56 :: w57 :: w58 :: w59 :: w60 :: w61 :: w62 :: w63 :: w64 :: w65 :: w66 :: w67 :: w68 :: w69 :: w70 :: w71 :: w72 :: w73 :: w74 :: w75 :: w76 :: w77 :: w78 :: w79 :: w80 :: w81 :: w82 :: w83 :: w84 :: w85 :: w86 :: w87 :: w88 :: w89 :: w90 :: w91 :: w92 :: w93 :: [])), (a2, .inl (ca2, 1560, .inl (ga2))), (a31, .inl (ca31, 4000, .inl (g))), (a3, .inl (ca3, 130, .inl (ga3))), (a4, .inl (ca4, 130, .inl (ga4))), (a5, .inl (ca5, 130, .inl (ga5))), (a6, .inl (ca6, 130, .inl (ga6))), (a7, .inl (ca7, 130, .inl (ga7))), (a8, .inl (ca8, 130, .inl (ga8)))] H := hP
    have hD : va_D A [(h0, .inr (12, w0 :: .int 1 :: .ref a2 :: .ref a3 :: .ref a4 :: .ref a5 :: .ref a6 :: .ref a7 :: .ref a8 :: w9 :: w10 :: w11 :: w12 :: w13 :: w14 :: w15 :: w16 :: w17 :: w18 :: w19 :: w20 :: w21 :: w22 :: w23 :: w24 :: w25 :: w26 :: w27 :: w28 :: w29 :: w30 :: .ref a31 :: w32 :: w33 :: w34 :: w35 :: w36 :: w37 :: w38 :: w39 :: w40 :: w41 :: w42 :: w43 :: w44 :: w45 :: w46 :: w47 :: w48 :: w49 :: w50 :: w51 :: w52 :: w53 :: w54 :: w55 :: w56 :: w57 :: w58 :: w59 :: w60 :: w61 :: w62 :: w63 :: w64 :: w65 :: w66 :: w67 :: w68 :: w69 :: w70 :: w71 :: w72 :: w73 :: w74 :: w75 :: w76 :: w77 :: w78 :: w79 :: w80 :: w81 :: w82 :: w83 :: w84 :: w85 :: w86 :: w87 :: w88 :: w89 :: w90 :: w91 :: w92 :: w93 :: [])), (a2, .inl (ca2, 1560, .inl (ga2))), (a31, .inl (ca31, 4000, .inl (g))), (a3, .inl (ca3, 130, .inl (ga3))), (a4, .inl (ca4, 130, .inl (ga4))), (a5, .inl (ca5, 130, .inl (ga5))), (a6, .inl (ca6, 130, .inl (ga6))), (a7, .inl (ca7, 130, .inl (ga7))), (a8, .inl (ca8, 130, .inl (ga8)))] := hD
    have hK : va_K (dC, dI) vwCl [(ca2, .int), (ca31, .int), (ca3, .int), (ca4, .int), (ca5, .int), (ca6, .int), (ca7, .int), (ca8, .int)] s := hK
    refine W.widen (k := 0) (n := 0) (by omega) (by omega) ?_
    refine va_iast hx hb hK hP hD hS 2 1 rfl rfl (vp_in_nI (N := 4000) (by omega) (by decide)) dX12_known_20 (fun H locs hP hD hS => ?_)
    obtain ⟨f_1, hP, hD⟩ : ∃ f9 : Nat → Int32, va_P (dC, dI) vwCl [(h0, .inr (12, w0 :: .int 1 :: .ref a2 :: .ref a3 :: .ref a4 :: .ref a5 :: .ref a6 :: .ref a7 :: .ref a8 :: w9 :: w10 :: w11 :: w12 :: w13 :: w14 :: w15 :: w16 :: w17 :: w18 :: w19 :: w20 :: w21 :: w22 :: w23 :: w24 :: w25 :: w26 :: w27 :: w28 :: w29 :: w30 :: .ref a31 :: w32 :: w33 :: w34 :: w35 :: w36 :: w37 :: w38 :: w39 :: w40 :: w41 :: w42 :: w43 :: w44 :: w45 :: w46 :: w47 :: w48 :: w49 :: w50 :: w51 :: w52 :: w53 :: w54 :: w55 :: w56 :: w57 :: w58 :: w59 :: w60 :: w61 :: w62 :: w63 :: w64 :: w65 :: w66 :: w67 :: w68 :: w69 :: w70 :: w71 :: w72 :: w73 :: w74 :: w75 :: w76 :: w77 :: w78 :: w79 :: w80 :: w81 :: w82 :: w83 :: w84 :: w85 :: w86 :: w87 :: w88 :: w89 :: w90 :: w91 :: w92 :: w93 :: [])), (a2, .inl (ca2, 1560, .inl (ga2))), (a31, .inl (ca31, 4000, .inl (f9))), (a3, .inl (ca3, 130, .inl (ga3))), (a4, .inl (ca4, 130, .inl (ga4))), (a5, .inl (ca5, 130, .inl (ga5))), (a6, .inl (ca6, 130, .inl (ga6))), (a7, .inl (ca7, 130, .inl (ga7))), (a8, .inl (ca8, 130, .inl (ga8)))] H ∧ va_D A [(h0, .inr (12, w0 :: .int 1 :: .ref a2 :: .ref a3 :: .ref a4 :: .ref a5 :: .ref a6 :: .ref a7 :: .ref a8 :: w9 :: w10 :: w11 :: w12 :: w13 :: w14 :: w15 :: w16 :: w17 :: w18 :: w19 :: w20 :: w21 :: w22 :: w23 :: w24 :: w25 :: w26 :: w27 :: w28 :: w29 :: w30 :: .ref a31 :: w32 :: w33 :: w34 :: w35 :: w36 :: w37 :: w38 :: w39 :: w40 :: w41 :: w42 :: w43 :: w44 :: w45 :: w46 :: w47 :: w48 :: w49 :: w50 :: w51 :: w52 :: w53 :: w54 :: w55 :: w56 :: w57 :: w58 :: w59 :: w60 :: w61 :: w62 :: w63 :: w64 :: w65 :: w66 :: w67 :: w68 :: w69 :: w70 :: w71 :: w72 :: w73 :: w74 :: w75 :: w76 :: w77 :: w78 :: w79 :: w80 :: w81 :: w82 :: w83 :: w84 :: w85 :: w86 :: w87 :: w88 :: w89 :: w90 :: w91 :: w92 :: w93 :: [])), (a2, .inl (ca2, 1560, .inl (ga2))), (a31, .inl (ca31, 4000, .inl (f9))), (a3, .inl (ca3, 130, .inl (ga3))), (a4, .inl (ca4, 130, .inl (ga4))), (a5, .inl (ca5, 130, .inl (ga5))), (a6, .inl (ca6, 130, .inl (ga6))), (a7, .inl (ca7, 130, .inl (ga7))), (a8, .inl (ca8, 130, .inl (ga8)))] := ⟨_, hP, hD⟩
    refine lv_iinc (v := nI (i + 1)) (lv' := [(3, .int (nI (i + 1))), (0, .ref h0), (1, .ref b), (2, .ref a5)]) hx hb dX12_known_21 hl (k := 3) rfl (by rw [← nI_1]; rfl) (by decide) rfl (fun ls hl => ?_)
    refine lv_goto (tgt := 2) hx hb dX12_known_24 (by decide) ?_
    exact ih (i + 1) (by omega) _ _ _ ls hP hD hS (lv_sub hl [1, 2, 3, 0] rfl)
set_option maxHeartbeats 1000000 in
set_option maxRecDepth 100000 in
/-- known(word, as): the name 1 -/
theorem c_known_1 (l : Launch) (dC : Nat → ClassId) (dI : Nat → Nat → Nat) (sz : Nat) (h0 a2 a31 a3 a4 a5 a6 a7 a8 b v n : Nat) (f : Nat → Int32) (ca2 ca31 ca3 ca4 ca5 ca6 ca7 ca8 : ClassId) (ga2 ga31 ga3 ga4 ga5 ga6 ga7 ga8 : Nat → Int32) (w0 w9 w10 w11 w12 w13 w14 w15 w16 w17 w18 w19 w20 w21 w22 w23 w24 w25 w26 w27 w28 w29 w30 w32 w33 w34 w35 w36 w37 w38 w39 w40 w41 w42 w43 w44 w45 w46 w47 w48 w49 w50 w51 w52 w53 w54 w55 w56 w57 w58 w59 w60 w61 w62 w63 w64 w65 w66 w67 w68 w69 w70 w71 w72 w73 w74 w75 w76 w77 w78 w79 w80 w81 w82 w83 w84 w85 w86 w87 w88 w89 w90 w91 w92 w93 : Value) (hn : n ≤ 12) : Met l yX12_known wsX12_known ({ frames := 4, cells := 0, slots := 0, locals := 85 }) (va_Pc [.ref h0, .ref b, .ref a5] (fun U => U.heap.size = sz ∧ va_P (dC, dI) vwCl [(h0, .inr (12, w0 :: .int 1 :: .ref a2 :: .ref a3 :: .ref a4 :: .ref a5 :: .ref a6 :: .ref a7 :: .ref a8 :: w9 :: w10 :: w11 :: w12 :: w13 :: w14 :: w15 :: w16 :: w17 :: w18 :: w19 :: w20 :: w21 :: w22 :: w23 :: w24 :: w25 :: w26 :: w27 :: w28 :: w29 :: w30 :: .ref a31 :: w32 :: w33 :: w34 :: w35 :: w36 :: w37 :: w38 :: w39 :: w40 :: w41 :: w42 :: w43 :: w44 :: w45 :: w46 :: w47 :: w48 :: w49 :: w50 :: w51 :: w52 :: w53 :: w54 :: w55 :: w56 :: w57 :: w58 :: w59 :: w60 :: w61 :: w62 :: w63 :: w64 :: w65 :: w66 :: w67 :: w68 :: w69 :: w70 :: w71 :: w72 :: w73 :: w74 :: w75 :: w76 :: w77 :: w78 :: w79 :: w80 :: w81 :: w82 :: w83 :: w84 :: w85 :: w86 :: w87 :: w88 :: w89 :: w90 :: w91 :: w92 :: w93 :: [])), (a2, .inl (ca2, 1560, .inl (ga2))), (a31, .inl (ca31, 4000, .inl (ga31))), (a3, .inl (ca3, 130, .inl (ga3))), (a4, .inl (ca4, 130, .inl (ga4))), (a5, .inl (ca5, 130, .inl (ga5))), (a6, .inl (ca6, 130, .inl (ga6))), (a7, .inl (ca7, 130, .inl (ga7))), (a8, .inl (ca8, 130, .inl (ga8)))] U.heap ∧ va_K (dC, dI) vwCl [(ca2, .int), (ca31, .int), (ca3, .int), (ca4, .int), (ca5, .int), (ca6, .int), (ca7, .int), (ca8, .int)] U ∧ va_D (fun _ => True) [(h0, .inr (12, w0 :: .int 1 :: .ref a2 :: .ref a3 :: .ref a4 :: .ref a5 :: .ref a6 :: .ref a7 :: .ref a8 :: w9 :: w10 :: w11 :: w12 :: w13 :: w14 :: w15 :: w16 :: w17 :: w18 :: w19 :: w20 :: w21 :: w22 :: w23 :: w24 :: w25 :: w26 :: w27 :: w28 :: w29 :: w30 :: .ref a31 :: w32 :: w33 :: w34 :: w35 :: w36 :: w37 :: w38 :: w39 :: w40 :: w41 :: w42 :: w43 :: w44 :: w45 :: w46 :: w47 :: w48 :: w49 :: w50 :: w51 :: w52 :: w53 :: w54 :: w55 :: w56 :: w57 :: w58 :: w59 :: w60 :: w61 :: w62 :: w63 :: w64 :: w65 :: w66 :: w67 :: w68 :: w69 :: w70 :: w71 :: w72 :: w73 :: w74 :: w75 :: w76 :: w77 :: w78 :: w79 :: w80 :: w81 :: w82 :: w83 :: w84 :: w85 :: w86 :: w87 :: w88 :: w89 :: w90 :: w91 :: w92 :: w93 :: [])), (a2, .inl (ca2, 1560, .inl (ga2))), (a31, .inl (ca31, 4000, .inl (ga31))), (a3, .inl (ca3, 130, .inl (ga3))), (a4, .inl (ca4, 130, .inl (ga4))), (a5, .inl (ca5, 130, .inl (ga5))), (a6, .inl (ca6, 130, .inl (ga6))), (a7, .inl (ca7, 130, .inl (ga7))), (a8, .inl (ca8, 130, .inl (ga8)))] ∧ st_S b v n f (va_A [(h0, .inr (12, w0 :: .int 1 :: .ref a2 :: .ref a3 :: .ref a4 :: .ref a5 :: .ref a6 :: .ref a7 :: .ref a8 :: w9 :: w10 :: w11 :: w12 :: w13 :: w14 :: w15 :: w16 :: w17 :: w18 :: w19 :: w20 :: w21 :: w22 :: w23 :: w24 :: w25 :: w26 :: w27 :: w28 :: w29 :: w30 :: .ref a31 :: w32 :: w33 :: w34 :: w35 :: w36 :: w37 :: w38 :: w39 :: w40 :: w41 :: w42 :: w43 :: w44 :: w45 :: w46 :: w47 :: w48 :: w49 :: w50 :: w51 :: w52 :: w53 :: w54 :: w55 :: w56 :: w57 :: w58 :: w59 :: w60 :: w61 :: w62 :: w63 :: w64 :: w65 :: w66 :: w67 :: w68 :: w69 :: w70 :: w71 :: w72 :: w73 :: w74 :: w75 :: w76 :: w77 :: w78 :: w79 :: w80 :: w81 :: w82 :: w83 :: w84 :: w85 :: w86 :: w87 :: w88 :: w89 :: w90 :: w91 :: w92 :: w93 :: [])), (a2, .inl (ca2, 1560, .inl (ga2))), (a31, .inl (ca31, 4000, .inl (ga31))), (a3, .inl (ca3, 130, .inl (ga3))), (a4, .inl (ca4, 130, .inl (ga4))), (a5, .inl (ca5, 130, .inl (ga5))), (a6, .inl (ca6, 130, .inl (ga6))), (a7, .inl (ca7, 130, .inl (ga7))), (a8, .inl (ca8, 130, .inl (ga8)))] sz) U U.heap)) (va_Qv (fun _ : Unit => True) (fun _ t => ∃ (f_1 g2 f_2 f_3 f_8 f_5 f_6 f_7 : Nat → Int32), va_P (dC, dI) vwCl [(h0, .inr (12, w0 :: .int 2 :: .ref a2 :: .ref a3 :: .ref a4 :: .ref a5 :: .ref a6 :: .ref a7 :: .ref a8 :: w9 :: w10 :: w11 :: w12 :: w13 :: w14 :: w15 :: w16 :: w17 :: w18 :: w19 :: w20 :: w21 :: w22 :: w23 :: w24 :: w25 :: w26 :: w27 :: w28 :: w29 :: w30 :: .ref a31 :: w32 :: w33 :: w34 :: w35 :: w36 :: w37 :: w38 :: w39 :: w40 :: w41 :: w42 :: w43 :: w44 :: w45 :: w46 :: w47 :: w48 :: w49 :: w50 :: w51 :: w52 :: w53 :: w54 :: w55 :: w56 :: w57 :: w58 :: w59 :: w60 :: w61 :: w62 :: w63 :: w64 :: w65 :: w66 :: w67 :: w68 :: w69 :: w70 :: w71 :: w72 :: w73 :: w74 :: w75 :: w76 :: w77 :: w78 :: w79 :: w80 :: w81 :: w82 :: w83 :: w84 :: w85 :: w86 :: w87 :: w88 :: w89 :: w90 :: w91 :: w92 :: w93 :: [])), (a2, .inl (ca2, 1560, .inl (f_1))), (a31, .inl (ca31, 4000, .inl (g2))), (a3, .inl (ca3, 130, .inl (f_2))), (a4, .inl (ca4, 130, .inl (f_3))), (a5, .inl (ca5, 130, .inl (f_8))), (a6, .inl (ca6, 130, .inl (f_5))), (a7, .inl (ca7, 130, .inl (f_6))), (a8, .inl (ca8, 130, .inl (f_7)))] t.heap ∧ va_K (dC, dI) vwCl [(ca2, .int), (ca31, .int), (ca3, .int), (ca4, .int), (ca5, .int), (ca6, .int), (ca7, .int), (ca8, .int)] t ∧ va_D (va_A [(h0, .inr (12, w0 :: .int 1 :: .ref a2 :: .ref a3 :: .ref a4 :: .ref a5 :: .ref a6 :: .ref a7 :: .ref a8 :: w9 :: w10 :: w11 :: w12 :: w13 :: w14 :: w15 :: w16 :: w17 :: w18 :: w19 :: w20 :: w21 :: w22 :: w23 :: w24 :: w25 :: w26 :: w27 :: w28 :: w29 :: w30 :: .ref a31 :: w32 :: w33 :: w34 :: w35 :: w36 :: w37 :: w38 :: w39 :: w40 :: w41 :: w42 :: w43 :: w44 :: w45 :: w46 :: w47 :: w48 :: w49 :: w50 :: w51 :: w52 :: w53 :: w54 :: w55 :: w56 :: w57 :: w58 :: w59 :: w60 :: w61 :: w62 :: w63 :: w64 :: w65 :: w66 :: w67 :: w68 :: w69 :: w70 :: w71 :: w72 :: w73 :: w74 :: w75 :: w76 :: w77 :: w78 :: w79 :: w80 :: w81 :: w82 :: w83 :: w84 :: w85 :: w86 :: w87 :: w88 :: w89 :: w90 :: w91 :: w92 :: w93 :: [])), (a2, .inl (ca2, 1560, .inl (ga2))), (a31, .inl (ca31, 4000, .inl (ga31))), (a3, .inl (ca3, 130, .inl (ga3))), (a4, .inl (ca4, 130, .inl (ga4))), (a5, .inl (ca5, 130, .inl (ga5))), (a6, .inl (ca6, 130, .inl (ga6))), (a7, .inl (ca7, 130, .inl (ga7))), (a8, .inl (ca8, 130, .inl (ga8)))] sz) [(h0, .inr (12, w0 :: .int 2 :: .ref a2 :: .ref a3 :: .ref a4 :: .ref a5 :: .ref a6 :: .ref a7 :: .ref a8 :: w9 :: w10 :: w11 :: w12 :: w13 :: w14 :: w15 :: w16 :: w17 :: w18 :: w19 :: w20 :: w21 :: w22 :: w23 :: w24 :: w25 :: w26 :: w27 :: w28 :: w29 :: w30 :: .ref a31 :: w32 :: w33 :: w34 :: w35 :: w36 :: w37 :: w38 :: w39 :: w40 :: w41 :: w42 :: w43 :: w44 :: w45 :: w46 :: w47 :: w48 :: w49 :: w50 :: w51 :: w52 :: w53 :: w54 :: w55 :: w56 :: w57 :: w58 :: w59 :: w60 :: w61 :: w62 :: w63 :: w64 :: w65 :: w66 :: w67 :: w68 :: w69 :: w70 :: w71 :: w72 :: w73 :: w74 :: w75 :: w76 :: w77 :: w78 :: w79 :: w80 :: w81 :: w82 :: w83 :: w84 :: w85 :: w86 :: w87 :: w88 :: w89 :: w90 :: w91 :: w92 :: w93 :: [])), (a2, .inl (ca2, 1560, .inl (f_1))), (a31, .inl (ca31, 4000, .inl (g2))), (a3, .inl (ca3, 130, .inl (f_2))), (a4, .inl (ca4, 130, .inl (f_3))), (a5, .inl (ca5, 130, .inl (f_8))), (a6, .inl (ca6, 130, .inl (f_5))), (a7, .inl (ca7, 130, .inl (f_6))), (a8, .inl (ca8, 130, .inl (f_7)))]) (va_A [(h0, .inr (12, w0 :: .int 1 :: .ref a2 :: .ref a3 :: .ref a4 :: .ref a5 :: .ref a6 :: .ref a7 :: .ref a8 :: w9 :: w10 :: w11 :: w12 :: w13 :: w14 :: w15 :: w16 :: w17 :: w18 :: w19 :: w20 :: w21 :: w22 :: w23 :: w24 :: w25 :: w26 :: w27 :: w28 :: w29 :: w30 :: .ref a31 :: w32 :: w33 :: w34 :: w35 :: w36 :: w37 :: w38 :: w39 :: w40 :: w41 :: w42 :: w43 :: w44 :: w45 :: w46 :: w47 :: w48 :: w49 :: w50 :: w51 :: w52 :: w53 :: w54 :: w55 :: w56 :: w57 :: w58 :: w59 :: w60 :: w61 :: w62 :: w63 :: w64 :: w65 :: w66 :: w67 :: w68 :: w69 :: w70 :: w71 :: w72 :: w73 :: w74 :: w75 :: w76 :: w77 :: w78 :: w79 :: w80 :: w81 :: w82 :: w83 :: w84 :: w85 :: w86 :: w87 :: w88 :: w89 :: w90 :: w91 :: w92 :: w93 :: [])), (a2, .inl (ca2, 1560, .inl (ga2))), (a31, .inl (ca31, 4000, .inl (ga31))), (a3, .inl (ca3, 130, .inl (ga3))), (a4, .inl (ca4, 130, .inl (ga4))), (a5, .inl (ca5, 130, .inl (ga5))), (a6, .inl (ca6, 130, .inl (ga6))), (a7, .inl (ca7, 130, .inl (ga7))), (a8, .inl (ca8, 130, .inl (ga8)))] sz)) (0) (0) (va_A [(h0, .inr (12, w0 :: .int 1 :: .ref a2 :: .ref a3 :: .ref a4 :: .ref a5 :: .ref a6 :: .ref a7 :: .ref a8 :: w9 :: w10 :: w11 :: w12 :: w13 :: w14 :: w15 :: w16 :: w17 :: w18 :: w19 :: w20 :: w21 :: w22 :: w23 :: w24 :: w25 :: w26 :: w27 :: w28 :: w29 :: w30 :: .ref a31 :: w32 :: w33 :: w34 :: w35 :: w36 :: w37 :: w38 :: w39 :: w40 :: w41 :: w42 :: w43 :: w44 :: w45 :: w46 :: w47 :: w48 :: w49 :: w50 :: w51 :: w52 :: w53 :: w54 :: w55 :: w56 :: w57 :: w58 :: w59 :: w60 :: w61 :: w62 :: w63 :: w64 :: w65 :: w66 :: w67 :: w68 :: w69 :: w70 :: w71 :: w72 :: w73 :: w74 :: w75 :: w76 :: w77 :: w78 :: w79 :: w80 :: w81 :: w82 :: w83 :: w84 :: w85 :: w86 :: w87 :: w88 :: w89 :: w90 :: w91 :: w92 :: w93 :: [])), (a2, .inl (ca2, 1560, .inl (ga2))), (a31, .inl (ca31, 4000, .inl (ga31))), (a3, .inl (ca3, 130, .inl (ga3))), (a4, .inl (ca4, 130, .inl (ga4))), (a5, .inl (ca5, 130, .inl (ga5))), (a6, .inl (ca6, 130, .inl (ga6))), (a7, .inl (ca7, 130, .inl (ga7))), (a8, .inl (ca8, 130, .inl (ga8)))] sz) := by
  refine Met.ofW (cc := cX12_known) (maxL := 4) (ret := none) (by decide) rfl ?_
  intro p e s m args below meth c s₁ B hml hv
  obtain ⟨rfl, hsz, hP, hK, hD0, hst⟩ := hv
  have hx := B.exec
  have hb := B.bytes
  have hr := B.returns
  have hts := atoms_spec (ws := wsX12_known) B.pre
  have hown : s.vm.findClass RX12 = some m.cls := findClass_of_methodNamed B.named
  have hlocks := B.notSynchronized
  subst hsz
  have hD := hD0.self (sz := s.heap.size)
  generalize hAe : va_A [(h0, .inr (12, w0 :: .int 1 :: .ref a2 :: .ref a3 :: .ref a4 :: .ref a5 :: .ref a6 :: .ref a7 :: .ref a8 :: w9 :: w10 :: w11 :: w12 :: w13 :: w14 :: w15 :: w16 :: w17 :: w18 :: w19 :: w20 :: w21 :: w22 :: w23 :: w24 :: w25 :: w26 :: w27 :: w28 :: w29 :: w30 :: .ref a31 :: w32 :: w33 :: w34 :: w35 :: w36 :: w37 :: w38 :: w39 :: w40 :: w41 :: w42 :: w43 :: w44 :: w45 :: w46 :: w47 :: w48 :: w49 :: w50 :: w51 :: w52 :: w53 :: w54 :: w55 :: w56 :: w57 :: w58 :: w59 :: w60 :: w61 :: w62 :: w63 :: w64 :: w65 :: w66 :: w67 :: w68 :: w69 :: w70 :: w71 :: w72 :: w73 :: w74 :: w75 :: w76 :: w77 :: w78 :: w79 :: w80 :: w81 :: w82 :: w83 :: w84 :: w85 :: w86 :: w87 :: w88 :: w89 :: w90 :: w91 :: w92 :: w93 :: [])), (a2, .inl (ca2, 1560, .inl (ga2))), (a31, .inl (ca31, 4000, .inl (ga31))), (a3, .inl (ca3, 130, .inl (ga3))), (a4, .inl (ca4, 130, .inl (ga4))), (a5, .inl (ca5, 130, .inl (ga5))), (a6, .inl (ca6, 130, .inl (ga6))), (a7, .inl (ca7, 130, .inl (ga7))), (a8, .inl (ca8, 130, .inl (ga8)))] s.heap.size = A at hD hst ⊢
  have hA : ∀ q : Nat, s.heap.size ≤ q → A q := fun q h => by rw [← hAe]; exact Or.inr h
  have hS : va_S A s.heap s.heap [] := va_S.rf
  have hl := lv_entry ([.ref h0, .ref b, .ref a5]) (n := 4) (Nat.le_of_ble_eq_true rfl)
  rw [lg_entry_eq]
  generalize (lg_sl ([.ref h0, .ref b, .ref a5]) ++ List.replicate (4 - (lg_sl ([.ref h0, .ref b, .ref a5])).length) Slot.unset).toArray = ls at hl ⊢
  have hl : lv_has ls 4 [(0, .ref h0), (1, .ref b), (2, .ref a5)] := hl
  refine lv_iconst (v := 0) hx hb dX12_known_0 (by decide) ?_
  refine lv_istore_n (lv' := [(3, .int 0), (0, .ref h0), (1, .ref b), (2, .ref a5)]) hx hb dX12_known_1 rfl hl (by decide) rfl (fun ls hl => ?_)
  refine lp_known_1 hn hx hb hml hown hts hA hst hK (fun g2 i H locs ls hP hD hS hl => ?_) n 0 (by omega) _ _ _ ls hP hD hS (lv_sub hl [1, 2, 3, 0] rfl)
  refine lv_aload_n hx hb dX12_known_27 rfl (lv_at hl 0 rfl) ?_
  refine lv_iconst (v := 0) hx hb dX12_known_28 (by decide) ?_
  refine lv_aload_n hx hb dX12_known_29 rfl (lv_at hl 1 rfl) ?_
  have hPc := hP.sub (ws' := []) [] rfl
  have hDc := hD.sub (ws' := []) [] (by decide) rfl
  have hKc := hK.sub (tys' := []) [] rfl
  have hFc := va_free (wc := []) hD hS hA [] rfl
  refine va_calli (va_runV (As := []) (rest := [.int 0, .ref h0]) ⟨hx, hb, hml, hown, hts⟩ (c_length l dC dI H.size b v n f) (cwV 0 hts gX12_known_J0_length_8abf5 rfl rfl rfl (by decide +kernel) ⟨Nat.le_of_ble_eq_true rfl, Nat.le_of_ble_eq_true rfl⟩) ⟨fun a U g mk q => by obtain ⟨q0, q1, qP, qK, qD, qE0⟩ := q; exact ⟨q0, q1, qP, va_K.moved (u := U) (U := U.calling g mk a) (Vm.Alike.refl U.vm) qK, qD, st_S.moved (u := U) (U := U.calling g mk a) (Vm.Alike.refl U.vm) qE0⟩, hst.recv hS, fun U hU hW => ⟨rfl, by rw [hU], by rw [hU]; exact hPc, va_K.moved hW.alike hKc, hDc.weaken (fun _ _ _ _ => trivial), by rw [hU]; exact st_S.moved hW.alike ((hst.kept hS.2.1).narrow hFc)⟩⟩ rfl rfl hl.1 rfl (lv_room (Nat.le_of_ble_eq_true rfl)) dX12_known_30 ⟨(show 0 + 0 ≤ 0 by omega), (show 0 + 0 ≤ 0 by omega)⟩) hS (fun q _ h => hFc q h) hFc (fun r0 u t H1 locs ht hvm hw hB hz1 hk1 hS => ?_)
  obtain ⟨hP1, hK1, hD1⟩ := hB
  rw [ht] at hP1
  have hK1 := va_K.moved hvm.symm hK1
  obtain ⟨hP, hD⟩ := va_join (wr := [(h0, .inr (12, w0 :: .int 1 :: .ref a2 :: .ref a3 :: .ref a4 :: .ref a5 :: .ref a6 :: .ref a7 :: .ref a8 :: w9 :: w10 :: w11 :: w12 :: w13 :: w14 :: w15 :: w16 :: w17 :: w18 :: w19 :: w20 :: w21 :: w22 :: w23 :: w24 :: w25 :: w26 :: w27 :: w28 :: w29 :: w30 :: .ref a31 :: w32 :: w33 :: w34 :: w35 :: w36 :: w37 :: w38 :: w39 :: w40 :: w41 :: w42 :: w43 :: w44 :: w45 :: w46 :: w47 :: w48 :: w49 :: w50 :: w51 :: w52 :: w53 :: w54 :: w55 :: w56 :: w57 :: w58 :: w59 :: w60 :: w61 :: w62 :: w63 :: w64 :: w65 :: w66 :: w67 :: w68 :: w69 :: w70 :: w71 :: w72 :: w73 :: w74 :: w75 :: w76 :: w77 :: w78 :: w79 :: w80 :: w81 :: w82 :: w83 :: w84 :: w85 :: w86 :: w87 :: w88 :: w89 :: w90 :: w91 :: w92 :: w93 :: [])), (a2, .inl (ca2, 1560, .inl (ga2))), (a31, .inl (ca31, 4000, .inl (g2))), (a3, .inl (ca3, 130, .inl (ga3))), (a4, .inl (ca4, 130, .inl (ga4))), (a5, .inl (ca5, 130, .inl (ga5))), (a6, .inl (ca6, 130, .inl (ga6))), (a7, .inl (ca7, 130, .inl (ga7))), (a8, .inl (ca8, 130, .inl (ga8)))]) (w1 := []) hP hD [] [0, 1, 2, 3, 4, 5, 6, 7, 8] rfl rfl (by decide) (by decide) hk1 hFc hP1 hD1
  have hK := (hK.sub (tys' := [(ca2, .int), (ca31, .int), (ca3, .int), (ca4, .int), (ca5, .int), (ca6, .int), (ca7, .int), (ca8, .int)]) [0, 1, 2, 3, 4, 5, 6, 7] rfl).app hK1
  generalize H1 = H at hP hS ⊢
  have hP : va_P (dC, dI) vwCl [(h0, .inr (12, w0 :: .int 1 :: .ref a2 :: .ref a3 :: .ref a4 :: .ref a5 :: .ref a6 :: .ref a7 :: .ref a8 :: w9 :: w10 :: w11 :: w12 :: w13 :: w14 :: w15 :: w16 :: w17 :: w18 :: w19 :: w20 :: w21 :: w22 :: w23 :: w24 :: w25 :: w26 :: w27 :: w28 :: w29 :: w30 :: .ref a31 :: w32 :: w33 :: w34 :: w35 :: w36 :: w37 :: w38 :: w39 :: w40 :: w41 :: w42 :: w43 :: w44 :: w45 :: w46 :: w47 :: w48 :: w49 :: w50 :: w51 :: w52 :: w53 :: w54 :: w55 :: w56 :: w57 :: w58 :: w59 :: w60 :: w61 :: w62 :: w63 :: w64 :: w65 :: w66 :: w67 :: w68 :: w69 :: w70 :: w71 :: w72 :: w73 :: w74 :: w75 :: w76 :: w77 :: w78 :: w79 :: w80 :: w81 :: w82 :: w83 :: w84 :: w85 :: w86 :: w87 :: w88 :: w89 :: w90 :: w91 :: w92 :: w93 :: [])), (a2, .inl (ca2, 1560, .inl (ga2))), (a31, .inl (ca31, 4000, .inl (g2))), (a3, .inl (ca3, 130, .inl (ga3))), (a4, .inl (ca4, 130, .inl (ga4))), (a5, .inl (ca5, 130, .inl (ga5))), (a6, .inl (ca6, 130, .inl (ga6))), (a7, .inl (ca7, 130, .inl (ga7))), (a8, .inl (ca8, 130, .inl (ga8)))] H := hP
  have hD : va_D A [(h0, .inr (12, w0 :: .int 1 :: .ref a2 :: .ref a3 :: .ref a4 :: .ref a5 :: .ref a6 :: .ref a7 :: .ref a8 :: w9 :: w10 :: w11 :: w12 :: w13 :: w14 :: w15 :: w16 :: w17 :: w18 :: w19 :: w20 :: w21 :: w22 :: w23 :: w24 :: w25 :: w26 :: w27 :: w28 :: w29 :: w30 :: .ref a31 :: w32 :: w33 :: w34 :: w35 :: w36 :: w37 :: w38 :: w39 :: w40 :: w41 :: w42 :: w43 :: w44 :: w45 :: w46 :: w47 :: w48 :: w49 :: w50 :: w51 :: w52 :: w53 :: w54 :: w55 :: w56 :: w57 :: w58 :: w59 :: w60 :: w61 :: w62 :: w63 :: w64 :: w65 :: w66 :: w67 :: w68 :: w69 :: w70 :: w71 :: w72 :: w73 :: w74 :: w75 :: w76 :: w77 :: w78 :: w79 :: w80 :: w81 :: w82 :: w83 :: w84 :: w85 :: w86 :: w87 :: w88 :: w89 :: w90 :: w91 :: w92 :: w93 :: [])), (a2, .inl (ca2, 1560, .inl (ga2))), (a31, .inl (ca31, 4000, .inl (g2))), (a3, .inl (ca3, 130, .inl (ga3))), (a4, .inl (ca4, 130, .inl (ga4))), (a5, .inl (ca5, 130, .inl (ga5))), (a6, .inl (ca6, 130, .inl (ga6))), (a7, .inl (ca7, 130, .inl (ga7))), (a8, .inl (ca8, 130, .inl (ga8)))] := hD
  have hK : va_K (dC, dI) vwCl [(ca2, .int), (ca31, .int), (ca3, .int), (ca4, .int), (ca5, .int), (ca6, .int), (ca7, .int), (ca8, .int)] s := hK
  refine W.widen (k := 0) (n := 0) (by omega) (by omega) ?_
  subst hw
  have hPc := hP.sub (ws' := [(h0, .inr (12, w0 :: .int 1 :: .ref a2 :: .ref a3 :: .ref a4 :: .ref a5 :: .ref a6 :: .ref a7 :: .ref a8 :: w9 :: w10 :: w11 :: w12 :: w13 :: w14 :: w15 :: w16 :: w17 :: w18 :: w19 :: w20 :: w21 :: w22 :: w23 :: w24 :: w25 :: w26 :: w27 :: w28 :: w29 :: w30 :: .ref a31 :: w32 :: w33 :: w34 :: w35 :: w36 :: w37 :: w38 :: w39 :: w40 :: w41 :: w42 :: w43 :: w44 :: w45 :: w46 :: w47 :: w48 :: w49 :: w50 :: w51 :: w52 :: w53 :: w54 :: w55 :: w56 :: w57 :: w58 :: w59 :: w60 :: w61 :: w62 :: w63 :: w64 :: w65 :: w66 :: w67 :: w68 :: w69 :: w70 :: w71 :: w72 :: w73 :: w74 :: w75 :: w76 :: w77 :: w78 :: w79 :: w80 :: w81 :: w82 :: w83 :: w84 :: w85 :: w86 :: w87 :: w88 :: w89 :: w90 :: w91 :: w92 :: w93 :: [])), (a2, .inl (ca2, 1560, .inl (ga2))), (a31, .inl (ca31, 4000, .inl (g2))), (a3, .inl (ca3, 130, .inl (ga3))), (a4, .inl (ca4, 130, .inl (ga4))), (a5, .inl (ca5, 130, .inl (ga5))), (a6, .inl (ca6, 130, .inl (ga6))), (a7, .inl (ca7, 130, .inl (ga7))), (a8, .inl (ca8, 130, .inl (ga8)))]) [0, 1, 2, 3, 4, 5, 6, 7, 8] rfl
  have hDc := hD.sub (ws' := [(h0, .inr (12, w0 :: .int 1 :: .ref a2 :: .ref a3 :: .ref a4 :: .ref a5 :: .ref a6 :: .ref a7 :: .ref a8 :: w9 :: w10 :: w11 :: w12 :: w13 :: w14 :: w15 :: w16 :: w17 :: w18 :: w19 :: w20 :: w21 :: w22 :: w23 :: w24 :: w25 :: w26 :: w27 :: w28 :: w29 :: w30 :: .ref a31 :: w32 :: w33 :: w34 :: w35 :: w36 :: w37 :: w38 :: w39 :: w40 :: w41 :: w42 :: w43 :: w44 :: w45 :: w46 :: w47 :: w48 :: w49 :: w50 :: w51 :: w52 :: w53 :: w54 :: w55 :: w56 :: w57 :: w58 :: w59 :: w60 :: w61 :: w62 :: w63 :: w64 :: w65 :: w66 :: w67 :: w68 :: w69 :: w70 :: w71 :: w72 :: w73 :: w74 :: w75 :: w76 :: w77 :: w78 :: w79 :: w80 :: w81 :: w82 :: w83 :: w84 :: w85 :: w86 :: w87 :: w88 :: w89 :: w90 :: w91 :: w92 :: w93 :: [])), (a2, .inl (ca2, 1560, .inl (ga2))), (a31, .inl (ca31, 4000, .inl (g2))), (a3, .inl (ca3, 130, .inl (ga3))), (a4, .inl (ca4, 130, .inl (ga4))), (a5, .inl (ca5, 130, .inl (ga5))), (a6, .inl (ca6, 130, .inl (ga6))), (a7, .inl (ca7, 130, .inl (ga7))), (a8, .inl (ca8, 130, .inl (ga8)))]) [0, 1, 2, 3, 4, 5, 6, 7, 8] (by decide) rfl
  have hKc := hK.sub (tys' := [(ca2, .int), (ca31, .int), (ca3, .int), (ca4, .int), (ca5, .int), (ca6, .int), (ca7, .int), (ca8, .int)]) [0, 1, 2, 3, 4, 5, 6, 7] rfl
  have hFc := va_free (wc := [(h0, .inr (12, w0 :: .int 1 :: .ref a2 :: .ref a3 :: .ref a4 :: .ref a5 :: .ref a6 :: .ref a7 :: .ref a8 :: w9 :: w10 :: w11 :: w12 :: w13 :: w14 :: w15 :: w16 :: w17 :: w18 :: w19 :: w20 :: w21 :: w22 :: w23 :: w24 :: w25 :: w26 :: w27 :: w28 :: w29 :: w30 :: .ref a31 :: w32 :: w33 :: w34 :: w35 :: w36 :: w37 :: w38 :: w39 :: w40 :: w41 :: w42 :: w43 :: w44 :: w45 :: w46 :: w47 :: w48 :: w49 :: w50 :: w51 :: w52 :: w53 :: w54 :: w55 :: w56 :: w57 :: w58 :: w59 :: w60 :: w61 :: w62 :: w63 :: w64 :: w65 :: w66 :: w67 :: w68 :: w69 :: w70 :: w71 :: w72 :: w73 :: w74 :: w75 :: w76 :: w77 :: w78 :: w79 :: w80 :: w81 :: w82 :: w83 :: w84 :: w85 :: w86 :: w87 :: w88 :: w89 :: w90 :: w91 :: w92 :: w93 :: [])), (a2, .inl (ca2, 1560, .inl (ga2))), (a31, .inl (ca31, 4000, .inl (g2))), (a3, .inl (ca3, 130, .inl (ga3))), (a4, .inl (ca4, 130, .inl (ga4))), (a5, .inl (ca5, 130, .inl (ga5))), (a6, .inl (ca6, 130, .inl (ga6))), (a7, .inl (ca7, 130, .inl (ga7))), (a8, .inl (ca8, 130, .inl (ga8)))]) hD hS hA [0, 1, 2, 3, 4, 5, 6, 7, 8] rfl
  refine va_calli (va_runV (As := [.int 0, .int (nI n)]) (rest := []) ⟨hx, hb, hml, hown, hts⟩ (c_newName_1 l dC dI H.size h0 a2 a31 a3 a4 a5 a6 a7 a8 n ca2 ca31 ca3 ca4 ca5 ca6 ca7 ca8 ga2 g2 ga3 ga4 ga5 ga6 ga7 ga8 w0 w9 w10 w11 w12 w13 w14 w15 w16 w17 w18 w19 w20 w21 w22 w23 w24 w25 w26 w27 w28 w29 w30 w32 w33 w34 w35 w36 w37 w38 w39 w40 w41 w42 w43 w44 w45 w46 w47 w48 w49 w50 w51 w52 w53 w54 w55 w56 w57 w58 w59 w60 w61 w62 w63 w64 w65 w66 w67 w68 w69 w70 w71 w72 w73 w74 w75 w76 w77 w78 w79 w80 w81 w82 w83 w84 w85 w86 w87 w88 w89 w90 w91 w92 w93 hn) (cwV 2 hts gX12_known_X12_newName rfl rfl rfl (by decide +kernel) ⟨Nat.le_of_ble_eq_true rfl, Nat.le_of_ble_eq_true rfl⟩) ⟨fun a U g mk q => by obtain ⟨q0, q1, qP, qK, qD⟩ := q; exact ⟨q0, q1, qP, va_K.moved (u := U) (U := U.calling g mk a) (Vm.Alike.refl U.vm) qK, qD⟩, va_recv hKc hPc (ci := 12) (q0 := 0) rfl rfl, fun U hU hW => ⟨rfl, by rw [hU], by rw [hU]; exact hPc, va_K.moved hW.alike hKc, hDc.weaken (fun _ _ _ _ => trivial)⟩⟩ rfl rfl hl.1 rfl (lv_room (Nat.le_of_ble_eq_true rfl)) dX12_known_33 ⟨(show 0 + 0 ≤ 0 by omega), (show 0 + 0 ≤ 0 by omega)⟩) hS (fun q _ h => hFc q h) hFc (fun r2 u t H1 locs ht hvm hw hB hz1 hk1 hS => ?_)
  obtain ⟨f_1, f_2, f_3, f_4, f_5, f_6, f_7, hP1, hK1, hD1⟩ := hB
  rw [ht] at hP1
  have hK1 := va_K.moved hvm.symm hK1
  obtain ⟨hP, hD⟩ := va_join (wr := []) (w1 := [(h0, .inr (12, w0 :: .int 2 :: .ref a2 :: .ref a3 :: .ref a4 :: .ref a5 :: .ref a6 :: .ref a7 :: .ref a8 :: w9 :: w10 :: w11 :: w12 :: w13 :: w14 :: w15 :: w16 :: w17 :: w18 :: w19 :: w20 :: w21 :: w22 :: w23 :: w24 :: w25 :: w26 :: w27 :: w28 :: w29 :: w30 :: .ref a31 :: w32 :: w33 :: w34 :: w35 :: w36 :: w37 :: w38 :: w39 :: w40 :: w41 :: w42 :: w43 :: w44 :: w45 :: w46 :: w47 :: w48 :: w49 :: w50 :: w51 :: w52 :: w53 :: w54 :: w55 :: w56 :: w57 :: w58 :: w59 :: w60 :: w61 :: w62 :: w63 :: w64 :: w65 :: w66 :: w67 :: w68 :: w69 :: w70 :: w71 :: w72 :: w73 :: w74 :: w75 :: w76 :: w77 :: w78 :: w79 :: w80 :: w81 :: w82 :: w83 :: w84 :: w85 :: w86 :: w87 :: w88 :: w89 :: w90 :: w91 :: w92 :: w93 :: [])), (a2, .inl (ca2, 1560, .inl (f_1))), (a31, .inl (ca31, 4000, .inl (g2))), (a3, .inl (ca3, 130, .inl (f_2))), (a4, .inl (ca4, 130, .inl (f_3))), (a5, .inl (ca5, 130, .inl (f_4))), (a6, .inl (ca6, 130, .inl (f_5))), (a7, .inl (ca7, 130, .inl (f_6))), (a8, .inl (ca8, 130, .inl (f_7)))]) hP hD [0, 1, 2, 3, 4, 5, 6, 7, 8] [] rfl rfl (by decide) (by decide) hk1 hFc hP1 hD1
  have hK := (hK.sub (tys' := [(ca2, .int), (ca31, .int), (ca3, .int), (ca4, .int), (ca5, .int), (ca6, .int), (ca7, .int), (ca8, .int)]) [0, 1, 2, 3, 4, 5, 6, 7] rfl).app hK1
  generalize H1 = H at hP hS ⊢
  have hP : va_P (dC, dI) vwCl [(h0, .inr (12, w0 :: .int 2 :: .ref a2 :: .ref a3 :: .ref a4 :: .ref a5 :: .ref a6 :: .ref a7 :: .ref a8 :: w9 :: w10 :: w11 :: w12 :: w13 :: w14 :: w15 :: w16 :: w17 :: w18 :: w19 :: w20 :: w21 :: w22 :: w23 :: w24 :: w25 :: w26 :: w27 :: w28 :: w29 :: w30 :: .ref a31 :: w32 :: w33 :: w34 :: w35 :: w36 :: w37 :: w38 :: w39 :: w40 :: w41 :: w42 :: w43 :: w44 :: w45 :: w46 :: w47 :: w48 :: w49 :: w50 :: w51 :: w52 :: w53 :: w54 :: w55 :: w56 :: w57 :: w58 :: w59 :: w60 :: w61 :: w62 :: w63 :: w64 :: w65 :: w66 :: w67 :: w68 :: w69 :: w70 :: w71 :: w72 :: w73 :: w74 :: w75 :: w76 :: w77 :: w78 :: w79 :: w80 :: w81 :: w82 :: w83 :: w84 :: w85 :: w86 :: w87 :: w88 :: w89 :: w90 :: w91 :: w92 :: w93 :: [])), (a2, .inl (ca2, 1560, .inl (f_1))), (a31, .inl (ca31, 4000, .inl (g2))), (a3, .inl (ca3, 130, .inl (f_2))), (a4, .inl (ca4, 130, .inl (f_3))), (a5, .inl (ca5, 130, .inl (f_4))), (a6, .inl (ca6, 130, .inl (f_5))), (a7, .inl (ca7, 130, .inl (f_6))), (a8, .inl (ca8, 130, .inl (f_7)))] H := hP
  have hD : va_D A [(h0, .inr (12, w0 :: .int 2 :: .ref a2 :: .ref a3 :: .ref a4 :: .ref a5 :: .ref a6 :: .ref a7 :: .ref a8 :: w9 :: w10 :: w11 :: w12 :: w13 :: w14 :: w15 :: w16 :: w17 :: w18 :: w19 :: w20 :: w21 :: w22 :: w23 :: w24 :: w25 :: w26 :: w27 :: w28 :: w29 :: w30 :: .ref a31 :: w32 :: w33 :: w34 :: w35 :: w36 :: w37 :: w38 :: w39 :: w40 :: w41 :: w42 :: w43 :: w44 :: w45 :: w46 :: w47 :: w48 :: w49 :: w50 :: w51 :: w52 :: w53 :: w54 :: w55 :: w56 :: w57 :: w58 :: w59 :: w60 :: w61 :: w62 :: w63 :: w64 :: w65 :: w66 :: w67 :: w68 :: w69 :: w70 :: w71 :: w72 :: w73 :: w74 :: w75 :: w76 :: w77 :: w78 :: w79 :: w80 :: w81 :: w82 :: w83 :: w84 :: w85 :: w86 :: w87 :: w88 :: w89 :: w90 :: w91 :: w92 :: w93 :: [])), (a2, .inl (ca2, 1560, .inl (f_1))), (a31, .inl (ca31, 4000, .inl (g2))), (a3, .inl (ca3, 130, .inl (f_2))), (a4, .inl (ca4, 130, .inl (f_3))), (a5, .inl (ca5, 130, .inl (f_4))), (a6, .inl (ca6, 130, .inl (f_5))), (a7, .inl (ca7, 130, .inl (f_6))), (a8, .inl (ca8, 130, .inl (f_7)))] := hD
  have hK : va_K (dC, dI) vwCl [(ca2, .int), (ca31, .int), (ca3, .int), (ca4, .int), (ca5, .int), (ca6, .int), (ca7, .int), (ca8, .int), (ca2, .int), (ca31, .int), (ca3, .int), (ca4, .int), (ca5, .int), (ca6, .int), (ca7, .int), (ca8, .int)] s := hK
  refine W.widen (k := 0) (n := 0) (by omega) (by omega) ?_
  subst hw
  refine lv_istore_n (lv' := [(3, .int 1), (0, .ref h0), (1, .ref b), (2, .ref a5)]) hx hb dX12_known_36 rfl hl (by decide) rfl (fun ls hl => ?_)
  refine lv_aload_n hx hb dX12_known_37 rfl (lv_at hl 3 rfl) ?_
  refine lv_iload_n hx hb dX12_known_38 rfl (lv_at hl 0 rfl) ?_
  refine lv_iconst (v := 0) hx hb dX12_known_39 (by decide) ?_
  refine va_iast hx hb hK hP hD hS 5 4 rfl rfl (show vp_in (1) 130 from by unfold vp_in; decide) dX12_known_40 (fun H locs hP hD hS => ?_)
  obtain ⟨f_8, hP, hD⟩ : ∃ f9 : Nat → Int32, va_P (dC, dI) vwCl [(h0, .inr (12, w0 :: .int 2 :: .ref a2 :: .ref a3 :: .ref a4 :: .ref a5 :: .ref a6 :: .ref a7 :: .ref a8 :: w9 :: w10 :: w11 :: w12 :: w13 :: w14 :: w15 :: w16 :: w17 :: w18 :: w19 :: w20 :: w21 :: w22 :: w23 :: w24 :: w25 :: w26 :: w27 :: w28 :: w29 :: w30 :: .ref a31 :: w32 :: w33 :: w34 :: w35 :: w36 :: w37 :: w38 :: w39 :: w40 :: w41 :: w42 :: w43 :: w44 :: w45 :: w46 :: w47 :: w48 :: w49 :: w50 :: w51 :: w52 :: w53 :: w54 :: w55 :: w56 :: w57 :: w58 :: w59 :: w60 :: w61 :: w62 :: w63 :: w64 :: w65 :: w66 :: w67 :: w68 :: w69 :: w70 :: w71 :: w72 :: w73 :: w74 :: w75 :: w76 :: w77 :: w78 :: w79 :: w80 :: w81 :: w82 :: w83 :: w84 :: w85 :: w86 :: w87 :: w88 :: w89 :: w90 :: w91 :: w92 :: w93 :: [])), (a2, .inl (ca2, 1560, .inl (f_1))), (a31, .inl (ca31, 4000, .inl (g2))), (a3, .inl (ca3, 130, .inl (f_2))), (a4, .inl (ca4, 130, .inl (f_3))), (a5, .inl (ca5, 130, .inl (f9))), (a6, .inl (ca6, 130, .inl (f_5))), (a7, .inl (ca7, 130, .inl (f_6))), (a8, .inl (ca8, 130, .inl (f_7)))] H ∧ va_D A [(h0, .inr (12, w0 :: .int 2 :: .ref a2 :: .ref a3 :: .ref a4 :: .ref a5 :: .ref a6 :: .ref a7 :: .ref a8 :: w9 :: w10 :: w11 :: w12 :: w13 :: w14 :: w15 :: w16 :: w17 :: w18 :: w19 :: w20 :: w21 :: w22 :: w23 :: w24 :: w25 :: w26 :: w27 :: w28 :: w29 :: w30 :: .ref a31 :: w32 :: w33 :: w34 :: w35 :: w36 :: w37 :: w38 :: w39 :: w40 :: w41 :: w42 :: w43 :: w44 :: w45 :: w46 :: w47 :: w48 :: w49 :: w50 :: w51 :: w52 :: w53 :: w54 :: w55 :: w56 :: w57 :: w58 :: w59 :: w60 :: w61 :: w62 :: w63 :: w64 :: w65 :: w66 :: w67 :: w68 :: w69 :: w70 :: w71 :: w72 :: w73 :: w74 :: w75 :: w76 :: w77 :: w78 :: w79 :: w80 :: w81 :: w82 :: w83 :: w84 :: w85 :: w86 :: w87 :: w88 :: w89 :: w90 :: w91 :: w92 :: w93 :: [])), (a2, .inl (ca2, 1560, .inl (f_1))), (a31, .inl (ca31, 4000, .inl (g2))), (a3, .inl (ca3, 130, .inl (f_2))), (a4, .inl (ca4, 130, .inl (f_3))), (a5, .inl (ca5, 130, .inl (f9))), (a6, .inl (ca6, 130, .inl (f_5))), (a7, .inl (ca7, 130, .inl (f_6))), (a8, .inl (ca8, 130, .inl (f_7)))] := ⟨_, hP, hD⟩
  have hP9 := hP.sub (ws' := [(h0, .inr (12, w0 :: .int 2 :: .ref a2 :: .ref a3 :: .ref a4 :: .ref a5 :: .ref a6 :: .ref a7 :: .ref a8 :: w9 :: w10 :: w11 :: w12 :: w13 :: w14 :: w15 :: w16 :: w17 :: w18 :: w19 :: w20 :: w21 :: w22 :: w23 :: w24 :: w25 :: w26 :: w27 :: w28 :: w29 :: w30 :: .ref a31 :: w32 :: w33 :: w34 :: w35 :: w36 :: w37 :: w38 :: w39 :: w40 :: w41 :: w42 :: w43 :: w44 :: w45 :: w46 :: w47 :: w48 :: w49 :: w50 :: w51 :: w52 :: w53 :: w54 :: w55 :: w56 :: w57 :: w58 :: w59 :: w60 :: w61 :: w62 :: w63 :: w64 :: w65 :: w66 :: w67 :: w68 :: w69 :: w70 :: w71 :: w72 :: w73 :: w74 :: w75 :: w76 :: w77 :: w78 :: w79 :: w80 :: w81 :: w82 :: w83 :: w84 :: w85 :: w86 :: w87 :: w88 :: w89 :: w90 :: w91 :: w92 :: w93 :: [])), (a2, .inl (ca2, 1560, .inl (f_1))), (a31, .inl (ca31, 4000, .inl (g2))), (a3, .inl (ca3, 130, .inl (f_2))), (a4, .inl (ca4, 130, .inl (f_3))), (a5, .inl (ca5, 130, .inl (f_8))), (a6, .inl (ca6, 130, .inl (f_5))), (a7, .inl (ca7, 130, .inl (f_6))), (a8, .inl (ca8, 130, .inl (f_7)))]) [0, 1, 2, 3, 4, 5, 6, 7, 8] rfl
  have hD9 := hD.sub (ws' := [(h0, .inr (12, w0 :: .int 2 :: .ref a2 :: .ref a3 :: .ref a4 :: .ref a5 :: .ref a6 :: .ref a7 :: .ref a8 :: w9 :: w10 :: w11 :: w12 :: w13 :: w14 :: w15 :: w16 :: w17 :: w18 :: w19 :: w20 :: w21 :: w22 :: w23 :: w24 :: w25 :: w26 :: w27 :: w28 :: w29 :: w30 :: .ref a31 :: w32 :: w33 :: w34 :: w35 :: w36 :: w37 :: w38 :: w39 :: w40 :: w41 :: w42 :: w43 :: w44 :: w45 :: w46 :: w47 :: w48 :: w49 :: w50 :: w51 :: w52 :: w53 :: w54 :: w55 :: w56 :: w57 :: w58 :: w59 :: w60 :: w61 :: w62 :: w63 :: w64 :: w65 :: w66 :: w67 :: w68 :: w69 :: w70 :: w71 :: w72 :: w73 :: w74 :: w75 :: w76 :: w77 :: w78 :: w79 :: w80 :: w81 :: w82 :: w83 :: w84 :: w85 :: w86 :: w87 :: w88 :: w89 :: w90 :: w91 :: w92 :: w93 :: [])), (a2, .inl (ca2, 1560, .inl (f_1))), (a31, .inl (ca31, 4000, .inl (g2))), (a3, .inl (ca3, 130, .inl (f_2))), (a4, .inl (ca4, 130, .inl (f_3))), (a5, .inl (ca5, 130, .inl (f_8))), (a6, .inl (ca6, 130, .inl (f_5))), (a7, .inl (ca7, 130, .inl (f_6))), (a8, .inl (ca8, 130, .inl (f_7)))]) [0, 1, 2, 3, 4, 5, 6, 7, 8] (by decide) rfl
  have hK9 := hK.sub (tys' := [(ca2, .int), (ca31, .int), (ca3, .int), (ca4, .int), (ca5, .int), (ca6, .int), (ca7, .int), (ca8, .int)]) [0, 1, 2, 3, 4, 5, 6, 7] rfl
  refine W.widen (k := 0) (n := 0) (by omega) (by omega) ?_
  exact W.vret hx hb hr (fun t ht hW => ⟨⟨(), rfl, trivial, f_1, g2, f_2, f_3, f_8, f_5, f_6, f_7, by rw [ht]; exact hP9, va_K.moved hW.alike hK9, hD9⟩, hS.F ht⟩) hS.2.2 dX12_known_41
end
