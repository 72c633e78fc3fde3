theorem goodIn_r {big : List Cond} (ws : List Cond) (ps : List Nat) (hp : ws = ps.filterMap (fun i => big[i]?)) (h : ws.all goodWord = true) : GoodIn big ws := by
  intro w hw
  have h1 := List.all_eq_true.mp h w hw
  rw [hp] at hw
  obtain ⟨i, -, hi⟩ := List.mem_filterMap.mp hw
  have hm : w ∈ big := by first | exact List.mem_of_getElem? hi | exact List.getElem?_mem hi
  exact ⟨hm, good_of_word h1⟩
theorem goodIn_app {big a b : List Cond} (ha : GoodIn big a) (hb : GoodIn big b) : GoodIn big (a ++ b) := fun w h => (List.mem_append.mp h).elim (ha w) (hb w)
theorem goodIn_ca {big a b : List Cond} {c : Cond} (ha : GoodIn big (c :: a)) (hb : GoodIn big b) : GoodIn big (c :: (a ++ b)) := fun w h => (List.mem_cons.mp h).elim (fun e => ha w (List.mem_cons.mpr (Or.inl e))) (fun h => (List.mem_append.mp h).elim (fun h => ha w (List.mem_cons.mpr (Or.inr h))) (hb w))
theorem goodIn_sub {big ws : List Cond} (hm : ∀ w ∈ ws, w ∈ big) (h : ws.all goodWord = true) : GoodIn big ws := fun w hw => ⟨hm w hw, good_of_word (List.all_eq_true.mp h w hw)⟩
def RX0 : String := "ProofBench$Forms"
def TX0 : u_T := fun k => match k with
  | 0 => ("ProofBench$Forms", "names", "LProofBench$Names;", true)
  | 1 => ("ProofBench$Forms", "codes", "[I", true)
  | 2 => ("ProofBench$Forms", "ends", "[I", true)
  | 3 => ("ProofBench$Forms", "frees", "[I", true)
  | 4 => ("ProofBench$Forms", "length", "I", false)
  | 5 => ("ProofBench$Forms", "heights", "[I", true)
  | 6 => ("ProofBench$Forms", "lefts", "[I", true)
  | 7 => ("ProofBench$Forms", "rights", "[I", true)
  | _ => ("ProofBench$Forms", "needs", "[I", true)
def tyX0 : Nat → FieldType := fun k => match k with
  | 0 => .object "ProofBench$Names"
  | 1 => .array .int
  | 2 => .array .int
  | 3 => .array .int
  | 4 => .int
  | 5 => .array .int
  | 6 => .array .int
  | 7 => .array .int
  | _ => .array .int
abbrev wsX00 : List Cond := u_ws RX0 TX0 9
theorem nmX0 : ∀ a, a < 9 → ∀ b, b < 9 → a ≠ b → (TX0 a).2.1 ≠ (TX0 b).2.1 := by decide +kernel
theorem tyX0_ok : ∀ k, k < 9 → parseFieldDescriptor (TX0 k).2.2.1 = some (tyX0 k) := by decide +kernel
abbrev cX0_init : ByteArray := prog_2_method_1_code
def yX0_init : MethodName := ⟨RX0, "<init>", "(LProofBench$Names;)V"⟩
def RX1 : String := "ProofBench$Look"
def TX1 : u_T := fun k => match k with
  | 0 => ("ProofBench$Look", "tape", "LProofBench$Tape;", true)
  | 1 => ("ProofBench$Look", "names", "LProofBench$Names;", true)
  | 2 => ("ProofBench$Look", "model", "LProofBench$Model;", true)
  | 3 => ("ProofBench$Look", "first", "LProofBench$Row;", true)
  | 4 => ("ProofBench$Look", "second", "LProofBench$Row;", true)
  | 5 => ("ProofBench$Look", "values", "[I", true)
  | 6 => ("ProofBench$Look", "row", "[I", true)
  | 7 => ("ProofBench$Look", "rowLength", "I", false)
  | 8 => ("ProofBench$Look", "fresh", "J", false)
  | 9 => ("ProofBench$Look", "into", "LProofBench$Row;", false)
  | 10 => ("ProofBench$Look", "at", "I", false)
  | _ => ("ProofBench$Look", "things", "I", false)
def tyX1 : Nat → FieldType := fun k => match k with
  | 0 => .object "ProofBench$Tape"
  | 1 => .object "ProofBench$Names"
  | 2 => .object "ProofBench$Model"
  | 3 => .object "ProofBench$Row"
  | 4 => .object "ProofBench$Row"
  | 5 => .array .int
  | 6 => .array .int
  | 7 => .int
  | 8 => .long
  | 9 => .object "ProofBench$Row"
  | 10 => .int
  | _ => .int
abbrev wsX10 : List Cond := u_ws RX1 TX1 12
theorem nmX1 : ∀ a, a < 12 → ∀ b, b < 12 → a ≠ b → (TX1 a).2.1 ≠ (TX1 b).2.1 := by decide +kernel
theorem tyX1_ok : ∀ k, k < 12 → parseFieldDescriptor (TX1 k).2.2.1 = some (tyX1 k) := by decide +kernel
abbrev cX1_init : ByteArray := prog_3_method_1_code
def yX1_init : MethodName := ⟨RX1, "<init>", "(LProofBench$Tape;LProofBench$Names;LProofBench$Model;)V"⟩
def RX2 : String := "ProofBench$Model"
def TX2 : u_T := fun k => match k with
  | 0 => ("ProofBench$Model", "names", "LProofBench$Names;", true)
  | 1 => ("ProofBench$Model", "forms", "LProofBench$Forms;", true)
  | 2 => ("ProofBench$Model", "sizes", "[I", true)
  | 3 => ("ProofBench$Model", "tables", "[I", true)
  | 4 => ("ProofBench$Model", "things", "[I", true)
  | _ => ("ProofBench$Model", "zero", "I", false)
def tyX2 : Nat → FieldType := fun k => match k with
  | 0 => .object "ProofBench$Names"
  | 1 => .object "ProofBench$Forms"
  | 2 => .array .int
  | 3 => .array .int
  | 4 => .array .int
  | _ => .int
abbrev wsX20 : List Cond := u_ws RX2 TX2 6
theorem nmX2 : ∀ a, a < 6 → ∀ b, b < 6 → a ≠ b → (TX2 a).2.1 ≠ (TX2 b).2.1 := by decide +kernel
theorem tyX2_ok : ∀ k, k < 6 → parseFieldDescriptor (TX2 k).2.2.1 = some (tyX2 k) := by decide +kernel
abbrev cX2_init : ByteArray := prog_4_method_1_code
def yX2_init : MethodName := ⟨RX2, "<init>", "(LProofBench$Names;LProofBench$Forms;)V"⟩
def RX3 : String := "ProofBench$Names"
def TX3 : u_T := fun k => match k with
  | 0 => ("ProofBench$Names", "counts", "[I", true)
  | 1 => ("ProofBench$Names", "keys", "[J", true)
  | 2 => ("ProofBench$Names", "sorts", "[I", true)
  | 3 => ("ProofBench$Names", "arities", "[I", true)
  | _ => ("ProofBench$Names", "parts", "[I", true)
def tyX3 : Nat → FieldType := fun k => match k with
  | 0 => .array .int
  | 1 => .array .long
  | 2 => .array .int
  | 3 => .array .int
  | _ => .array .int
abbrev wsX30 : List Cond := u_ws RX3 TX3 5
theorem nmX3 : ∀ a, a < 5 → ∀ b, b < 5 → a ≠ b → (TX3 a).2.1 ≠ (TX3 b).2.1 := by decide +kernel
theorem tyX3_ok : ∀ k, k < 5 → parseFieldDescriptor (TX3 k).2.2.1 = some (tyX3 k) := by decide +kernel
def RX4 : String := "ProofBench$Out"
def TX4 : u_T := fun k => match k with
  | 0 => ("ProofBench$Out", "names", "LProofBench$Names;", true)
  | 1 => ("ProofBench$Out", "numbers", "[I", true)
  | 2 => ("ProofBench$Out", "lefts", "[I", true)
  | 3 => ("ProofBench$Out", "turned", "[I", true)
  | _ => ("ProofBench$Out", "count", "I", false)
def tyX4 : Nat → FieldType := fun k => match k with
  | 0 => .object "ProofBench$Names"
  | 1 => .array .int
  | 2 => .array .int
  | 3 => .array .int
  | _ => .int
abbrev wsX40 : List Cond := u_ws RX4 TX4 5
theorem nmX4 : ∀ a, a < 5 → ∀ b, b < 5 → a ≠ b → (TX4 a).2.1 ≠ (TX4 b).2.1 := by decide +kernel
theorem tyX4_ok : ∀ k, k < 5 → parseFieldDescriptor (TX4 k).2.2.1 = some (tyX4 k) := by decide +kernel
abbrev cX4_init : ByteArray := prog_6_method_1_code
def yX4_init : MethodName := ⟨RX4, "<init>", "(LProofBench$Names;)V"⟩
def RX5 : String := "ProofBench$Proof"
def TX5 : u_T := fun k => match k with
  | 0 => ("ProofBench$Proof", "names", "LProofBench$Names;", true)
  | 1 => ("ProofBench$Proof", "forms", "LProofBench$Forms;", true)
  | 2 => ("ProofBench$Proof", "look", "LProofBench$Look;", true)
  | 3 => ("ProofBench$Proof", "search", "LProofBench$Search;", true)
  | 4 => ("ProofBench$Proof", "steps", "[LProofBench$Step;", true)
  | 5 => ("ProofBench$Proof", "facts", "[LProofBench$Step;", true)
  | 6 => ("ProofBench$Proof", "named", "[LProofBench$Step;", true)
  | 7 => ("ProofBench$Proof", "nothing", "LProofBench$Step;", true)
  | 8 => ("ProofBench$Proof", "made", "LProofBench$Row;", true)
  | 9 => ("ProofBench$Proof", "other", "LProofBench$Row;", true)
  | 10 => ("ProofBench$Proof", "count", "I", false)
  | 11 => ("ProofBench$Proof", "called", "I", false)
  | 12 => ("ProofBench$Proof", "kept", "[LProofBench$Thing;", true)
  | 13 => ("ProofBench$Proof", "keptCount", "I", false)
  | 14 => ("ProofBench$Proof", "crowded", "Z", false)
  | 15 => ("ProofBench$Proof", "leaning", "J", false)
  | _ => ("ProofBench$Proof", "induced", "Z", false)
def tyX5 : Nat → FieldType := fun k => match k with
  | 0 => .object "ProofBench$Names"
  | 1 => .object "ProofBench$Forms"
  | 2 => .object "ProofBench$Look"
  | 3 => .object "ProofBench$Search"
  | 4 => .array (.object "ProofBench$Step")
  | 5 => .array (.object "ProofBench$Step")
  | 6 => .array (.object "ProofBench$Step")
  | 7 => .object "ProofBench$Step"
  | 8 => .object "ProofBench$Row"
  | 9 => .object "ProofBench$Row"
  | 10 => .int
  | 11 => .int
  | 12 => .array (.object "ProofBench$Thing")
  | 13 => .int
  | 14 => .boolean
  | 15 => .long
  | _ => .boolean
abbrev wsX50 : List Cond := u_ws RX5 TX5 17
theorem nmX5 : ∀ a, a < 17 → ∀ b, b < 17 → a ≠ b → (TX5 a).2.1 ≠ (TX5 b).2.1 := by decide +kernel
theorem tyX5_ok : ∀ k, k < 17 → parseFieldDescriptor (TX5 k).2.2.1 = some (tyX5 k) := by decide +kernel
abbrev cX5_init : ByteArray := prog_7_method_1_code
def yX5_init : MethodName := ⟨RX5, "<init>", "(LProofBench$Names;LProofBench$Forms;LProofBench$Look;)V"⟩
def RX6 : String := "ProofBench$Row"
def TX6 : u_T := fun k => match k with
  | 0 => ("ProofBench$Row", "codes", "[I", true)
  | _ => ("ProofBench$Row", "length", "I", false)
def tyX6 : Nat → FieldType := fun k => match k with
  | 0 => .array .int
  | _ => .int
abbrev wsX60 : List Cond := u_ws RX6 TX6 2
theorem nmX6 : ∀ a, a < 2 → ∀ b, b < 2 → a ≠ b → (TX6 a).2.1 ≠ (TX6 b).2.1 := by decide +kernel
theorem tyX6_ok : ∀ k, k < 2 → parseFieldDescriptor (TX6 k).2.2.1 = some (tyX6 k) := by decide +kernel
abbrev cX6_init : ByteArray := prog_8_method_1_code
def yX6_init : MethodName := ⟨RX6, "<init>", "(I)V"⟩
def RX7 : String := "ProofBench$Search"
def TX7 : u_T := fun k => match k with
  | 0 => ("ProofBench$Search", "forms", "LProofBench$Forms;", true)
  | 1 => ("ProofBench$Search", "letters", "[LProofBench$Row;", true)
  | 2 => ("ProofBench$Search", "count", "I", false)
  | 3 => ("ProofBench$Search", "signs", "I", false)
  | 4 => ("ProofBench$Search", "at", "I", false)
  | _ => ("ProofBench$Search", "lost", "Z", false)
def tyX7 : Nat → FieldType := fun k => match k with
  | 0 => .object "ProofBench$Forms"
  | 1 => .array (.object "ProofBench$Row")
  | 2 => .int
  | 3 => .int
  | 4 => .int
  | _ => .boolean
abbrev wsX70 : List Cond := u_ws RX7 TX7 6
theorem nmX7 : ∀ a, a < 6 → ∀ b, b < 6 → a ≠ b → (TX7 a).2.1 ≠ (TX7 b).2.1 := by decide +kernel
theorem tyX7_ok : ∀ k, k < 6 → parseFieldDescriptor (TX7 k).2.2.1 = some (tyX7 k) := by decide +kernel
abbrev cX7_init : ByteArray := prog_9_method_1_code
def yX7_init : MethodName := ⟨RX7, "<init>", "(LProofBench$Forms;)V"⟩
def RX8 : String := "ProofBench$Step"
def TX8 : u_T := fun k => match k with
  | 0 => ("ProofBench$Step", "shows", "LProofBench$Thing;", true)
  | 1 => ("ProofBench$Step", "from", "[LProofBench$Thing;", true)
  | 2 => ("ProofBench$Step", "leaning", "J", true)
  | _ => ("ProofBench$Step", "induced", "Z", true)
def tyX8 : Nat → FieldType := fun k => match k with
  | 0 => .object "ProofBench$Thing"
  | 1 => .array (.object "ProofBench$Thing")
  | 2 => .long
  | _ => .boolean
abbrev wsX80 : List Cond := u_ws RX8 TX8 4
theorem nmX8 : ∀ a, a < 4 → ∀ b, b < 4 → a ≠ b → (TX8 a).2.1 ≠ (TX8 b).2.1 := by decide +kernel
theorem tyX8_ok : ∀ k, k < 4 → parseFieldDescriptor (TX8 k).2.2.1 = some (tyX8 k) := by decide +kernel
abbrev cX8_init : ByteArray := prog_10_method_1_code
def yX8_init : MethodName := ⟨RX8, "<init>", "(LProofBench$Thing;[LProofBench$Thing;JZ)V"⟩
def RX9 : String := "ProofBench$Tape"
def TX9 : u_T := fun k => match k with
  | 0 => ("ProofBench$Tape", "bytes", "[B", true)
  | 1 => ("ProofBench$Tape", "kinds", "[I", true)
  | 2 => ("ProofBench$Tape", "starts", "[I", true)
  | 3 => ("ProofBench$Tape", "worths", "[J", true)
  | 4 => ("ProofBench$Tape", "formAt", "[I", true)
  | 5 => ("ProofBench$Tape", "operandAt", "[I", true)
  | 6 => ("ProofBench$Tape", "length", "I", false)
  | 7 => ("ProofBench$Tape", "count", "I", false)
  | 8 => ("ProofBench$Tape", "next", "I", false)
  | 9 => ("ProofBench$Tape", "word", "I", false)
  | _ => ("ProofBench$Tape", "wrongAt", "I", false)
def tyX9 : Nat → FieldType := fun k => match k with
  | 0 => .array .byte
  | 1 => .array .int
  | 2 => .array .int
  | 3 => .array .long
  | 4 => .array .int
  | 5 => .array .int
  | 6 => .int
  | 7 => .int
  | 8 => .int
  | 9 => .int
  | _ => .int
abbrev wsX90 : List Cond := u_ws RX9 TX9 11
theorem nmX9 : ∀ a, a < 11 → ∀ b, b < 11 → a ≠ b → (TX9 a).2.1 ≠ (TX9 b).2.1 := by decide +kernel
theorem tyX9_ok : ∀ k, k < 11 → parseFieldDescriptor (TX9 k).2.2.1 = some (tyX9 k) := by decide +kernel
def RX10 : String := "ProofBench$Thing"
def TX10 : u_T := fun k => match k with
  | 0 => ("ProofBench$Thing", "codes", "[I", true)
  | _ => ("ProofBench$Thing", "free", "I", true)
def tyX10 : Nat → FieldType := fun k => match k with
  | 0 => .array .int
  | _ => .int
abbrev wsX100 : List Cond := u_ws RX10 TX10 2
theorem nmX10 : ∀ a, a < 2 → ∀ b, b < 2 → a ≠ b → (TX10 a).2.1 ≠ (TX10 b).2.1 := by decide +kernel
theorem tyX10_ok : ∀ k, k < 2 → parseFieldDescriptor (TX10 k).2.2.1 = some (tyX10 k) := by decide +kernel
abbrev cX10_init : ByteArray := prog_12_method_1_code
def yX10_init : MethodName := ⟨RX10, "<init>", "([II)V"⟩
def RX11 : String := "ProofBench"
def TX11 : u_T := fun k => match k with
  | 0 => ("ProofBench", "tape", "LProofBench$Tape;", true)
  | 1 => ("ProofBench", "names", "LProofBench$Names;", true)
  | 2 => ("ProofBench", "forms", "LProofBench$Forms;", true)
  | 3 => ("ProofBench", "model", "LProofBench$Model;", true)
  | 4 => ("ProofBench", "look", "LProofBench$Look;", true)
  | 5 => ("ProofBench", "proof", "LProofBench$Proof;", true)
  | 6 => ("ProofBench", "said", "LProofBench$Out;", true)
  | 7 => ("ProofBench", "refused", "[I", true)
  | _ => ("ProofBench", "wrongAt", "I", false)
def tyX11 : Nat → FieldType := fun k => match k with
  | 0 => .object "ProofBench$Tape"
  | 1 => .object "ProofBench$Names"
  | 2 => .object "ProofBench$Forms"
  | 3 => .object "ProofBench$Model"
  | 4 => .object "ProofBench$Look"
  | 5 => .object "ProofBench$Proof"
  | 6 => .object "ProofBench$Out"
  | 7 => .array .int
  | _ => .int
abbrev wsX110 : List Cond := u_ws RX11 TX11 9
theorem nmX11 : ∀ a, a < 9 → ∀ b, b < 9 → a ≠ b → (TX11 a).2.1 ≠ (TX11 b).2.1 := by decide +kernel
theorem tyX11_ok : ∀ k, k < 9 → parseFieldDescriptor (TX11 k).2.2.1 = some (tyX11 k) := by decide +kernel
def RX12 : String := "ProofBenchModel"
def TX12 : u_T := fun k => match k with
  | 0 => ("ProofBenchModel", "why", "I", false)
  | 1 => ("ProofBenchModel", "names", "I", false)
  | 2 => ("ProofBenchModel", "letters", "[I", true)
  | 3 => ("ProofBenchModel", "letterMany", "[I", true)
  | 4 => ("ProofBenchModel", "asSort", "[I", true)
  | 5 => ("ProofBenchModel", "asFun", "[I", true)
  | 6 => ("ProofBenchModel", "asRel", "[I", true)
  | 7 => ("ProofBenchModel", "asVariable", "[I", true)
  | 8 => ("ProofBenchModel", "asFact", "[I", true)
  | 9 => ("ProofBenchModel", "sorts", "I", false)
  | 10 => ("ProofBenchModel", "sortName", "[I", true)
  | 11 => ("ProofBenchModel", "funs", "I", false)
  | 12 => ("ProofBenchModel", "funName", "[I", true)
  | 13 => ("ProofBenchModel", "funMany", "[I", true)
  | 14 => ("ProofBenchModel", "funParts", "[I", true)
  | 15 => ("ProofBenchModel", "funSort", "[I", true)
  | 16 => ("ProofBenchModel", "rels", "I", false)
  | 17 => ("ProofBenchModel", "relName", "[I", true)
  | 18 => ("ProofBenchModel", "relMany", "[I", true)
  | 19 => ("ProofBenchModel", "relParts", "[I", true)
  | 20 => ("ProofBenchModel", "variables", "I", false)
  | 21 => ("ProofBenchModel", "variableName", "[I", true)
  | 22 => ("ProofBenchModel", "variableSort", "[I", true)
  | 23 => ("ProofBenchModel", "nodes", "I", false)
  | 24 => ("ProofBenchModel", "kind", "[I", false)
  | 25 => ("ProofBenchModel", "id", "[I", false)
  | 26 => ("ProofBenchModel", "one", "[I", false)
  | 27 => ("ProofBenchModel", "two", "[I", false)
  | 28 => ("ProofBenchModel", "three", "[I", false)
  | 29 => ("ProofBenchModel", "oneBound", "[I", true)
  | 30 => ("ProofBenchModel", "otherBound", "[I", true)
  | 31 => ("ProofBenchModel", "tape", "[I", true)
  | 32 => ("ProofBenchModel", "taped", "I", false)
  | 33 => ("ProofBenchModel", "at", "I", false)
  | 34 => ("ProofBenchModel", "token", "I", false)
  | 35 => ("ProofBenchModel", "tokenAt", "I", false)
  | 36 => ("ProofBenchModel", "tokenLong", "I", false)
  | 37 => ("ProofBenchModel", "tokenValue", "I", false)
  | 38 => ("ProofBenchModel", "raws", "I", false)
  | 39 => ("ProofBenchModel", "rawSign", "[I", true)
  | 40 => ("ProofBenchModel", "rawAt", "[I", true)
  | 41 => ("ProofBenchModel", "rawLong", "[I", true)
  | 42 => ("ProofBenchModel", "rawValue", "[I", true)
  | 43 => ("ProofBenchModel", "rawFirst", "[I", true)
  | 44 => ("ProofBenchModel", "rawNext", "[I", true)
  | 45 => ("ProofBenchModel", "isWrong", "Z", false)
  | 46 => ("ProofBenchModel", "statement", "I", false)
  | 47 => ("ProofBenchModel", "patternAt", "I", false)
  | 48 => ("ProofBenchModel", "items", "I", false)
  | 49 => ("ProofBenchModel", "itemLetter", "[I", true)
  | 50 => ("ProofBenchModel", "itemAt", "[I", true)
  | 51 => ("ProofBenchModel", "itemLong", "[I", true)
  | 52 => ("ProofBenchModel", "itemValue", "[I", true)
  | 53 => ("ProofBenchModel", "listed", "I", false)
  | 54 => ("ProofBenchModel", "listAt", "[I", true)
  | 55 => ("ProofBenchModel", "listLong", "[I", true)
  | 56 => ("ProofBenchModel", "listValue", "[I", true)
  | 57 => ("ProofBenchModel", "rawNode", "[I", true)
  | 58 => ("ProofBenchModel", "rawSort", "[I", true)
  | 59 => ("ProofBenchModel", "rawPlaces", "[I", true)
  | 60 => ("ProofBenchModel", "rawDeep", "[I", true)
  | 61 => ("ProofBenchModel", "got", "[I", true)
  | 62 => ("ProofBenchModel", "listGot", "[I", true)
  | 63 => ("ProofBenchModel", "steps", "I", false)
  | 64 => ("ProofBenchModel", "shows", "[I", true)
  | 65 => ("ProofBenchModel", "hypothesisMany", "[I", true)
  | 66 => ("ProofBenchModel", "hypothesis", "[I", true)
  | 67 => ("ProofBenchModel", "leanOf", "[J", true)
  | 68 => ("ProofBenchModel", "isInductive", "[Z", true)
  | 69 => ("ProofBenchModel", "facts", "I", false)
  | 70 => ("ProofBenchModel", "factRow", "[I", true)
  | 71 => ("ProofBenchModel", "factLeans", "[J", true)
  | 72 => ("ProofBenchModel", "isInductiveFact", "[Z", true)
  | 73 => ("ProofBenchModel", "now", "[I", true)
  | 74 => ("ProofBenchModel", "nowMany", "I", false)
  | 75 => ("ProofBenchModel", "nowLeans", "J", false)
  | 76 => ("ProofBenchModel", "nowInductive", "Z", false)
  | 77 => ("ProofBenchModel", "made", "I", false)
  | 78 => ("ProofBenchModel", "letterOf", "[I", true)
  | 79 => ("ProofBenchModel", "letterCount", "I", false)
  | 80 => ("ProofBenchModel", "joints", "I", false)
  | 81 => ("ProofBenchModel", "written", "I", false)
  | 82 => ("ProofBenchModel", "size", "[I", true)
  | 83 => ("ProofBenchModel", "zero", "I", false)
  | 84 => ("ProofBenchModel", "valueOf", "[I", true)
  | 85 => ("ProofBenchModel", "isSo", "[Z", true)
  | 86 => ("ProofBenchModel", "thingOf", "[I", true)
  | 87 => ("ProofBenchModel", "out", "[I", true)
  | 88 => ("ProofBenchModel", "outs", "I", false)
  | 89 => ("ProofBenchModel", "text", "[I", true)
  | 90 => ("ProofBenchModel", "texts", "I", false)
  | 91 => ("ProofBenchModel", "told", "I", false)
  | 92 => ("ProofBenchModel", "wrongAt", "I", false)
  | _ => ("ProofBenchModel", "refused", "[I", true)
def tyX12 : Nat → FieldType := fun k => match k with
  | 0 => .int
  | 1 => .int
  | 2 => .array .int
  | 3 => .array .int
  | 4 => .array .int
  | 5 => .array .int
  | 6 => .array .int
  | 7 => .array .int
  | 8 => .array .int
  | 9 => .int
  | 10 => .array .int
  | 11 => .int
  | 12 => .array .int
  | 13 => .array .int
  | 14 => .array .int
  | 15 => .array .int
  | 16 => .int
  | 17 => .array .int
  | 18 => .array .int
  | 19 => .array .int
  | 20 => .int
  | 21 => .array .int
  | 22 => .array .int
  | 23 => .int
  | 24 => .array .int
  | 25 => .array .int
  | 26 => .array .int
  | 27 => .array .int
  | 28 => .array .int
  | 29 => .array .int
  | 30 => .array .int
  | 31 => .array .int
  | 32 => .int
  | 33 => .int
  | 34 => .int
  | 35 => .int
  | 36 => .int
  | 37 => .int
  | 38 => .int
  | 39 => .array .int
  | 40 => .array .int
  | 41 => .array .int
  | 42 => .array .int
  | 43 => .array .int
  | 44 => .array .int
  | 45 => .boolean
  | 46 => .int
  | 47 => .int
  | 48 => .int
  | 49 => .array .int
  | 50 => .array .int
  | 51 => .array .int
  | 52 => .array .int
  | 53 => .int
  | 54 => .array .int
  | 55 => .array .int
  | 56 => .array .int
  | 57 => .array .int
  | 58 => .array .int
  | 59 => .array .int
  | 60 => .array .int
  | 61 => .array .int
  | 62 => .array .int
  | 63 => .int
  | 64 => .array .int
  | 65 => .array .int
  | 66 => .array .int
  | 67 => .array .long
  | 68 => .array .boolean
  | 69 => .int
  | 70 => .array .int
  | 71 => .array .long
  | 72 => .array .boolean
  | 73 => .array .int
  | 74 => .int
  | 75 => .long
  | 76 => .boolean
  | 77 => .int
  | 78 => .array .int
  | 79 => .int
  | 80 => .int
  | 81 => .int
  | 82 => .array .int
  | 83 => .int
  | 84 => .array .int
  | 85 => .array .boolean
  | 86 => .array .int
  | 87 => .array .int
  | 88 => .int
  | 89 => .array .int
  | 90 => .int
  | 91 => .int
  | 92 => .int
  | _ => .array .int
abbrev wsX120 : List Cond := u_ws RX12 TX12 94
theorem nmX12 : ∀ a, a < 94 → ∀ b, b < 94 → a ≠ b → (TX12 a).2.1 ≠ (TX12 b).2.1 := by decide +kernel
theorem tyX12_ok : ∀ k, k < 94 → parseFieldDescriptor (TX12 k).2.2.1 = some (tyX12 k) := by decide +kernel
def RJ11 : String := "java/lang/Character"
def TJ11 : u_T := fun k => match k with
  | _ => ("", "", "", false)
def tyJ11 : Nat → FieldType := fun k => match k with
  | _ => .int
abbrev wsJ110 : List Cond := u_ws RJ11 TJ11 0
theorem nmJ11 : ∀ a, a < 0 → ∀ b, b < 0 → a ≠ b → (TJ11 a).2.1 ≠ (TJ11 b).2.1 := by decide +kernel
theorem tyJ11_ok : ∀ k, k < 0 → parseFieldDescriptor (TJ11 k).2.2.1 = some (tyJ11 k) := by decide +kernel
def RJ6 : String := "java/lang/Integer"
def TJ6 : u_T := fun k => match k with
  | _ => ("", "", "", false)
def tyJ6 : Nat → FieldType := fun k => match k with
  | _ => .int
abbrev wsJ60 : List Cond := u_ws RJ6 TJ6 0
theorem nmJ6 : ∀ a, a < 0 → ∀ b, b < 0 → a ≠ b → (TJ6 a).2.1 ≠ (TJ6 b).2.1 := by decide +kernel
theorem tyJ6_ok : ∀ k, k < 0 → parseFieldDescriptor (TJ6 k).2.2.1 = some (tyJ6 k) := by decide +kernel
def RJ9 : String := "java/lang/Math"
def TJ9 : u_T := fun k => match k with
  | _ => ("", "", "", false)
def tyJ9 : Nat → FieldType := fun k => match k with
  | _ => .int
abbrev wsJ90 : List Cond := u_ws RJ9 TJ9 0
theorem nmJ9 : ∀ a, a < 0 → ∀ b, b < 0 → a ≠ b → (TJ9 a).2.1 ≠ (TJ9 b).2.1 := by decide +kernel
theorem tyJ9_ok : ∀ k, k < 0 → parseFieldDescriptor (TJ9 k).2.2.1 = some (tyJ9 k) := by decide +kernel
def RJ0 : String := "java/lang/String"
def TJ0 : u_T := fun k => match k with
  | _ => ("", "", "", false)
def tyJ0 : Nat → FieldType := fun k => match k with
  | _ => .int
abbrev wsJ00 : List Cond := u_ws RJ0 TJ0 0
theorem nmJ0 : ∀ a, a < 0 → ∀ b, b < 0 → a ≠ b → (TJ0 a).2.1 ≠ (TJ0 b).2.1 := by decide +kernel
theorem tyJ0_ok : ∀ k, k < 0 → parseFieldDescriptor (TJ0 k).2.2.1 = some (tyJ0 k) := by decide +kernel
def RJ1 : String := "java/lang/StringLatin1"
def TJ1 : u_T := fun k => match k with
  | _ => ("", "", "", false)
def tyJ1 : Nat → FieldType := fun k => match k with
  | _ => .int
abbrev wsJ10 : List Cond := u_ws RJ1 TJ1 0
theorem nmJ1 : ∀ a, a < 0 → ∀ b, b < 0 → a ≠ b → (TJ1 a).2.1 ≠ (TJ1 b).2.1 := by decide +kernel
theorem tyJ1_ok : ∀ k, k < 0 → parseFieldDescriptor (TJ1 k).2.2.1 = some (tyJ1 k) := by decide +kernel
def RJ2 : String := "java/lang/StringUTF16"
def TJ2 : u_T := fun k => match k with
  | _ => ("", "", "", false)
def tyJ2 : Nat → FieldType := fun k => match k with
  | _ => .int
abbrev wsJ20 : List Cond := u_ws RJ2 TJ2 0
theorem nmJ2 : ∀ a, a < 0 → ∀ b, b < 0 → a ≠ b → (TJ2 a).2.1 ≠ (TJ2 b).2.1 := by decide +kernel
theorem tyJ2_ok : ∀ k, k < 0 → parseFieldDescriptor (TJ2 k).2.2.1 = some (tyJ2 k) := by decide +kernel
def RJ10 : String := "java/lang/System"
def TJ10 : u_T := fun k => match k with
  | _ => ("", "", "", false)
def tyJ10 : Nat → FieldType := fun k => match k with
  | _ => .int
abbrev wsJ100 : List Cond := u_ws RJ10 TJ10 0
theorem nmJ10 : ∀ a, a < 0 → ∀ b, b < 0 → a ≠ b → (TJ10 a).2.1 ≠ (TJ10 b).2.1 := by decide +kernel
theorem tyJ10_ok : ∀ k, k < 0 → parseFieldDescriptor (TJ10 k).2.2.1 = some (tyJ10 k) := by decide +kernel
def RJ7 : String := "java/util/Arrays"
def TJ7 : u_T := fun k => match k with
  | _ => ("", "", "", false)
def tyJ7 : Nat → FieldType := fun k => match k with
  | _ => .int
abbrev wsJ70 : List Cond := u_ws RJ7 TJ7 0
theorem nmJ7 : ∀ a, a < 0 → ∀ b, b < 0 → a ≠ b → (TJ7 a).2.1 ≠ (TJ7 b).2.1 := by decide +kernel
theorem tyJ7_ok : ∀ k, k < 0 → parseFieldDescriptor (TJ7 k).2.2.1 = some (tyJ7 k) := by decide +kernel
abbrev cJ7_fill_53178 : ByteArray := prog_23_method_103_code
def yJ7_fill_53178 : MethodName := ⟨RJ7, "fill", "([II)V"⟩
def RJ3 : String := "jdk/internal/util/Preconditions"
def TJ3 : u_T := fun k => match k with
  | _ => ("", "", "", false)
def tyJ3 : Nat → FieldType := fun k => match k with
  | _ => .int
abbrev wsJ30 : List Cond := u_ws RJ3 TJ3 0
theorem nmJ3 : ∀ a, a < 0 → ∀ b, b < 0 → a ≠ b → (TJ3 a).2.1 ≠ (TJ3 b).2.1 := by decide +kernel
theorem tyJ3_ok : ∀ k, k < 0 → parseFieldDescriptor (TJ3 k).2.2.1 = some (tyJ3 k) := by decide +kernel
def RL : String := "ProofBenchLaw"
def wsX0_init : List Cond := .code yX0_init cX0_init 2 none :: ([.methodLink RX0 3 objectInit, .instanceMethod objectInit, .code objectInit ⟨#[0xb1]⟩ 1 none, .arrayClass .int, .fieldLink RX0 9 "ProofBench$Forms" "codes" "[I", .fieldLink RX0 15 "ProofBench$Forms" "ends" "[I", .fieldLink RX0 18 "ProofBench$Forms" "frees" "[I", .fieldLink RX0 21 "ProofBench$Forms" "heights" "[I", .fieldLink RX0 24 "ProofBench$Forms" "lefts" "[I", .fieldLink RX0 27 "ProofBench$Forms" "rights" "[I", .fieldLink RX0 30 "ProofBench$Forms" "needs" "[I", .fieldLink RX0 33 "ProofBench$Forms" "names" "LProofBench$Names;"] ++ wsX00)
def wsX10_init : List Cond := .code yX10_init cX10_init 3 none :: ([.methodLink RX10 3 objectInit, .instanceMethod objectInit, .code objectInit ⟨#[0xb1]⟩ 1 none, .fieldLink RX10 9 "ProofBench$Thing" "codes" "[I", .fieldLink RX10 15 "ProofBench$Thing" "free" "I"] ++ wsX100)
def wsX6_init : List Cond := .code yX6_init cX6_init 2 none :: ([.methodLink RX6 1 objectInit, .instanceMethod objectInit, .code objectInit ⟨#[0xb1]⟩ 1 none, .arrayClass .int, .fieldLink RX6 7 "ProofBench$Row" "codes" "[I"] ++ wsX60)
def wsX1_init : List Cond := .code yX1_init cX1_init 4 none :: ([.methodLink RX1 3 objectInit, .instanceMethod objectInit, .code objectInit ⟨#[0xb1]⟩ 1 none, .classLink RX1 9 RX6, .instantiable RX6 2, .initialized RX6, .fieldLink RX1 14 "ProofBench$Look" "first" "LProofBench$Row;", .fieldLink RX1 20 "ProofBench$Look" "second" "LProofBench$Row;", .arrayClass .int, .fieldLink RX1 25 "ProofBench$Look" "values" "[I", .fieldLink RX1 29 "ProofBench$Look" "row" "[I", .fieldLink RX1 32 "ProofBench$Look" "tape" "LProofBench$Tape;", .fieldLink RX1 36 "ProofBench$Look" "names" "LProofBench$Names;", .fieldLink RX1 40 "ProofBench$Look" "model" "LProofBench$Model;", .fieldLink RX1 44 "ProofBench$Look" "into" "LProofBench$Row;", .methodLink RX1 11 yX6_init, .instanceMethod yX6_init, .code yX6_init cX6_init 2 none, .methodLink RX6 1 objectInit, .fieldLink RX6 7 "ProofBench$Row" "codes" "[I"] ++ wsX60 ++ wsX10)
def wsJ7_fill_53178 : List Cond := .code yJ7_fill_53178 cJ7_fill_53178 4 none :: ([])
def wsX2_init : List Cond := .code yX2_init cX2_init 3 none :: ([.methodLink RX2 3 objectInit, .instanceMethod objectInit, .code objectInit ⟨#[0xb1]⟩ 1 none, .arrayClass .int, .fieldLink RX2 9 "ProofBench$Model" "sizes" "[I", .fieldLink RX2 15 "ProofBench$Model" "tables" "[I", .fieldLink RX2 18 "ProofBench$Model" "things" "[I", .fieldLink RX2 21 "ProofBench$Model" "names" "LProofBench$Names;", .fieldLink RX2 25 "ProofBench$Model" "forms" "LProofBench$Forms;", .methodLink RX2 29 yJ7_fill_53178, .static yJ7_fill_53178, .initialized RJ7, .code yJ7_fill_53178 cJ7_fill_53178 4 none] ++ wsX20)
def wsX4_init : List Cond := .code yX4_init cX4_init 2 none :: ([.methodLink RX4 3 objectInit, .instanceMethod objectInit, .code objectInit ⟨#[0xb1]⟩ 1 none, .arrayClass .int, .fieldLink RX4 11 "ProofBench$Out" "numbers" "[I", .fieldLink RX4 15 "ProofBench$Out" "lefts" "[I", .fieldLink RX4 20 "ProofBench$Out" "turned" "[I", .fieldLink RX4 23 "ProofBench$Out" "names" "LProofBench$Names;"] ++ wsX40)
def wsX7_init : List Cond := .code yX7_init cX7_init 3 none :: ([.methodLink RX7 3 objectInit, .instanceMethod objectInit, .code objectInit ⟨#[0xb1]⟩ 1 none, .classLink RX7 11 RX6, .fieldLink RX7 13 "ProofBench$Search" "letters" "[LProofBench$Row;", .fieldLink RX7 17 "ProofBench$Search" "forms" "LProofBench$Forms;", .instantiable RX6 2, .initialized RX6, .methodLink RX7 21 yX6_init, .instanceMethod yX6_init, .code yX6_init cX6_init 2 none, .methodLink RX6 1 objectInit, .arrayClass .int, .fieldLink RX6 7 "ProofBench$Row" "codes" "[I"] ++ wsX70 ++ wsX60)
def wsX8_init : List Cond := .code yX8_init cX8_init 6 none :: ([.methodLink RX8 1 objectInit, .instanceMethod objectInit, .code objectInit ⟨#[0xb1]⟩ 1 none, .fieldLink RX8 7 "ProofBench$Step" "shows" "LProofBench$Thing;", .fieldLink RX8 13 "ProofBench$Step" "from" "[LProofBench$Thing;", .fieldLink RX8 17 "ProofBench$Step" "leaning" "J", .fieldLink RX8 21 "ProofBench$Step" "induced" "Z"] ++ wsX80)
def wsX5_init_r1 : List Cond := [Cond.methodLink RX5 3 objectInit, Cond.instanceMethod objectInit, Cond.code objectInit ⟨#[0xb1]⟩ 1 none, Cond.classLink RX5 9 RX8, Cond.fieldLink RX5 11 "ProofBench$Proof" "steps" "[LProofBench$Step;", Cond.fieldLink RX5 17 "ProofBench$Proof" "facts" "[LProofBench$Step;", Cond.fieldLink RX5 22 "ProofBench$Proof" "named" "[LProofBench$Step;", Cond.classLink RX5 25 RX6, Cond.instantiable RX6 2, Cond.initialized RX6, Cond.fieldLink RX5 30 "ProofBench$Proof" "made" "LProofBench$Row;", Cond.fieldLink RX5 34 "ProofBench$Proof" "other" "LProofBench$Row;", Cond.classLink RX5 37 RX10, Cond.fieldLink RX5 39 "ProofBench$Proof" "kept" "[LProofBench$Thing;", Cond.fieldLink RX5 43 "ProofBench$Proof" "names" "LProofBench$Names;", Cond.fieldLink RX5 47 "ProofBench$Proof" "forms" "LProofBench$Forms;", Cond.fieldLink RX5 51 "ProofBench$Proof" "look" "LProofBench$Look;", Cond.classLink RX5 55 RX7, Cond.instantiable RX7 6, Cond.initialized RX7, Cond.fieldLink RX5 60 "ProofBench$Proof" "search" "LProofBench$Search;", Cond.instantiable RX8 4, Cond.initialized RX8, Cond.instantiable RX10 2]
def wsX5_init_r2 : List Cond := [Cond.initialized RX10, Cond.arrayClass .int, Cond.fieldLink RX5 70 "ProofBench$Proof" "nothing" "LProofBench$Step;", Cond.fieldLink RX5 74 "ProofBench$Step" "shows" "LProofBench$Thing;", Cond.methodLink RX5 27 yX6_init, Cond.instanceMethod yX6_init, Cond.code yX6_init cX6_init 2 none, Cond.methodLink RX6 1 objectInit, Cond.fieldLink RX6 7 "ProofBench$Row" "codes" "[I", Cond.methodLink RX5 57 yX7_init, Cond.instanceMethod yX7_init, Cond.code yX7_init cX7_init 3 none, Cond.methodLink RX7 3 objectInit, Cond.classLink RX7 11 RX6, Cond.fieldLink RX7 13 "ProofBench$Search" "letters" "[LProofBench$Row;", Cond.fieldLink RX7 17 "ProofBench$Search" "forms" "LProofBench$Forms;", Cond.methodLink RX7 21 yX6_init, Cond.methodLink RX5 64 yX10_init, Cond.instanceMethod yX10_init, Cond.code yX10_init cX10_init 3 none, Cond.methodLink RX10 3 objectInit, Cond.fieldLink RX10 9 "ProofBench$Thing" "codes" "[I", Cond.fieldLink RX10 15 "ProofBench$Thing" "free" "I", Cond.methodLink RX5 67 yX8_init]
def wsX5_init_r3 : List Cond := [Cond.instanceMethod yX8_init, Cond.code yX8_init cX8_init 6 none, Cond.methodLink RX8 1 objectInit, Cond.fieldLink RX8 7 "ProofBench$Step" "shows" "LProofBench$Thing;", Cond.fieldLink RX8 13 "ProofBench$Step" "from" "[LProofBench$Thing;", Cond.fieldLink RX8 17 "ProofBench$Step" "leaning" "J", Cond.fieldLink RX8 21 "ProofBench$Step" "induced" "Z"]
def wsX5_init : List Cond := .code yX5_init cX5_init 5 none :: ((wsX5_init_r1 ++ (wsX5_init_r2 ++ wsX5_init_r3)) ++ wsX50 ++ wsX60 ++ wsX70 ++ wsX80 ++ wsX100)
theorem dX0_init_0 : decode cX0_init 0 = .ok (.aload_n 0, 1) := by decide +kernel
theorem dX0_init_1 : decode cX0_init 1 = .ok (.invokespecial 3, 3) := by decide +kernel
theorem dX0_init_4 : decode cX0_init 4 = .ok (.aload_n 0, 1) := by decide +kernel
theorem dX0_init_5 : decode cX0_init 5 = .ok (.sipush 400, 3) := by decide +kernel
theorem dX0_init_8 : decode cX0_init 8 = .ok (.newarray .int, 2) := by decide +kernel
theorem dX0_init_10 : decode cX0_init 10 = .ok (.putfield 9, 3) := by decide +kernel
theorem dX0_init_13 : decode cX0_init 13 = .ok (.aload_n 0, 1) := by decide +kernel
theorem dX0_init_14 : decode cX0_init 14 = .ok (.sipush 400, 3) := by decide +kernel
theorem dX0_init_17 : decode cX0_init 17 = .ok (.newarray .int, 2) := by decide +kernel
theorem dX0_init_19 : decode cX0_init 19 = .ok (.putfield 15, 3) := by decide +kernel
theorem dX0_init_22 : decode cX0_init 22 = .ok (.aload_n 0, 1) := by decide +kernel
theorem dX0_init_23 : decode cX0_init 23 = .ok (.sipush 400, 3) := by decide +kernel
theorem dX0_init_26 : decode cX0_init 26 = .ok (.newarray .int, 2) := by decide +kernel
theorem dX0_init_28 : decode cX0_init 28 = .ok (.putfield 18, 3) := by decide +kernel
theorem dX0_init_31 : decode cX0_init 31 = .ok (.aload_n 0, 1) := by decide +kernel
theorem dX0_init_32 : decode cX0_init 32 = .ok (.sipush 403, 3) := by decide +kernel
theorem dX0_init_35 : decode cX0_init 35 = .ok (.newarray .int, 2) := by decide +kernel
theorem dX0_init_37 : decode cX0_init 37 = .ok (.putfield 21, 3) := by decide +kernel
theorem dX0_init_40 : decode cX0_init 40 = .ok (.aload_n 0, 1) := by decide +kernel
theorem dX0_init_41 : decode cX0_init 41 = .ok (.bipush 40, 2) := by decide +kernel
theorem dX0_init_43 : decode cX0_init 43 = .ok (.newarray .int, 2) := by decide +kernel
theorem dX0_init_45 : decode cX0_init 45 = .ok (.putfield 24, 3) := by decide +kernel
theorem dX0_init_48 : decode cX0_init 48 = .ok (.aload_n 0, 1) := by decide +kernel
theorem dX0_init_49 : decode cX0_init 49 = .ok (.bipush 40, 2) := by decide +kernel
theorem dX0_init_51 : decode cX0_init 51 = .ok (.newarray .int, 2) := by decide +kernel
theorem dX0_init_53 : decode cX0_init 53 = .ok (.putfield 27, 3) := by decide +kernel
theorem dX0_init_56 : decode cX0_init 56 = .ok (.aload_n 0, 1) := by decide +kernel
theorem dX0_init_57 : decode cX0_init 57 = .ok (.bipush 40, 2) := by decide +kernel
theorem dX0_init_59 : decode cX0_init 59 = .ok (.newarray .int, 2) := by decide +kernel
theorem dX0_init_61 : decode cX0_init 61 = .ok (.putfield 30, 3) := by decide +kernel
theorem dX0_init_64 : decode cX0_init 64 = .ok (.aload_n 0, 1) := by decide +kernel
theorem dX0_init_65 : decode cX0_init 65 = .ok (.aload_n 1, 1) := by decide +kernel
theorem dX0_init_66 : decode cX0_init 66 = .ok (.putfield 33, 3) := by decide +kernel
theorem dX0_init_69 : decode cX0_init 69 = .ok (.return_, 1) := by decide +kernel
theorem dX1_init_0 : decode cX1_init 0 = .ok (.aload_n 0, 1) := by decide +kernel
theorem dX1_init_1 : decode cX1_init 1 = .ok (.invokespecial 3, 3) := by decide +kernel
theorem dX1_init_4 : decode cX1_init 4 = .ok (.aload_n 0, 1) := by decide +kernel
theorem dX1_init_5 : decode cX1_init 5 = .ok (.new 9, 3) := by decide +kernel
theorem dX1_init_8 : decode cX1_init 8 = .ok (.dup, 1) := by decide +kernel
theorem dX1_init_9 : decode cX1_init 9 = .ok (.sipush 400, 3) := by decide +kernel
theorem dX1_init_12 : decode cX1_init 12 = .ok (.invokespecial 11, 3) := by decide +kernel
theorem dX1_init_15 : decode cX1_init 15 = .ok (.putfield 14, 3) := by decide +kernel
theorem dX1_init_18 : decode cX1_init 18 = .ok (.aload_n 0, 1) := by decide +kernel
theorem dX1_init_19 : decode cX1_init 19 = .ok (.new 9, 3) := by decide +kernel
theorem dX1_init_22 : decode cX1_init 22 = .ok (.dup, 1) := by decide +kernel
theorem dX1_init_23 : decode cX1_init 23 = .ok (.sipush 400, 3) := by decide +kernel
theorem dX1_init_26 : decode cX1_init 26 = .ok (.invokespecial 11, 3) := by decide +kernel
theorem dX1_init_29 : decode cX1_init 29 = .ok (.putfield 20, 3) := by decide +kernel
theorem dX1_init_32 : decode cX1_init 32 = .ok (.aload_n 0, 1) := by decide +kernel
theorem dX1_init_33 : decode cX1_init 33 = .ok (.iconst 4, 1) := by decide +kernel
theorem dX1_init_34 : decode cX1_init 34 = .ok (.newarray .int, 2) := by decide +kernel
theorem dX1_init_36 : decode cX1_init 36 = .ok (.putfield 25, 3) := by decide +kernel
theorem dX1_init_39 : decode cX1_init 39 = .ok (.aload_n 0, 1) := by decide +kernel
theorem dX1_init_40 : decode cX1_init 40 = .ok (.iconst 3, 1) := by decide +kernel
theorem dX1_init_41 : decode cX1_init 41 = .ok (.newarray .int, 2) := by decide +kernel
theorem dX1_init_43 : decode cX1_init 43 = .ok (.putfield 29, 3) := by decide +kernel
theorem dX1_init_46 : decode cX1_init 46 = .ok (.aload_n 0, 1) := by decide +kernel
theorem dX1_init_47 : decode cX1_init 47 = .ok (.aload_n 1, 1) := by decide +kernel
theorem dX1_init_48 : decode cX1_init 48 = .ok (.putfield 32, 3) := by decide +kernel
theorem dX1_init_51 : decode cX1_init 51 = .ok (.aload_n 0, 1) := by decide +kernel
theorem dX1_init_52 : decode cX1_init 52 = .ok (.aload_n 2, 1) := by decide +kernel
theorem dX1_init_53 : decode cX1_init 53 = .ok (.putfield 36, 3) := by decide +kernel
theorem dX1_init_56 : decode cX1_init 56 = .ok (.aload_n 0, 1) := by decide +kernel
theorem dX1_init_57 : decode cX1_init 57 = .ok (.aload_n 3, 1) := by decide +kernel
theorem dX1_init_58 : decode cX1_init 58 = .ok (.putfield 40, 3) := by decide +kernel
theorem dX1_init_61 : decode cX1_init 61 = .ok (.aload_n 0, 1) := by decide +kernel
theorem dX1_init_62 : decode cX1_init 62 = .ok (.aload_n 0, 1) := by decide +kernel
theorem dX1_init_63 : decode cX1_init 63 = .ok (.getfield 14, 3) := by decide +kernel
theorem dX1_init_66 : decode cX1_init 66 = .ok (.putfield 44, 3) := by decide +kernel
theorem dX1_init_69 : decode cX1_init 69 = .ok (.return_, 1) := by decide +kernel
theorem dX2_init_0 : decode cX2_init 0 = .ok (.aload_n 0, 1) := by decide +kernel
theorem dX2_init_1 : decode cX2_init 1 = .ok (.invokespecial 3, 3) := by decide +kernel
theorem dX2_init_4 : decode cX2_init 4 = .ok (.aload_n 0, 1) := by decide +kernel
theorem dX2_init_5 : decode cX2_init 5 = .ok (.bipush 6, 2) := by decide +kernel
theorem dX2_init_7 : decode cX2_init 7 = .ok (.newarray .int, 2) := by decide +kernel
theorem dX2_init_9 : decode cX2_init 9 = .ok (.putfield 9, 3) := by decide +kernel
theorem dX2_init_12 : decode cX2_init 12 = .ok (.aload_n 0, 1) := by decide +kernel
theorem dX2_init_13 : decode cX2_init 13 = .ok (.sipush 2560, 3) := by decide +kernel
theorem dX2_init_16 : decode cX2_init 16 = .ok (.newarray .int, 2) := by decide +kernel
theorem dX2_init_18 : decode cX2_init 18 = .ok (.putfield 15, 3) := by decide +kernel
theorem dX2_init_21 : decode cX2_init 21 = .ok (.aload_n 0, 1) := by decide +kernel
theorem dX2_init_22 : decode cX2_init 22 = .ok (.bipush 30, 2) := by decide +kernel
theorem dX2_init_24 : decode cX2_init 24 = .ok (.newarray .int, 2) := by decide +kernel
theorem dX2_init_26 : decode cX2_init 26 = .ok (.putfield 18, 3) := by decide +kernel
theorem dX2_init_29 : decode cX2_init 29 = .ok (.aload_n 0, 1) := by decide +kernel
theorem dX2_init_30 : decode cX2_init 30 = .ok (.aload_n 1, 1) := by decide +kernel
theorem dX2_init_31 : decode cX2_init 31 = .ok (.putfield 21, 3) := by decide +kernel
theorem dX2_init_34 : decode cX2_init 34 = .ok (.aload_n 0, 1) := by decide +kernel
theorem dX2_init_35 : decode cX2_init 35 = .ok (.aload_n 2, 1) := by decide +kernel
theorem dX2_init_36 : decode cX2_init 36 = .ok (.putfield 25, 3) := by decide +kernel
theorem dX2_init_39 : decode cX2_init 39 = .ok (.aload_n 0, 1) := by decide +kernel
theorem dX2_init_40 : decode cX2_init 40 = .ok (.getfield 9, 3) := by decide +kernel
theorem dX2_init_43 : decode cX2_init 43 = .ok (.iconst 1, 1) := by decide +kernel
theorem dX2_init_44 : decode cX2_init 44 = .ok (.invokestatic 29, 3) := by decide +kernel
theorem dX2_init_47 : decode cX2_init 47 = .ok (.return_, 1) := by decide +kernel
theorem dX4_init_0 : decode cX4_init 0 = .ok (.aload_n 0, 1) := by decide +kernel
theorem dX4_init_1 : decode cX4_init 1 = .ok (.invokespecial 3, 3) := by decide +kernel
theorem dX4_init_4 : decode cX4_init 4 = .ok (.aload_n 0, 1) := by decide +kernel
theorem dX4_init_5 : decode cX4_init 5 = .ok (.sipush 20000, 3) := by decide +kernel
theorem dX4_init_8 : decode cX4_init 8 = .ok (.newarray .int, 2) := by decide +kernel
theorem dX4_init_10 : decode cX4_init 10 = .ok (.putfield 11, 3) := by decide +kernel
theorem dX4_init_13 : decode cX4_init 13 = .ok (.aload_n 0, 1) := by decide +kernel
theorem dX4_init_14 : decode cX4_init 14 = .ok (.bipush 40, 2) := by decide +kernel
theorem dX4_init_16 : decode cX4_init 16 = .ok (.newarray .int, 2) := by decide +kernel
theorem dX4_init_18 : decode cX4_init 18 = .ok (.putfield 15, 3) := by decide +kernel
theorem dX4_init_21 : decode cX4_init 21 = .ok (.aload_n 0, 1) := by decide +kernel
theorem dX4_init_22 : decode cX4_init 22 = .ok (.bipush 12, 2) := by decide +kernel
theorem dX4_init_24 : decode cX4_init 24 = .ok (.newarray .int, 2) := by decide +kernel
theorem dX4_init_26 : decode cX4_init 26 = .ok (.putfield 20, 3) := by decide +kernel
theorem dX4_init_29 : decode cX4_init 29 = .ok (.aload_n 0, 1) := by decide +kernel
theorem dX4_init_30 : decode cX4_init 30 = .ok (.aload_n 1, 1) := by decide +kernel
theorem dX4_init_31 : decode cX4_init 31 = .ok (.putfield 23, 3) := by decide +kernel
theorem dX4_init_34 : decode cX4_init 34 = .ok (.return_, 1) := by decide +kernel
theorem dX5_init_0 : decode cX5_init 0 = .ok (.aload_n 0, 1) := by decide +kernel
theorem dX5_init_1 : decode cX5_init 1 = .ok (.invokespecial 3, 3) := by decide +kernel
theorem dX5_init_4 : decode cX5_init 4 = .ok (.aload_n 0, 1) := by decide +kernel
theorem dX5_init_5 : decode cX5_init 5 = .ok (.sipush 300, 3) := by decide +kernel
theorem dX5_init_8 : decode cX5_init 8 = .ok (.anewarray 9, 3) := by decide +kernel
theorem dX5_init_11 : decode cX5_init 11 = .ok (.putfield 11, 3) := by decide +kernel
theorem dX5_init_14 : decode cX5_init 14 = .ok (.aload_n 0, 1) := by decide +kernel
theorem dX5_init_15 : decode cX5_init 15 = .ok (.bipush 40, 2) := by decide +kernel
theorem dX5_init_17 : decode cX5_init 17 = .ok (.anewarray 9, 3) := by decide +kernel
theorem dX5_init_20 : decode cX5_init 20 = .ok (.putfield 17, 3) := by decide +kernel
theorem dX5_init_23 : decode cX5_init 23 = .ok (.aload_n 0, 1) := by decide +kernel
theorem dX5_init_24 : decode cX5_init 24 = .ok (.iconst 4, 1) := by decide +kernel
theorem dX5_init_25 : decode cX5_init 25 = .ok (.anewarray 9, 3) := by decide +kernel
theorem dX5_init_28 : decode cX5_init 28 = .ok (.putfield 22, 3) := by decide +kernel
theorem dX5_init_31 : decode cX5_init 31 = .ok (.aload_n 0, 1) := by decide +kernel
theorem dX5_init_32 : decode cX5_init 32 = .ok (.new 25, 3) := by decide +kernel
theorem dX5_init_35 : decode cX5_init 35 = .ok (.dup, 1) := by decide +kernel
theorem dX5_init_36 : decode cX5_init 36 = .ok (.sipush 1210, 3) := by decide +kernel
theorem dX5_init_39 : decode cX5_init 39 = .ok (.invokespecial 27, 3) := by decide +kernel
theorem dX5_init_42 : decode cX5_init 42 = .ok (.putfield 30, 3) := by decide +kernel
theorem dX5_init_45 : decode cX5_init 45 = .ok (.aload_n 0, 1) := by decide +kernel
theorem dX5_init_46 : decode cX5_init 46 = .ok (.new 25, 3) := by decide +kernel
theorem dX5_init_49 : decode cX5_init 49 = .ok (.dup, 1) := by decide +kernel
theorem dX5_init_50 : decode cX5_init 50 = .ok (.sipush 1210, 3) := by decide +kernel
theorem dX5_init_53 : decode cX5_init 53 = .ok (.invokespecial 27, 3) := by decide +kernel
theorem dX5_init_56 : decode cX5_init 56 = .ok (.putfield 34, 3) := by decide +kernel
theorem dX5_init_59 : decode cX5_init 59 = .ok (.aload_n 0, 1) := by decide +kernel
theorem dX5_init_60 : decode cX5_init 60 = .ok (.bipush 20, 2) := by decide +kernel
theorem dX5_init_62 : decode cX5_init 62 = .ok (.anewarray 37, 3) := by decide +kernel
theorem dX5_init_65 : decode cX5_init 65 = .ok (.putfield 39, 3) := by decide +kernel
theorem dX5_init_68 : decode cX5_init 68 = .ok (.aload_n 0, 1) := by decide +kernel
theorem dX5_init_69 : decode cX5_init 69 = .ok (.aload_n 1, 1) := by decide +kernel
theorem dX5_init_70 : decode cX5_init 70 = .ok (.putfield 43, 3) := by decide +kernel
theorem dX5_init_73 : decode cX5_init 73 = .ok (.aload_n 0, 1) := by decide +kernel
theorem dX5_init_74 : decode cX5_init 74 = .ok (.aload_n 2, 1) := by decide +kernel
theorem dX5_init_75 : decode cX5_init 75 = .ok (.putfield 47, 3) := by decide +kernel
theorem dX5_init_78 : decode cX5_init 78 = .ok (.aload_n 0, 1) := by decide +kernel
theorem dX5_init_79 : decode cX5_init 79 = .ok (.aload_n 3, 1) := by decide +kernel
theorem dX5_init_80 : decode cX5_init 80 = .ok (.putfield 51, 3) := by decide +kernel
theorem dX5_init_83 : decode cX5_init 83 = .ok (.aload_n 0, 1) := by decide +kernel
theorem dX5_init_84 : decode cX5_init 84 = .ok (.new 55, 3) := by decide +kernel
theorem dX5_init_87 : decode cX5_init 87 = .ok (.dup, 1) := by decide +kernel
theorem dX5_init_88 : decode cX5_init 88 = .ok (.aload_n 2, 1) := by decide +kernel
theorem dX5_init_89 : decode cX5_init 89 = .ok (.invokespecial 57, 3) := by decide +kernel
theorem dX5_init_92 : decode cX5_init 92 = .ok (.putfield 60, 3) := by decide +kernel
theorem dX5_init_95 : decode cX5_init 95 = .ok (.aload_n 0, 1) := by decide +kernel
theorem dX5_init_96 : decode cX5_init 96 = .ok (.new 9, 3) := by decide +kernel
theorem dX5_init_99 : decode cX5_init 99 = .ok (.dup, 1) := by decide +kernel
theorem dX5_init_100 : decode cX5_init 100 = .ok (.new 37, 3) := by decide +kernel
theorem dX5_init_103 : decode cX5_init 103 = .ok (.dup, 1) := by decide +kernel
theorem dX5_init_104 : decode cX5_init 104 = .ok (.iconst 1, 1) := by decide +kernel
theorem dX5_init_105 : decode cX5_init 105 = .ok (.newarray .int, 2) := by decide +kernel
theorem dX5_init_107 : decode cX5_init 107 = .ok (.iconst 0, 1) := by decide +kernel
theorem dX5_init_108 : decode cX5_init 108 = .ok (.invokespecial 64, 3) := by decide +kernel
theorem dX5_init_111 : decode cX5_init 111 = .ok (.iconst 0, 1) := by decide +kernel
theorem dX5_init_112 : decode cX5_init 112 = .ok (.anewarray 37, 3) := by decide +kernel
theorem dX5_init_115 : decode cX5_init 115 = .ok (.lconst 0, 1) := by decide +kernel
theorem dX5_init_116 : decode cX5_init 116 = .ok (.iconst 0, 1) := by decide +kernel
theorem dX5_init_117 : decode cX5_init 117 = .ok (.invokespecial 67, 3) := by decide +kernel
theorem dX5_init_120 : decode cX5_init 120 = .ok (.putfield 70, 3) := by decide +kernel
theorem dX5_init_123 : decode cX5_init 123 = .ok (.iconst 0, 1) := by decide +kernel
theorem dX5_init_124 : decode cX5_init 124 = .ok (.istore 4, 2) := by decide +kernel
theorem dX5_init_126 : decode cX5_init 126 = .ok (.iload 4, 2) := by decide +kernel
theorem dX5_init_128 : decode cX5_init 128 = .ok (.aload_n 0, 1) := by decide +kernel
theorem dX5_init_129 : decode cX5_init 129 = .ok (.getfield 22, 3) := by decide +kernel
theorem dX5_init_132 : decode cX5_init 132 = .ok (.arraylength, 1) := by decide +kernel
theorem dX5_init_133 : decode cX5_init 133 = .ok (.if_icmp .ge 20, 3) := by decide +kernel
theorem dX5_init_136 : decode cX5_init 136 = .ok (.aload_n 0, 1) := by decide +kernel
theorem dX5_init_137 : decode cX5_init 137 = .ok (.getfield 22, 3) := by decide +kernel
theorem dX5_init_140 : decode cX5_init 140 = .ok (.iload 4, 2) := by decide +kernel
theorem dX5_init_142 : decode cX5_init 142 = .ok (.aload_n 0, 1) := by decide +kernel
theorem dX5_init_143 : decode cX5_init 143 = .ok (.getfield 70, 3) := by decide +kernel
theorem dX5_init_146 : decode cX5_init 146 = .ok (.aastore, 1) := by decide +kernel
theorem dX5_init_147 : decode cX5_init 147 = .ok (.iinc 4 1, 3) := by decide +kernel
theorem dX5_init_150 : decode cX5_init 150 = .ok (.goto (-24), 3) := by decide +kernel
theorem dX5_init_153 : decode cX5_init 153 = .ok (.iconst 0, 1) := by decide +kernel
theorem dX5_init_154 : decode cX5_init 154 = .ok (.istore 4, 2) := by decide +kernel
theorem dX5_init_156 : decode cX5_init 156 = .ok (.iload 4, 2) := by decide +kernel
theorem dX5_init_158 : decode cX5_init 158 = .ok (.aload_n 0, 1) := by decide +kernel
theorem dX5_init_159 : decode cX5_init 159 = .ok (.getfield 39, 3) := by decide +kernel
theorem dX5_init_162 : decode cX5_init 162 = .ok (.arraylength, 1) := by decide +kernel
theorem dX5_init_163 : decode cX5_init 163 = .ok (.if_icmp .ge 23, 3) := by decide +kernel
theorem dX5_init_166 : decode cX5_init 166 = .ok (.aload_n 0, 1) := by decide +kernel
theorem dX5_init_167 : decode cX5_init 167 = .ok (.getfield 39, 3) := by decide +kernel
theorem dX5_init_170 : decode cX5_init 170 = .ok (.iload 4, 2) := by decide +kernel
theorem dX5_init_172 : decode cX5_init 172 = .ok (.aload_n 0, 1) := by decide +kernel
theorem dX5_init_173 : decode cX5_init 173 = .ok (.getfield 70, 3) := by decide +kernel
theorem dX5_init_176 : decode cX5_init 176 = .ok (.getfield 74, 3) := by decide +kernel
theorem dX5_init_179 : decode cX5_init 179 = .ok (.aastore, 1) := by decide +kernel
theorem dX5_init_180 : decode cX5_init 180 = .ok (.iinc 4 1, 3) := by decide +kernel
theorem dX5_init_183 : decode cX5_init 183 = .ok (.goto (-27), 3) := by decide +kernel
theorem dX5_init_186 : decode cX5_init 186 = .ok (.return_, 1) := by decide +kernel
theorem dX6_init_0 : decode cX6_init 0 = .ok (.aload_n 0, 1) := by decide +kernel
theorem dX6_init_1 : decode cX6_init 1 = .ok (.invokespecial 1, 3) := by decide +kernel
theorem dX6_init_4 : decode cX6_init 4 = .ok (.aload_n 0, 1) := by decide +kernel
theorem dX6_init_5 : decode cX6_init 5 = .ok (.iload_n 1, 1) := by decide +kernel
theorem dX6_init_6 : decode cX6_init 6 = .ok (.newarray .int, 2) := by decide +kernel
theorem dX6_init_8 : decode cX6_init 8 = .ok (.putfield 7, 3) := by decide +kernel
theorem dX6_init_11 : decode cX6_init 11 = .ok (.return_, 1) := by decide +kernel
theorem dX7_init_0 : decode cX7_init 0 = .ok (.aload_n 0, 1) := by decide +kernel
theorem dX7_init_1 : decode cX7_init 1 = .ok (.invokespecial 3, 3) := by decide +kernel
theorem dX7_init_4 : decode cX7_init 4 = .ok (.aload_n 0, 1) := by decide +kernel
theorem dX7_init_5 : decode cX7_init 5 = .ok (.iconst 4, 1) := by decide +kernel
theorem dX7_init_6 : decode cX7_init 6 = .ok (.anewarray 11, 3) := by decide +kernel
theorem dX7_init_9 : decode cX7_init 9 = .ok (.putfield 13, 3) := by decide +kernel
theorem dX7_init_12 : decode cX7_init 12 = .ok (.aload_n 0, 1) := by decide +kernel
theorem dX7_init_13 : decode cX7_init 13 = .ok (.aload_n 1, 1) := by decide +kernel
theorem dX7_init_14 : decode cX7_init 14 = .ok (.putfield 17, 3) := by decide +kernel
theorem dX7_init_17 : decode cX7_init 17 = .ok (.iconst 0, 1) := by decide +kernel
theorem dX7_init_18 : decode cX7_init 18 = .ok (.istore_n 2, 1) := by decide +kernel
theorem dX7_init_19 : decode cX7_init 19 = .ok (.iload_n 2, 1) := by decide +kernel
theorem dX7_init_20 : decode cX7_init 20 = .ok (.iconst 4, 1) := by decide +kernel
theorem dX7_init_21 : decode cX7_init 21 = .ok (.if_icmp .ge 25, 3) := by decide +kernel
theorem dX7_init_24 : decode cX7_init 24 = .ok (.aload_n 0, 1) := by decide +kernel
theorem dX7_init_25 : decode cX7_init 25 = .ok (.getfield 13, 3) := by decide +kernel
theorem dX7_init_28 : decode cX7_init 28 = .ok (.iload_n 2, 1) := by decide +kernel
theorem dX7_init_29 : decode cX7_init 29 = .ok (.new 11, 3) := by decide +kernel
theorem dX7_init_32 : decode cX7_init 32 = .ok (.dup, 1) := by decide +kernel
theorem dX7_init_33 : decode cX7_init 33 = .ok (.sipush 400, 3) := by decide +kernel
theorem dX7_init_36 : decode cX7_init 36 = .ok (.invokespecial 21, 3) := by decide +kernel
theorem dX7_init_39 : decode cX7_init 39 = .ok (.aastore, 1) := by decide +kernel
theorem dX7_init_40 : decode cX7_init 40 = .ok (.iinc 2 1, 3) := by decide +kernel
theorem dX7_init_43 : decode cX7_init 43 = .ok (.goto (-24), 3) := by decide +kernel
theorem dX7_init_46 : decode cX7_init 46 = .ok (.return_, 1) := by decide +kernel
theorem dX8_init_0 : decode cX8_init 0 = .ok (.aload_n 0, 1) := by decide +kernel
theorem dX8_init_1 : decode cX8_init 1 = .ok (.invokespecial 1, 3) := by decide +kernel
theorem dX8_init_4 : decode cX8_init 4 = .ok (.aload_n 0, 1) := by decide +kernel
theorem dX8_init_5 : decode cX8_init 5 = .ok (.aload_n 1, 1) := by decide +kernel
theorem dX8_init_6 : decode cX8_init 6 = .ok (.putfield 7, 3) := by decide +kernel
theorem dX8_init_9 : decode cX8_init 9 = .ok (.aload_n 0, 1) := by decide +kernel
theorem dX8_init_10 : decode cX8_init 10 = .ok (.aload_n 2, 1) := by decide +kernel
theorem dX8_init_11 : decode cX8_init 11 = .ok (.putfield 13, 3) := by decide +kernel
theorem dX8_init_14 : decode cX8_init 14 = .ok (.aload_n 0, 1) := by decide +kernel
theorem dX8_init_15 : decode cX8_init 15 = .ok (.lload_n 3, 1) := by decide +kernel
theorem dX8_init_16 : decode cX8_init 16 = .ok (.putfield 17, 3) := by decide +kernel
theorem dX8_init_19 : decode cX8_init 19 = .ok (.aload_n 0, 1) := by decide +kernel
theorem dX8_init_20 : decode cX8_init 20 = .ok (.iload 5, 2) := by decide +kernel
theorem dX8_init_22 : decode cX8_init 22 = .ok (.putfield 21, 3) := by decide +kernel
theorem dX8_init_25 : decode cX8_init 25 = .ok (.return_, 1) := by decide +kernel
theorem dX10_init_0 : decode cX10_init 0 = .ok (.aload_n 0, 1) := by decide +kernel
theorem dX10_init_1 : decode cX10_init 1 = .ok (.invokespecial 3, 3) := by decide +kernel
theorem dX10_init_4 : decode cX10_init 4 = .ok (.aload_n 0, 1) := by decide +kernel
theorem dX10_init_5 : decode cX10_init 5 = .ok (.aload_n 1, 1) := by decide +kernel
theorem dX10_init_6 : decode cX10_init 6 = .ok (.putfield 9, 3) := by decide +kernel
theorem dX10_init_9 : decode cX10_init 9 = .ok (.aload_n 0, 1) := by decide +kernel
theorem dX10_init_10 : decode cX10_init 10 = .ok (.iload_n 2, 1) := by decide +kernel
theorem dX10_init_11 : decode cX10_init 11 = .ok (.putfield 15, 3) := by decide +kernel
theorem dX10_init_14 : decode cX10_init 14 = .ok (.return_, 1) := by decide +kernel
theorem dJ7_fill_53178_0 : decode cJ7_fill_53178 0 = .ok (.iconst 0, 1) := by decide +kernel
theorem dJ7_fill_53178_1 : decode cJ7_fill_53178 1 = .ok (.istore_n 2, 1) := by decide +kernel
theorem dJ7_fill_53178_2 : decode cJ7_fill_53178 2 = .ok (.aload_n 0, 1) := by decide +kernel
theorem dJ7_fill_53178_3 : decode cJ7_fill_53178 3 = .ok (.arraylength, 1) := by decide +kernel
theorem dJ7_fill_53178_4 : decode cJ7_fill_53178 4 = .ok (.istore_n 3, 1) := by decide +kernel
theorem dJ7_fill_53178_5 : decode cJ7_fill_53178 5 = .ok (.iload_n 2, 1) := by decide +kernel
theorem dJ7_fill_53178_6 : decode cJ7_fill_53178 6 = .ok (.iload_n 3, 1) := by decide +kernel
theorem dJ7_fill_53178_7 : decode cJ7_fill_53178 7 = .ok (.if_icmp .ge 13, 3) := by decide +kernel
theorem dJ7_fill_53178_10 : decode cJ7_fill_53178 10 = .ok (.aload_n 0, 1) := by decide +kernel
theorem dJ7_fill_53178_11 : decode cJ7_fill_53178 11 = .ok (.iload_n 2, 1) := by decide +kernel
theorem dJ7_fill_53178_12 : decode cJ7_fill_53178 12 = .ok (.iload_n 1, 1) := by decide +kernel
theorem dJ7_fill_53178_13 : decode cJ7_fill_53178 13 = .ok (.iastore, 1) := by decide +kernel
theorem dJ7_fill_53178_14 : decode cJ7_fill_53178 14 = .ok (.iinc 2 1, 3) := by decide +kernel
theorem dJ7_fill_53178_17 : decode cJ7_fill_53178 17 = .ok (.goto (-12), 3) := by decide +kernel
theorem dJ7_fill_53178_20 : decode cJ7_fill_53178 20 = .ok (.return_, 1) := by decide +kernel
abbrev vwCl : List vw_C := [(RX0, TX0, 9), (RX1, TX1, 12), (RX2, TX2, 6), (RX3, TX3, 5), (RX4, TX4, 5), (RX5, TX5, 17), (RX6, TX6, 2), (RX7, TX7, 6), (RX8, TX8, 4), (RX9, TX9, 11), (RX10, TX10, 2), (RX11, TX11, 9), (RX12, TX12, 94)]
set_option maxRecDepth 20000 in
theorem ggX1_init_X6_init : GoodIn wsX1_init wsX6_init := goodIn_r _ [18, 19, 2, 3, 9, 20, 21, 22] (by decide +kernel) (by decide +kernel)
set_option maxRecDepth 20000 in
theorem gX1_init_X6_init : GoodIn wsX1_init (wsX6_init) := ggX1_init_X6_init
set_option maxRecDepth 20000 in
theorem ggX2_init_J7_fill_53178 : GoodIn wsX2_init wsJ7_fill_53178 := goodIn_r _ [13] (by decide +kernel) (by decide +kernel)
set_option maxRecDepth 20000 in
theorem gX2_init_J7_fill_53178 : GoodIn wsX2_init (va_wsS RX2 29 yJ7_fill_53178 wsJ7_fill_53178) := goodIn_app (goodIn_of _ (by decide +kernel)) ggX2_init_J7_fill_53178
set_option maxRecDepth 20000 in
theorem ggX5_init_X6_init : GoodIn wsX5_init wsX6_init := goodIn_r _ [31, 32, 2, 3, 26, 33, 73, 74] (by decide +kernel) (by decide +kernel)
set_option maxRecDepth 20000 in
theorem gX5_init_X6_init : GoodIn wsX5_init (wsX6_init) := ggX5_init_X6_init
set_option maxRecDepth 20000 in
theorem ggX5_init_X7_init : GoodIn wsX5_init wsX7_init := goodIn_r _ [36, 37, 2, 3, 38, 39, 40, 9, 10, 41, 30, 31, 32, 26, 33, 75, 76, 77, 78, 79, 80, 73, 74] (by decide +kernel) (by decide +kernel)
set_option maxRecDepth 20000 in
theorem gX5_init_X7_init : GoodIn wsX5_init (wsX7_init) := ggX5_init_X7_init
set_option maxRecDepth 20000 in
theorem ggX5_init_X10_init : GoodIn wsX5_init wsX10_init := goodIn_r _ [44, 45, 2, 3, 46, 47, 85, 86] (by decide +kernel) (by decide +kernel)
set_option maxRecDepth 20000 in
theorem gX5_init_X10_init : GoodIn wsX5_init (wsX10_init) := ggX5_init_X10_init
set_option maxRecDepth 20000 in
theorem ggX5_init_X8_init : GoodIn wsX5_init wsX8_init := goodIn_r _ [50, 51, 2, 3, 52, 53, 54, 55, 81, 82, 83, 84] (by decide +kernel) (by decide +kernel)
set_option maxRecDepth 20000 in
theorem gX5_init_X8_init : GoodIn wsX5_init (wsX8_init) := ggX5_init_X8_init
set_option maxRecDepth 20000 in
theorem ggX7_init_X6_init : GoodIn wsX7_init wsX6_init := goodIn_r _ [11, 12, 2, 3, 13, 14, 21, 22] (by decide +kernel) (by decide +kernel)
set_option maxRecDepth 20000 in
theorem gX7_init_X6_init : GoodIn wsX7_init (wsX6_init) := ggX7_init_X6_init
