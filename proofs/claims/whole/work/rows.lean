section
/-! ===== BEGIN words of one list among another's, by their places ===== -/
theorem goodIn_r {big : List Cond} (ws : List Cond) (ps : List Nat) (hp : ws = ps.filterMap (fun i => big[i]?)) (h : ws.all goodWord = true) : GoodIn big ws := by
  intro w hw
  have h1 := List.all_eq_true.mp h w hw
  rw [hp] at hw
  obtain ⟨i, -, hi⟩ := List.mem_filterMap.mp hw
  have hm : w ∈ big := by first | exact List.mem_of_getElem? hi | exact List.getElem?_mem hi
  exact ⟨hm, good_of_word h1⟩
theorem goodIn_app {big a b : List Cond} (ha : GoodIn big a) (hb : GoodIn big b) : GoodIn big (a ++ b) := fun w h => (List.mem_append.mp h).elim (ha w) (hb w)
/-! ===== END ===== -/
/-! ===== BEGIN printed: names, fields, word lists, decode rows ===== -/
def RX0 : String := "PutBack$Desk"
def TX0 : u_T := fun k => match k with
  | 0 => ("PutBack$Desk", "lens", "LPutBack$Lens;", false)
  | 1 => ("PutBack$Desk", "number", "I", false)
  | 2 => ("PutBack$Desk", "kept", "I", false)
  | 3 => ("PutBack$Desk", "refused", "I", false)
  | 4 => ("PutBack$Desk", "hasMoved", "Z", false)
  | 5 => ("PutBack$Desk", "stayed", "I", false)
  | 6 => ("PutBack$Desk", "went", "I", false)
  | 7 => ("PutBack$Desk", "came", "I", false)
  | 8 => ("PutBack$Desk", "source", "LPutBack$Text;", true)
  | 9 => ("PutBack$Desk", "view", "LPutBack$Text;", true)
  | 10 => ("PutBack$Desk", "spare", "LPutBack$Text;", true)
  | 11 => ("PutBack$Desk", "outcome", "LPutBack$Text;", true)
  | 12 => ("PutBack$Desk", "oldSources", "[LPutBack$Text;", true)
  | 13 => ("PutBack$Desk", "oldViews", "[LPutBack$Text;", true)
  | _ => ("PutBack$Desk", "newest", "I", false)
def tyX0 : Nat → FieldType := fun k => match k with
  | 0 => .object "PutBack$Lens"
  | 1 => .int
  | 2 => .int
  | 3 => .int
  | 4 => .boolean
  | 5 => .int
  | 6 => .int
  | 7 => .int
  | 8 => .object "PutBack$Text"
  | 9 => .object "PutBack$Text"
  | 10 => .object "PutBack$Text"
  | 11 => .object "PutBack$Text"
  | 12 => .array (.object "PutBack$Text")
  | 13 => .array (.object "PutBack$Text")
  | _ => .int
abbrev wsX00 : List Cond := u_ws RX0 TX0 15
theorem nmX0 : ∀ a, a < 15 → ∀ b, b < 15 → a ≠ b → (TX0 a).2.1 ≠ (TX0 b).2.1 := by decide +kernel
theorem tyX0_ok : ∀ k, k < 15 → parseFieldDescriptor (TX0 k).2.2.1 = some (tyX0 k) := by decide +kernel
def RX1 : String := "PutBack$Lens"
def TX1 : u_T := fun k => match k with
  | 0 => ("PutBack$Lens", "kind", "I", true)
  | 1 => ("PutBack$Lens", "source", "LPutBack$TextSet;", true)
  | 2 => ("PutBack$Lens", "view", "LPutBack$TextSet;", true)
  | 3 => ("PutBack$Lens", "kids", "[LPutBack$Lens;", true)
  | 4 => ("PutBack$Lens", "hasKey", "Z", true)
  | 5 => ("PutBack$Lens", "order", "[I", false)
  | 6 => ("PutBack$Lens", "halves", "[LPutBack$Lens;", false)
  | 7 => ("PutBack$Lens", "same", "[Z", false)
  | 8 => ("PutBack$Lens", "quoted", "[B", false)
  | 9 => ("PutBack$Lens", "lastLink", "LPutBack$Lens;", false)
  | 10 => ("PutBack$Lens", "simpler", "LPutBack$Lens;", false)
  | 11 => ("PutBack$Lens", "number", "I", false)
  | 12 => ("PutBack$Lens", "growth", "I", false)
  | 13 => ("PutBack$Lens", "oneToOne", "Z", false)
  | 14 => ("PutBack$Lens", "stepwise", "Z", false)
  | 15 => ("PutBack$Lens", "kept", "J", false)
  | 16 => ("PutBack$Lens", "shownBy", "I", false)
  | 17 => ("PutBack$Lens", "madeBy", "I", false)
  | 18 => ("PutBack$Lens", "time", "I", false)
  | _ => ("PutBack$Lens", "weight", "I", false)
def tyX1 : Nat → FieldType := fun k => match k with
  | 0 => .int
  | 1 => .object "PutBack$TextSet"
  | 2 => .object "PutBack$TextSet"
  | 3 => .array (.object "PutBack$Lens")
  | 4 => .boolean
  | 5 => .array .int
  | 6 => .array (.object "PutBack$Lens")
  | 7 => .array .boolean
  | 8 => .array .byte
  | 9 => .object "PutBack$Lens"
  | 10 => .object "PutBack$Lens"
  | 11 => .int
  | 12 => .int
  | 13 => .boolean
  | 14 => .boolean
  | 15 => .long
  | 16 => .int
  | 17 => .int
  | 18 => .int
  | _ => .int
abbrev wsX10 : List Cond := u_ws RX1 TX1 20
theorem nmX1 : ∀ a, a < 20 → ∀ b, b < 20 → a ≠ b → (TX1 a).2.1 ≠ (TX1 b).2.1 := by decide +kernel
theorem tyX1_ok : ∀ k, k < 20 → parseFieldDescriptor (TX1 k).2.2.1 = some (tyX1 k) := by decide +kernel
def RX2 : String := "PutBack$Machine"
def TX2 : u_T := fun k => match k with
  | 0 => ("PutBack$Machine", "store", "[B", false)
  | 1 => ("PutBack$Machine", "top", "I", false)
  | 2 => ("PutBack$Machine", "waiting", "[LPutBack$Lens;", false)
  | 3 => ("PutBack$Machine", "ranges", "[I", false)
  | 4 => ("PutBack$Machine", "waits", "I", false)
  | 5 => ("PutBack$Machine", "marks", "[I", false)
  | 6 => ("PutBack$Machine", "marked", "I", false)
  | 7 => ("PutBack$Machine", "steps", "J", false)
  | 8 => ("PutBack$Machine", "words", "LPutBack$Words;", true)
  | 9 => ("PutBack$Machine", "recall", "LPutBack$Recall;", true)
  | 10 => ("PutBack$Machine", "viewFrom", "[I", true)
  | 11 => ("PutBack$Machine", "viewTo", "[I", true)
  | 12 => ("PutBack$Machine", "sourceFrom", "[I", true)
  | 13 => ("PutBack$Machine", "sourceTo", "[I", true)
  | 14 => ("PutBack$Machine", "viewParts", "LPutBack$Parts;", true)
  | _ => ("PutBack$Machine", "sourceParts", "LPutBack$Parts;", true)
def tyX2 : Nat → FieldType := fun k => match k with
  | 0 => .array .byte
  | 1 => .int
  | 2 => .array (.object "PutBack$Lens")
  | 3 => .array .int
  | 4 => .int
  | 5 => .array .int
  | 6 => .int
  | 7 => .long
  | 8 => .object "PutBack$Words"
  | 9 => .object "PutBack$Recall"
  | 10 => .array .int
  | 11 => .array .int
  | 12 => .array .int
  | 13 => .array .int
  | 14 => .object "PutBack$Parts"
  | _ => .object "PutBack$Parts"
abbrev wsX20 : List Cond := u_ws RX2 TX2 16
theorem nmX2 : ∀ a, a < 16 → ∀ b, b < 16 → a ≠ b → (TX2 a).2.1 ≠ (TX2 b).2.1 := by decide +kernel
theorem tyX2_ok : ∀ k, k < 16 → parseFieldDescriptor (TX2 k).2.2.1 = some (tyX2 k) := by decide +kernel
def RX3 : String := "PutBack$Parts"
def TX3 : u_T := fun k => match k with
  | 0 => ("PutBack$Parts", "from", "[I", true)
  | 1 => ("PutBack$Parts", "to", "[I", true)
  | 2 => ("PutBack$Parts", "keyFrom", "[I", true)
  | 3 => ("PutBack$Parts", "keyTo", "[I", true)
  | 4 => ("PutBack$Parts", "partner", "[I", true)
  | _ => ("PutBack$Parts", "count", "I", false)
def tyX3 : Nat → FieldType := fun k => match k with
  | 0 => .array .int
  | 1 => .array .int
  | 2 => .array .int
  | 3 => .array .int
  | 4 => .array .int
  | _ => .int
abbrev wsX30 : List Cond := u_ws RX3 TX3 6
theorem nmX3 : ∀ a, a < 6 → ∀ b, b < 6 → a ≠ b → (TX3 a).2.1 ≠ (TX3 b).2.1 := by decide +kernel
theorem tyX3_ok : ∀ k, k < 6 → parseFieldDescriptor (TX3 k).2.2.1 = some (tyX3 k) := by decide +kernel
def RX4 : String := "PutBack$Reader"
def TX4 : u_T := fun k => match k with
  | 0 => ("PutBack$Reader", "lenses", "[LPutBack$Lens;", true)
  | 1 => ("PutBack$Reader", "told", "I", false)
  | 2 => ("PutBack$Reader", "length", "I", false)
  | 3 => ("PutBack$Reader", "fault", "I", false)
  | 4 => ("PutBack$Reader", "faultPlace", "I", false)
  | 5 => ("PutBack$Reader", "shownBy", "I", false)
  | 6 => ("PutBack$Reader", "tape", "[I", true)
  | 7 => ("PutBack$Reader", "names", "[J", true)
  | 8 => ("PutBack$Reader", "quoted", "[B", true)
  | 9 => ("PutBack$Reader", "links", "[LPutBack$Lens;", true)
  | 10 => ("PutBack$Reader", "walker", "LPutBack$Walker;", true)
  | 11 => ("PutBack$Reader", "quotedLength", "I", false)
  | 12 => ("PutBack$Reader", "place", "I", false)
  | _ => ("PutBack$Reader", "opened", "I", false)
def tyX4 : Nat → FieldType := fun k => match k with
  | 0 => .array (.object "PutBack$Lens")
  | 1 => .int
  | 2 => .int
  | 3 => .int
  | 4 => .int
  | 5 => .int
  | 6 => .array .int
  | 7 => .array .long
  | 8 => .array .byte
  | 9 => .array (.object "PutBack$Lens")
  | 10 => .object "PutBack$Walker"
  | 11 => .int
  | 12 => .int
  | _ => .int
abbrev wsX40 : List Cond := u_ws RX4 TX4 14
theorem nmX4 : ∀ a, a < 14 → ∀ b, b < 14 → a ≠ b → (TX4 a).2.1 ≠ (TX4 b).2.1 := by decide +kernel
theorem tyX4_ok : ∀ k, k < 14 → parseFieldDescriptor (TX4 k).2.2.1 = some (tyX4 k) := by decide +kernel
def RX5 : String := "PutBack$Recall"
def TX5 : u_T := fun k => match k with
  | 0 => ("PutBack$Recall", "told", "[B", true)
  | 1 => ("PutBack$Recall", "length", "I", false)
  | 2 => ("PutBack$Recall", "asked", "[J", true)
  | 3 => ("PutBack$Recall", "rows", "[J", false)
  | 4 => ("PutBack$Recall", "buckets", "I", false)
  | 5 => ("PutBack$Recall", "turn", "I", false)
  | _ => ("PutBack$Recall", "numbers", "I", false)
def tyX5 : Nat → FieldType := fun k => match k with
  | 0 => .array .byte
  | 1 => .int
  | 2 => .array .long
  | 3 => .array .long
  | 4 => .int
  | 5 => .int
  | _ => .int
abbrev wsX50 : List Cond := u_ws RX5 TX5 7
theorem nmX5 : ∀ a, a < 7 → ∀ b, b < 7 → a ≠ b → (TX5 a).2.1 ≠ (TX5 b).2.1 := by decide +kernel
theorem tyX5_ok : ∀ k, k < 7 → parseFieldDescriptor (TX5 k).2.2.1 = some (tyX5 k) := by decide +kernel
def RX6 : String := "PutBack$Text"
def TX6 : u_T := fun k => match k with
  | 0 => ("PutBack$Text", "ranks", "[B", true)
  | _ => ("PutBack$Text", "length", "I", false)
def tyX6 : Nat → FieldType := fun k => match k with
  | 0 => .array .byte
  | _ => .int
abbrev wsX60 : List Cond := u_ws RX6 TX6 2
theorem nmX6 : ∀ a, a < 2 → ∀ b, b < 2 → a ≠ b → (TX6 a).2.1 ≠ (TX6 b).2.1 := by decide +kernel
theorem tyX6_ok : ∀ k, k < 2 → parseFieldDescriptor (TX6 k).2.2.1 = some (tyX6 k) := by decide +kernel
def RX7 : String := "PutBack$TextSet"
def TX7 : u_T := fun k => match k with
  | 0 => ("PutBack$TextSet", "count", "I", true)
  | 1 => ("PutBack$TextSet", "allowed", "[J", true)
  | 2 => ("PutBack$TextSet", "behind", "[J", true)
  | 3 => ("PutBack$TextSet", "first", "J", false)
  | 4 => ("PutBack$TextSet", "last", "J", false)
  | 5 => ("PutBack$TextSet", "hasEmpty", "Z", false)
  | _ => ("PutBack$TextSet", "isEndless", "Z", false)
def tyX7 : Nat → FieldType := fun k => match k with
  | 0 => .int
  | 1 => .array .long
  | 2 => .array .long
  | 3 => .long
  | 4 => .long
  | 5 => .boolean
  | _ => .boolean
abbrev wsX70 : List Cond := u_ws RX7 TX7 7
theorem nmX7 : ∀ a, a < 7 → ∀ b, b < 7 → a ≠ b → (TX7 a).2.1 ≠ (TX7 b).2.1 := by decide +kernel
theorem tyX7_ok : ∀ k, k < 7 → parseFieldDescriptor (TX7 k).2.2.1 = some (tyX7 k) := by decide +kernel
def RX8 : String := "PutBack$Trial"
def TX8 : u_T := fun k => match k with
  | 0 => ("PutBack$Trial", "sources", "[LPutBack$Text;", true)
  | 1 => ("PutBack$Trial", "views", "[LPutBack$Text;", true)
  | 2 => ("PutBack$Trial", "backs", "[LPutBack$Text;", true)
  | 3 => ("PutBack$Trial", "made", "[Z", true)
  | 4 => ("PutBack$Trial", "outcome", "LPutBack$Text;", true)
  | 5 => ("PutBack$Trial", "sourceCount", "I", false)
  | _ => ("PutBack$Trial", "viewCount", "I", false)
def tyX8 : Nat → FieldType := fun k => match k with
  | 0 => .array (.object "PutBack$Text")
  | 1 => .array (.object "PutBack$Text")
  | 2 => .array (.object "PutBack$Text")
  | 3 => .array .boolean
  | 4 => .object "PutBack$Text"
  | 5 => .int
  | _ => .int
abbrev wsX80 : List Cond := u_ws RX8 TX8 7
theorem nmX8 : ∀ a, a < 7 → ∀ b, b < 7 → a ≠ b → (TX8 a).2.1 ≠ (TX8 b).2.1 := by decide +kernel
theorem tyX8_ok : ∀ k, k < 7 → parseFieldDescriptor (TX8 k).2.2.1 = some (tyX8 k) := by decide +kernel
def RX9 : String := "PutBack$Walker"
def TX9 : u_T := fun k => match k with
  | 0 => ("PutBack$Walker", "seen", "[J", true)
  | 1 => ("PutBack$Walker", "waiting", "[I", true)
  | 2 => ("PutBack$Walker", "waits", "I", false)
  | 3 => ("PutBack$Walker", "ways", "[J", true)
  | 4 => ("PutBack$Walker", "counted", "LPutBack$TextSet;", false)
  | _ => ("PutBack$Walker", "rows", "I", false)
def tyX9 : Nat → FieldType := fun k => match k with
  | 0 => .array .long
  | 1 => .array .int
  | 2 => .int
  | 3 => .array .long
  | 4 => .object "PutBack$TextSet"
  | _ => .int
abbrev wsX90 : List Cond := u_ws RX9 TX9 6
theorem nmX9 : ∀ a, a < 6 → ∀ b, b < 6 → a ≠ b → (TX9 a).2.1 ≠ (TX9 b).2.1 := by decide +kernel
theorem tyX9_ok : ∀ k, k < 6 → parseFieldDescriptor (TX9 k).2.2.1 = some (tyX9 k) := by decide +kernel
def RX10 : String := "PutBack$Words"
def TX10 : u_T := fun k => match k with
  | 0 => ("PutBack$Words", "told", "[B", true)
  | 1 => ("PutBack$Words", "lenses", "[LPutBack$Lens;", false)
  | 2 => ("PutBack$Words", "states", "[I", false)
  | 3 => ("PutBack$Words", "atoms", "I", false)
  | 4 => ("PutBack$Words", "first", "[I", false)
  | 5 => ("PutBack$Words", "times", "[J", false)
  | 6 => ("PutBack$Words", "rest", "[I", false)
  | 7 => ("PutBack$Words", "nodes", "I", false)
  | 8 => ("PutBack$Words", "places", "[I", false)
  | 9 => ("PutBack$Words", "asked", "[I", false)
  | 10 => ("PutBack$Words", "answers", "[I", false)
  | 11 => ("PutBack$Words", "answered", "I", false)
  | 12 => ("PutBack$Words", "stack", "[I", false)
  | 13 => ("PutBack$Words", "stackTimes", "[J", false)
  | 14 => ("PutBack$Words", "stacked", "I", false)
  | 15 => ("PutBack$Words", "symbol", "I", false)
  | 16 => ("PutBack$Words", "failed", "Z", false)
  | _ => ("PutBack$Words", "time", "I", false)
def tyX10 : Nat → FieldType := fun k => match k with
  | 0 => .array .byte
  | 1 => .array (.object "PutBack$Lens")
  | 2 => .array .int
  | 3 => .int
  | 4 => .array .int
  | 5 => .array .long
  | 6 => .array .int
  | 7 => .int
  | 8 => .array .int
  | 9 => .array .int
  | 10 => .array .int
  | 11 => .int
  | 12 => .array .int
  | 13 => .array .long
  | 14 => .int
  | 15 => .int
  | 16 => .boolean
  | _ => .int
abbrev wsX100 : List Cond := u_ws RX10 TX10 18
theorem nmX10 : ∀ a, a < 18 → ∀ b, b < 18 → a ≠ b → (TX10 a).2.1 ≠ (TX10 b).2.1 := by decide +kernel
theorem tyX10_ok : ∀ k, k < 18 → parseFieldDescriptor (TX10 k).2.2.1 = some (tyX10 k) := by decide +kernel
def RX11 : String := "PutBack"
def TX11 : u_T := fun k => match k with
  | 0 => ("PutBack", "slots", "[LPutBack$Text;", true)
  | 1 => ("PutBack", "walker", "LPutBack$Walker;", true)
  | 2 => ("PutBack", "reader", "LPutBack$Reader;", true)
  | 3 => ("PutBack", "machine", "LPutBack$Machine;", true)
  | 4 => ("PutBack", "trial", "LPutBack$Trial;", true)
  | _ => ("PutBack", "desk", "LPutBack$Desk;", true)
def tyX11 : Nat → FieldType := fun k => match k with
  | 0 => .array (.object "PutBack$Text")
  | 1 => .object "PutBack$Walker"
  | 2 => .object "PutBack$Reader"
  | 3 => .object "PutBack$Machine"
  | 4 => .object "PutBack$Trial"
  | _ => .object "PutBack$Desk"
abbrev wsX110 : List Cond := u_ws RX11 TX11 6
theorem nmX11 : ∀ a, a < 6 → ∀ b, b < 6 → a ≠ b → (TX11 a).2.1 ≠ (TX11 b).2.1 := by decide +kernel
theorem tyX11_ok : ∀ k, k < 6 → parseFieldDescriptor (TX11 k).2.2.1 = some (tyX11 k) := by decide +kernel
def RX12 : String := "PutBackModel"
def TX12 : u_T := fun k => match k with
  | 0 => ("PutBackModel", "told", "I", false)
  | 1 => ("PutBackModel", "setAt", "[I", true)
  | 2 => ("PutBackModel", "setMany", "[I", true)
  | 3 => ("PutBackModel", "setFirst", "[J", true)
  | 4 => ("PutBackModel", "setLast", "[J", true)
  | 5 => ("PutBackModel", "setEmpty", "[Z", true)
  | 6 => ("PutBackModel", "sets", "I", false)
  | 7 => ("PutBackModel", "symbols", "[J", true)
  | 8 => ("PutBackModel", "behind", "[J", true)
  | 9 => ("PutBackModel", "pool", "I", false)
  | 10 => ("PutBackModel", "isPair", "[Z", true)
  | 11 => ("PutBackModel", "pairs", "[I", true)
  | 12 => ("PutBackModel", "ways", "[J", true)
  | 13 => ("PutBackModel", "heap", "[I", true)
  | 14 => ("PutBackModel", "top", "I", false)
  | 15 => ("PutBackModel", "nodeKind", "[I", true)
  | 16 => ("PutBackModel", "nodeA", "[I", true)
  | 17 => ("PutBackModel", "nodeB", "[I", true)
  | 18 => ("PutBackModel", "nodeS", "[I", true)
  | 19 => ("PutBackModel", "nodeV", "[I", true)
  | 20 => ("PutBackModel", "nodeWord", "[I", true)
  | 21 => ("PutBackModel", "nodeLong", "[I", true)
  | 22 => ("PutBackModel", "nodeSame", "[Z", true)
  | 23 => ("PutBackModel", "nodes", "I", false)
  | 24 => ("PutBackModel", "words", "[I", true)
  | 25 => ("PutBackModel", "wordsLong", "I", false)
  | 26 => ("PutBackModel", "root", "[I", true)
  | 27 => ("PutBackModel", "name", "[J", true)
  | 28 => ("PutBackModel", "lenses", "I", false)
  | 29 => ("PutBackModel", "partFrom", "[I", true)
  | 30 => ("PutBackModel", "partLong", "[I", true)
  | 31 => ("PutBackModel", "partKey", "[I", true)
  | 32 => ("PutBackModel", "partKeyLong", "[I", true)
  | 33 => ("PutBackModel", "isTaken", "[Z", true)
  | 34 => ("PutBackModel", "partsTop", "I", false)
  | 35 => ("PutBackModel", "outsAt", "[I", true)
  | 36 => ("PutBackModel", "outsLong", "[I", true)
  | 37 => ("PutBackModel", "outsTop", "I", false)
  | 38 => ("PutBackModel", "tape", "[B", true)
  | 39 => ("PutBackModel", "taped", "I", false)
  | 40 => ("PutBackModel", "at", "I", false)
  | 41 => ("PutBackModel", "place", "I", false)
  | 42 => ("PutBackModel", "kind", "I", false)
  | 43 => ("PutBackModel", "sign", "I", false)
  | 44 => ("PutBackModel", "word", "J", false)
  | 45 => ("PutBackModel", "isFaulty", "Z", false)
  | 46 => ("PutBackModel", "fault", "I", false)
  | 47 => ("PutBackModel", "faultPlace", "I", false)
  | 48 => ("PutBackModel", "shownBy", "I", false)
  | 49 => ("PutBackModel", "open", "I", false)
  | 50 => ("PutBackModel", "slots", "[I", true)
  | 51 => ("PutBackModel", "slotLong", "[I", true)
  | 52 => ("PutBackModel", "partAt", "I", false)
  | 53 => ("PutBackModel", "partHow", "I", false)
  | 54 => ("PutBackModel", "leastAt", "[I", true)
  | 55 => ("PutBackModel", "leastLong", "[I", true)
  | 56 => ("PutBackModel", "openLens", "I", false)
  | 57 => ("PutBackModel", "sides", "[I", true)
  | 58 => ("PutBackModel", "sideLong", "[I", true)
  | 59 => ("PutBackModel", "were", "[I", true)
  | 60 => ("PutBackModel", "wereLong", "[I", true)
  | 61 => ("PutBackModel", "undos", "I", false)
  | 62 => ("PutBackModel", "nones", "I", false)
  | 63 => ("PutBackModel", "isMoved", "Z", false)
  | _ => ("PutBackModel", "movedBy", "[I", true)
def tyX12 : Nat → FieldType := fun k => match k with
  | 0 => .int
  | 1 => .array .int
  | 2 => .array .int
  | 3 => .array .long
  | 4 => .array .long
  | 5 => .array .boolean
  | 6 => .int
  | 7 => .array .long
  | 8 => .array .long
  | 9 => .int
  | 10 => .array .boolean
  | 11 => .array .int
  | 12 => .array .long
  | 13 => .array .int
  | 14 => .int
  | 15 => .array .int
  | 16 => .array .int
  | 17 => .array .int
  | 18 => .array .int
  | 19 => .array .int
  | 20 => .array .int
  | 21 => .array .int
  | 22 => .array .boolean
  | 23 => .int
  | 24 => .array .int
  | 25 => .int
  | 26 => .array .int
  | 27 => .array .long
  | 28 => .int
  | 29 => .array .int
  | 30 => .array .int
  | 31 => .array .int
  | 32 => .array .int
  | 33 => .array .boolean
  | 34 => .int
  | 35 => .array .int
  | 36 => .array .int
  | 37 => .int
  | 38 => .array .byte
  | 39 => .int
  | 40 => .int
  | 41 => .int
  | 42 => .int
  | 43 => .int
  | 44 => .long
  | 45 => .boolean
  | 46 => .int
  | 47 => .int
  | 48 => .int
  | 49 => .int
  | 50 => .array .int
  | 51 => .array .int
  | 52 => .int
  | 53 => .int
  | 54 => .array .int
  | 55 => .array .int
  | 56 => .int
  | 57 => .array .int
  | 58 => .array .int
  | 59 => .array .int
  | 60 => .array .int
  | 61 => .int
  | 62 => .int
  | 63 => .boolean
  | _ => .array .int
abbrev wsX120 : List Cond := u_ws RX12 TX12 65
theorem nmX12 : ∀ a, a < 65 → ∀ b, b < 65 → a ≠ b → (TX12 a).2.1 ≠ (TX12 b).2.1 := by decide +kernel
theorem tyX12_ok : ∀ k, k < 65 → parseFieldDescriptor (TX12 k).2.2.1 = some (tyX12 k) := by decide +kernel
abbrev cX12_aligned : ByteArray := prog_14_method_115_code
def yX12_aligned : MethodName := ⟨RX12, "aligned", "(IIII)I"⟩
abbrev cX12_compare : ByteArray := prog_14_method_108_code
def yX12_compare : MethodName := ⟨RX12, "compare", "(IIII)I"⟩
abbrev cX12_copy : ByteArray := prog_14_method_134_code
def yX12_copy : MethodName := ⟨RX12, "copy", "(II)I"⟩
abbrev cX12_create : ByteArray := prog_14_method_105_code
def yX12_create : MethodName := ⟨RX12, "create", "(III)I"⟩
abbrev cX12_edit : ByteArray := prog_14_method_132_code
def yX12_edit : MethodName := ⟨RX12, "edit", "(IIII)I"⟩
abbrev cX12_fault : ByteArray := prog_14_method_89_code
def yX12_fault : MethodName := ⟨RX12, "fault", "(I)I"⟩
abbrev cX12_fits : ByteArray := prog_14_method_102_code
def yX12_fits : MethodName := ⟨RX12, "fits", "(III)I"⟩
abbrev cX12_get : ByteArray := prog_14_method_103_code
def yX12_get : MethodName := ⟨RX12, "get", "(III)I"⟩
abbrev cX12_goesOn : ByteArray := prog_14_method_110_code
def yX12_goesOn : MethodName := ⟨RX12, "goesOn", "(IIII)I"⟩
abbrev cX12_isIn : ByteArray := prog_14_method_3_code
def yX12_isIn : MethodName := ⟨RX12, "isIn", "(JJJ)Z"⟩
abbrev cX12_isLens : ByteArray := prog_14_method_93_code
def yX12_isLens : MethodName := ⟨RX12, "isLens", "(I)Z"⟩
abbrev cX12_isRepeated : ByteArray := prog_14_method_113_code
def yX12_isRepeated : MethodName := ⟨RX12, "isRepeated", "(II)Z"⟩
abbrev cX12_isSide : ByteArray := prog_14_method_94_code
def yX12_isSide : MethodName := ⟨RX12, "isSide", "(I)Z"⟩
abbrev cX12_isSlot : ByteArray := prog_14_method_92_code
def yX12_isSlot : MethodName := ⟨RX12, "isSlot", "(I)Z"⟩
abbrev cX12_key : ByteArray := prog_14_method_117_code
def yX12_key : MethodName := ⟨RX12, "key", "(IIII)I"⟩
abbrev cX12_laws : ByteArray := prog_14_method_125_code
def yX12_laws : MethodName := ⟨RX12, "laws", "(III)I"⟩
abbrev cX12_look : ByteArray := prog_14_method_138_code
def yX12_look : MethodName := ⟨RX12, "look", "(I)I"⟩
abbrev cX12_many : ByteArray := prog_14_method_106_code
def yX12_many : MethodName := ⟨RX12, "many", "(III)J"⟩
abbrev cX12_moved : ByteArray := prog_14_method_135_code
def yX12_moved : MethodName := ⟨RX12, "moved", "(I)I"⟩
abbrev cX12_nth : ByteArray := prog_14_method_107_code
def yX12_nth : MethodName := ⟨RX12, "nth", "(IIII)I"⟩
abbrev cX12_open : ByteArray := prog_14_method_128_code
def yX12_open : MethodName := ⟨RX12, "open", "(II)I"⟩
abbrev cX12_parts : ByteArray := prog_14_method_114_code
def yX12_parts : MethodName := ⟨RX12, "parts", "(II)I"⟩
abbrev cX12_put : ByteArray := prog_14_method_104_code
def yX12_put : MethodName := ⟨RX12, "put", "(IIII)I"⟩
abbrev cX12_set : ByteArray := prog_14_method_109_code
def yX12_set : MethodName := ⟨RX12, "set", "(III)I"⟩
abbrev cX12_undo : ByteArray := prog_14_method_133_code
def yX12_undo : MethodName := ⟨RX12, "undo", "()Z"⟩
abbrev cls : List vw_C := [(RX0, TX0, 15), (RX1, TX1, 20), (RX2, TX2, 16), (RX3, TX3, 6), (RX4, TX4, 14), (RX5, TX5, 7), (RX6, TX6, 2), (RX7, TX7, 7), (RX8, TX8, 7), (RX9, TX9, 6), (RX10, TX10, 18), (RX11, TX11, 6), (RX12, TX12, 65)]
end
section
theorem dX12_isIn_0 : decode cX12_isIn 0 = .ok (.lload_n 1, 1) := by decide +kernel
theorem dX12_isIn_1 : decode cX12_isIn 1 = .ok (.lload_n 3, 1) := by decide +kernel
theorem dX12_isIn_2 : decode cX12_isIn 2 = .ok (.lcmp, 1) := by decide +kernel
theorem dX12_isIn_3 : decode cX12_isIn 3 = .ok (.ifCond .lt 14, 3) := by decide +kernel
theorem dX12_isIn_6 : decode cX12_isIn 6 = .ok (.lload_n 1, 1) := by decide +kernel
theorem dX12_isIn_7 : decode cX12_isIn 7 = .ok (.lload 5, 2) := by decide +kernel
theorem dX12_isIn_9 : decode cX12_isIn 9 = .ok (.lcmp, 1) := by decide +kernel
theorem dX12_isIn_10 : decode cX12_isIn 10 = .ok (.ifCond .gt 7, 3) := by decide +kernel
theorem dX12_isIn_13 : decode cX12_isIn 13 = .ok (.iconst 1, 1) := by decide +kernel
theorem dX12_isIn_14 : decode cX12_isIn 14 = .ok (.goto 4, 3) := by decide +kernel
theorem dX12_isIn_17 : decode cX12_isIn 17 = .ok (.iconst 0, 1) := by decide +kernel
theorem dX12_isIn_18 : decode cX12_isIn 18 = .ok (.ireturn, 1) := by decide +kernel
theorem dX12_isSlot_0 : decode cX12_isSlot 0 = .ok (.aload_n 0, 1) := by decide +kernel
theorem dX12_isSlot_1 : decode cX12_isSlot 1 = .ok (.iload_n 1, 1) := by decide +kernel
theorem dX12_isSlot_2 : decode cX12_isSlot 2 = .ok (.i2l, 1) := by decide +kernel
theorem dX12_isSlot_3 : decode cX12_isSlot 3 = .ok (.lconst 0, 1) := by decide +kernel
theorem dX12_isSlot_4 : decode cX12_isSlot 4 = .ok (.ldc2_w 512, 3) := by decide +kernel
theorem dX12_isSlot_7 : decode cX12_isSlot 7 = .ok (.invokevirtual 153, 3) := by decide +kernel
theorem dX12_isSlot_10 : decode cX12_isSlot 10 = .ok (.ireturn, 1) := by decide +kernel
theorem dX12_isSide_0 : decode cX12_isSide 0 = .ok (.aload_n 0, 1) := by decide +kernel
theorem dX12_isSide_1 : decode cX12_isSide 1 = .ok (.iload_n 1, 1) := by decide +kernel
theorem dX12_isSide_2 : decode cX12_isSide 2 = .ok (.i2l, 1) := by decide +kernel
theorem dX12_isSide_3 : decode cX12_isSide 3 = .ok (.lconst 0, 1) := by decide +kernel
theorem dX12_isSide_4 : decode cX12_isSide 4 = .ok (.lconst 1, 1) := by decide +kernel
theorem dX12_isSide_5 : decode cX12_isSide 5 = .ok (.invokevirtual 153, 3) := by decide +kernel
theorem dX12_isSide_8 : decode cX12_isSide 8 = .ok (.ireturn, 1) := by decide +kernel
theorem dX12_isLens_0 : decode cX12_isLens 0 = .ok (.aload_n 0, 1) := by decide +kernel
theorem dX12_isLens_1 : decode cX12_isLens 1 = .ok (.iload_n 1, 1) := by decide +kernel
theorem dX12_isLens_2 : decode cX12_isLens 2 = .ok (.i2l, 1) := by decide +kernel
theorem dX12_isLens_3 : decode cX12_isLens 3 = .ok (.lconst 0, 1) := by decide +kernel
theorem dX12_isLens_4 : decode cX12_isLens 4 = .ok (.aload_n 0, 1) := by decide +kernel
theorem dX12_isLens_5 : decode cX12_isLens 5 = .ok (.getfield 506, 3) := by decide +kernel
theorem dX12_isLens_8 : decode cX12_isLens 8 = .ok (.i2l, 1) := by decide +kernel
theorem dX12_isLens_9 : decode cX12_isLens 9 = .ok (.lconst 1, 1) := by decide +kernel
theorem dX12_isLens_10 : decode cX12_isLens 10 = .ok (.lsub, 1) := by decide +kernel
theorem dX12_isLens_11 : decode cX12_isLens 11 = .ok (.invokevirtual 153, 3) := by decide +kernel
theorem dX12_isLens_14 : decode cX12_isLens 14 = .ok (.ireturn, 1) := by decide +kernel
theorem dX12_isRepeated_0 : decode cX12_isRepeated 0 = .ok (.aload_n 0, 1) := by decide +kernel
theorem dX12_isRepeated_1 : decode cX12_isRepeated 1 = .ok (.iload_n 1, 1) := by decide +kernel
theorem dX12_isRepeated_2 : decode cX12_isRepeated 2 = .ok (.invokevirtual 520, 3) := by decide +kernel
theorem dX12_isRepeated_5 : decode cX12_isRepeated 5 = .ok (.ifCond .eq 20, 3) := by decide +kernel
theorem dX12_isRepeated_25 : decode cX12_isRepeated 25 = .ok (.iconst 0, 1) := by decide +kernel
theorem dX12_isRepeated_26 : decode cX12_isRepeated 26 = .ok (.ireturn, 1) := by decide +kernel
theorem dX12_fits_0 : decode cX12_fits 0 = .ok (.aload_n 0, 1) := by decide +kernel
theorem dX12_fits_1 : decode cX12_fits 1 = .ok (.iconst 0, 1) := by decide +kernel
theorem dX12_fits_2 : decode cX12_fits 2 = .ok (.putfield 142, 3) := by decide +kernel
theorem dX12_fits_5 : decode cX12_fits 5 = .ok (.aload_n 0, 1) := by decide +kernel
theorem dX12_fits_6 : decode cX12_fits 6 = .ok (.iload_n 1, 1) := by decide +kernel
theorem dX12_fits_7 : decode cX12_fits 7 = .ok (.invokevirtual 520, 3) := by decide +kernel
theorem dX12_fits_10 : decode cX12_fits 10 = .ok (.ifCond .eq 19, 3) := by decide +kernel
theorem dX12_fits_29 : decode cX12_fits 29 = .ok (.iconst (-1), 1) := by decide +kernel
theorem dX12_fits_30 : decode cX12_fits 30 = .ok (.ireturn, 1) := by decide +kernel
theorem dX12_get_0 : decode cX12_get 0 = .ok (.aload_n 0, 1) := by decide +kernel
theorem dX12_get_1 : decode cX12_get 1 = .ok (.iconst 0, 1) := by decide +kernel
theorem dX12_get_2 : decode cX12_get 2 = .ok (.putfield 142, 3) := by decide +kernel
theorem dX12_get_5 : decode cX12_get 5 = .ok (.aload_n 0, 1) := by decide +kernel
theorem dX12_get_6 : decode cX12_get 6 = .ok (.iload_n 1, 1) := by decide +kernel
theorem dX12_get_7 : decode cX12_get 7 = .ok (.invokevirtual 520, 3) := by decide +kernel
theorem dX12_get_10 : decode cX12_get 10 = .ok (.ifCond .eq 19, 3) := by decide +kernel
theorem dX12_get_29 : decode cX12_get 29 = .ok (.iconst (-1), 1) := by decide +kernel
theorem dX12_get_30 : decode cX12_get 30 = .ok (.ireturn, 1) := by decide +kernel
theorem dX12_put_0 : decode cX12_put 0 = .ok (.aload_n 0, 1) := by decide +kernel
theorem dX12_put_1 : decode cX12_put 1 = .ok (.iconst 0, 1) := by decide +kernel
theorem dX12_put_2 : decode cX12_put 2 = .ok (.putfield 142, 3) := by decide +kernel
theorem dX12_put_5 : decode cX12_put 5 = .ok (.aload_n 0, 1) := by decide +kernel
theorem dX12_put_6 : decode cX12_put 6 = .ok (.iload_n 1, 1) := by decide +kernel
theorem dX12_put_7 : decode cX12_put 7 = .ok (.invokevirtual 520, 3) := by decide +kernel
theorem dX12_put_10 : decode cX12_put 10 = .ok (.ifCond .eq 28, 3) := by decide +kernel
theorem dX12_put_38 : decode cX12_put 38 = .ok (.iconst (-1), 1) := by decide +kernel
theorem dX12_put_39 : decode cX12_put 39 = .ok (.ireturn, 1) := by decide +kernel
theorem dX12_create_0 : decode cX12_create 0 = .ok (.aload_n 0, 1) := by decide +kernel
theorem dX12_create_1 : decode cX12_create 1 = .ok (.iconst 0, 1) := by decide +kernel
theorem dX12_create_2 : decode cX12_create 2 = .ok (.putfield 142, 3) := by decide +kernel
theorem dX12_create_5 : decode cX12_create 5 = .ok (.aload_n 0, 1) := by decide +kernel
theorem dX12_create_6 : decode cX12_create 6 = .ok (.iload_n 1, 1) := by decide +kernel
theorem dX12_create_7 : decode cX12_create 7 = .ok (.invokevirtual 520, 3) := by decide +kernel
theorem dX12_create_10 : decode cX12_create 10 = .ok (.ifCond .eq 19, 3) := by decide +kernel
theorem dX12_create_29 : decode cX12_create 29 = .ok (.iconst (-1), 1) := by decide +kernel
theorem dX12_create_30 : decode cX12_create 30 = .ok (.ireturn, 1) := by decide +kernel
theorem dX12_nth_0 : decode cX12_nth 0 = .ok (.aload_n 0, 1) := by decide +kernel
theorem dX12_nth_1 : decode cX12_nth 1 = .ok (.iconst 0, 1) := by decide +kernel
theorem dX12_nth_2 : decode cX12_nth 2 = .ok (.putfield 142, 3) := by decide +kernel
theorem dX12_nth_5 : decode cX12_nth 5 = .ok (.aload_n 0, 1) := by decide +kernel
theorem dX12_nth_6 : decode cX12_nth 6 = .ok (.iload_n 1, 1) := by decide +kernel
theorem dX12_nth_7 : decode cX12_nth 7 = .ok (.invokevirtual 520, 3) := by decide +kernel
theorem dX12_nth_10 : decode cX12_nth 10 = .ok (.ifCond .eq 33, 3) := by decide +kernel
theorem dX12_nth_43 : decode cX12_nth 43 = .ok (.iconst (-1), 1) := by decide +kernel
theorem dX12_nth_44 : decode cX12_nth 44 = .ok (.ireturn, 1) := by decide +kernel
theorem dX12_compare_0 : decode cX12_compare 0 = .ok (.aload_n 0, 1) := by decide +kernel
theorem dX12_compare_1 : decode cX12_compare 1 = .ok (.iconst 0, 1) := by decide +kernel
theorem dX12_compare_2 : decode cX12_compare 2 = .ok (.putfield 142, 3) := by decide +kernel
theorem dX12_compare_5 : decode cX12_compare 5 = .ok (.aload_n 0, 1) := by decide +kernel
theorem dX12_compare_6 : decode cX12_compare 6 = .ok (.iload_n 1, 1) := by decide +kernel
theorem dX12_compare_7 : decode cX12_compare 7 = .ok (.invokevirtual 520, 3) := by decide +kernel
theorem dX12_compare_10 : decode cX12_compare 10 = .ok (.ifCond .eq 28, 3) := by decide +kernel
theorem dX12_compare_38 : decode cX12_compare 38 = .ok (.iconst (-1), 1) := by decide +kernel
theorem dX12_compare_39 : decode cX12_compare 39 = .ok (.ireturn, 1) := by decide +kernel
theorem dX12_set_0 : decode cX12_set 0 = .ok (.aload_n 0, 1) := by decide +kernel
theorem dX12_set_1 : decode cX12_set 1 = .ok (.iconst 0, 1) := by decide +kernel
theorem dX12_set_2 : decode cX12_set 2 = .ok (.putfield 142, 3) := by decide +kernel
theorem dX12_set_5 : decode cX12_set 5 = .ok (.aload_n 0, 1) := by decide +kernel
theorem dX12_set_6 : decode cX12_set 6 = .ok (.iload_n 1, 1) := by decide +kernel
theorem dX12_set_7 : decode cX12_set 7 = .ok (.invokevirtual 520, 3) := by decide +kernel
theorem dX12_set_10 : decode cX12_set 10 = .ok (.ifCond .eq 11, 3) := by decide +kernel
theorem dX12_set_21 : decode cX12_set 21 = .ok (.iconst (-1), 1) := by decide +kernel
theorem dX12_set_22 : decode cX12_set 22 = .ok (.ireturn, 1) := by decide +kernel
theorem dX12_goesOn_0 : decode cX12_goesOn 0 = .ok (.aload_n 0, 1) := by decide +kernel
theorem dX12_goesOn_1 : decode cX12_goesOn 1 = .ok (.iconst 0, 1) := by decide +kernel
theorem dX12_goesOn_2 : decode cX12_goesOn 2 = .ok (.putfield 142, 3) := by decide +kernel
theorem dX12_goesOn_5 : decode cX12_goesOn 5 = .ok (.aload_n 0, 1) := by decide +kernel
theorem dX12_goesOn_6 : decode cX12_goesOn 6 = .ok (.iload_n 1, 1) := by decide +kernel
theorem dX12_goesOn_7 : decode cX12_goesOn 7 = .ok (.invokevirtual 520, 3) := by decide +kernel
theorem dX12_goesOn_10 : decode cX12_goesOn 10 = .ok (.ifCond .eq 19, 3) := by decide +kernel
theorem dX12_goesOn_29 : decode cX12_goesOn 29 = .ok (.iconst (-1), 1) := by decide +kernel
theorem dX12_goesOn_30 : decode cX12_goesOn 30 = .ok (.ireturn, 1) := by decide +kernel
theorem dX12_parts_0 : decode cX12_parts 0 = .ok (.aload_n 0, 1) := by decide +kernel
theorem dX12_parts_1 : decode cX12_parts 1 = .ok (.iconst 0, 1) := by decide +kernel
theorem dX12_parts_2 : decode cX12_parts 2 = .ok (.putfield 142, 3) := by decide +kernel
theorem dX12_parts_5 : decode cX12_parts 5 = .ok (.aload_n 0, 1) := by decide +kernel
theorem dX12_parts_6 : decode cX12_parts 6 = .ok (.iload_n 1, 1) := by decide +kernel
theorem dX12_parts_7 : decode cX12_parts 7 = .ok (.iload_n 2, 1) := by decide +kernel
theorem dX12_parts_8 : decode cX12_parts 8 = .ok (.invokevirtual 556, 3) := by decide +kernel
theorem dX12_parts_11 : decode cX12_parts 11 = .ok (.ifCond .ne 5, 3) := by decide +kernel
theorem dX12_parts_14 : decode cX12_parts 14 = .ok (.iconst (-1), 1) := by decide +kernel
theorem dX12_parts_15 : decode cX12_parts 15 = .ok (.ireturn, 1) := by decide +kernel
theorem dX12_aligned_0 : decode cX12_aligned 0 = .ok (.aload_n 0, 1) := by decide +kernel
theorem dX12_aligned_1 : decode cX12_aligned 1 = .ok (.iconst 0, 1) := by decide +kernel
theorem dX12_aligned_2 : decode cX12_aligned 2 = .ok (.putfield 142, 3) := by decide +kernel
theorem dX12_aligned_5 : decode cX12_aligned 5 = .ok (.aload_n 0, 1) := by decide +kernel
theorem dX12_aligned_6 : decode cX12_aligned 6 = .ok (.iload_n 1, 1) := by decide +kernel
theorem dX12_aligned_7 : decode cX12_aligned 7 = .ok (.iload_n 2, 1) := by decide +kernel
theorem dX12_aligned_8 : decode cX12_aligned 8 = .ok (.invokevirtual 556, 3) := by decide +kernel
theorem dX12_aligned_11 : decode cX12_aligned 11 = .ok (.ifCond .eq 32, 3) := by decide +kernel
theorem dX12_aligned_43 : decode cX12_aligned 43 = .ok (.iconst (-1), 1) := by decide +kernel
theorem dX12_aligned_44 : decode cX12_aligned 44 = .ok (.ireturn, 1) := by decide +kernel
theorem dX12_key_0 : decode cX12_key 0 = .ok (.aload_n 0, 1) := by decide +kernel
theorem dX12_key_1 : decode cX12_key 1 = .ok (.iconst 0, 1) := by decide +kernel
theorem dX12_key_2 : decode cX12_key 2 = .ok (.putfield 142, 3) := by decide +kernel
theorem dX12_key_5 : decode cX12_key 5 = .ok (.aload_n 0, 1) := by decide +kernel
theorem dX12_key_6 : decode cX12_key 6 = .ok (.iload_n 1, 1) := by decide +kernel
theorem dX12_key_7 : decode cX12_key 7 = .ok (.iload_n 2, 1) := by decide +kernel
theorem dX12_key_8 : decode cX12_key 8 = .ok (.invokevirtual 556, 3) := by decide +kernel
theorem dX12_key_11 : decode cX12_key 11 = .ok (.ifCond .eq 16, 3) := by decide +kernel
theorem dX12_key_27 : decode cX12_key 27 = .ok (.iconst (-1), 1) := by decide +kernel
theorem dX12_key_28 : decode cX12_key 28 = .ok (.ireturn, 1) := by decide +kernel
theorem dX12_laws_0 : decode cX12_laws 0 = .ok (.aload_n 0, 1) := by decide +kernel
theorem dX12_laws_1 : decode cX12_laws 1 = .ok (.iconst 0, 1) := by decide +kernel
theorem dX12_laws_2 : decode cX12_laws 2 = .ok (.putfield 142, 3) := by decide +kernel
theorem dX12_laws_5 : decode cX12_laws 5 = .ok (.aload_n 0, 1) := by decide +kernel
theorem dX12_laws_6 : decode cX12_laws 6 = .ok (.iload_n 1, 1) := by decide +kernel
theorem dX12_laws_7 : decode cX12_laws 7 = .ok (.invokevirtual 520, 3) := by decide +kernel
theorem dX12_laws_10 : decode cX12_laws 10 = .ok (.ifCond .eq 29, 3) := by decide +kernel
theorem dX12_laws_39 : decode cX12_laws 39 = .ok (.iconst (-1), 1) := by decide +kernel
theorem dX12_laws_40 : decode cX12_laws 40 = .ok (.ireturn, 1) := by decide +kernel
theorem dX12_open_0 : decode cX12_open 0 = .ok (.aload_n 0, 1) := by decide +kernel
theorem dX12_open_1 : decode cX12_open 1 = .ok (.iconst 0, 1) := by decide +kernel
theorem dX12_open_2 : decode cX12_open 2 = .ok (.putfield 142, 3) := by decide +kernel
theorem dX12_open_5 : decode cX12_open 5 = .ok (.aload_n 0, 1) := by decide +kernel
theorem dX12_open_6 : decode cX12_open 6 = .ok (.iload_n 1, 1) := by decide +kernel
theorem dX12_open_7 : decode cX12_open 7 = .ok (.invokevirtual 520, 3) := by decide +kernel
theorem dX12_open_10 : decode cX12_open 10 = .ok (.ifCond .eq 11, 3) := by decide +kernel
theorem dX12_open_21 : decode cX12_open 21 = .ok (.iconst (-1), 1) := by decide +kernel
theorem dX12_open_22 : decode cX12_open 22 = .ok (.ireturn, 1) := by decide +kernel
theorem dX12_edit_0 : decode cX12_edit 0 = .ok (.aload_n 0, 1) := by decide +kernel
theorem dX12_edit_1 : decode cX12_edit 1 = .ok (.iconst 0, 1) := by decide +kernel
theorem dX12_edit_2 : decode cX12_edit 2 = .ok (.putfield 142, 3) := by decide +kernel
theorem dX12_edit_5 : decode cX12_edit 5 = .ok (.aload_n 0, 1) := by decide +kernel
theorem dX12_edit_6 : decode cX12_edit 6 = .ok (.getfield 124, 3) := by decide +kernel
theorem dX12_edit_9 : decode cX12_edit 9 = .ok (.iconst (-1), 1) := by decide +kernel
theorem dX12_edit_10 : decode cX12_edit 10 = .ok (.if_icmp .ne 5, 3) := by decide +kernel
theorem dX12_edit_13 : decode cX12_edit 13 = .ok (.iconst (-1), 1) := by decide +kernel
theorem dX12_edit_14 : decode cX12_edit 14 = .ok (.ireturn, 1) := by decide +kernel
theorem dX12_copy_0 : decode cX12_copy 0 = .ok (.aload_n 0, 1) := by decide +kernel
theorem dX12_copy_1 : decode cX12_copy 1 = .ok (.iconst 0, 1) := by decide +kernel
theorem dX12_copy_2 : decode cX12_copy 2 = .ok (.putfield 142, 3) := by decide +kernel
theorem dX12_copy_5 : decode cX12_copy 5 = .ok (.aload_n 0, 1) := by decide +kernel
theorem dX12_copy_6 : decode cX12_copy 6 = .ok (.getfield 124, 3) := by decide +kernel
theorem dX12_copy_9 : decode cX12_copy 9 = .ok (.iconst (-1), 1) := by decide +kernel
theorem dX12_copy_10 : decode cX12_copy 10 = .ok (.if_icmp .eq 19, 3) := by decide +kernel
theorem dX12_copy_29 : decode cX12_copy 29 = .ok (.iconst (-1), 1) := by decide +kernel
theorem dX12_copy_30 : decode cX12_copy 30 = .ok (.ireturn, 1) := by decide +kernel
theorem dX12_moved_0 : decode cX12_moved 0 = .ok (.aload_n 0, 1) := by decide +kernel
theorem dX12_moved_1 : decode cX12_moved 1 = .ok (.iconst 0, 1) := by decide +kernel
theorem dX12_moved_2 : decode cX12_moved 2 = .ok (.putfield 142, 3) := by decide +kernel
theorem dX12_moved_5 : decode cX12_moved 5 = .ok (.aload_n 0, 1) := by decide +kernel
theorem dX12_moved_6 : decode cX12_moved 6 = .ok (.getfield 600, 3) := by decide +kernel
theorem dX12_moved_9 : decode cX12_moved 9 = .ok (.ifCond .eq 25, 3) := by decide +kernel
theorem dX12_moved_34 : decode cX12_moved 34 = .ok (.iconst (-1), 1) := by decide +kernel
theorem dX12_moved_35 : decode cX12_moved 35 = .ok (.ireturn, 1) := by decide +kernel
theorem dX12_many_0 : decode cX12_many 0 = .ok (.aload_n 0, 1) := by decide +kernel
theorem dX12_many_1 : decode cX12_many 1 = .ok (.iconst 0, 1) := by decide +kernel
theorem dX12_many_2 : decode cX12_many 2 = .ok (.putfield 142, 3) := by decide +kernel
theorem dX12_many_5 : decode cX12_many 5 = .ok (.aload_n 0, 1) := by decide +kernel
theorem dX12_many_6 : decode cX12_many 6 = .ok (.iload_n 1, 1) := by decide +kernel
theorem dX12_many_7 : decode cX12_many 7 = .ok (.invokevirtual 520, 3) := by decide +kernel
theorem dX12_many_10 : decode cX12_many 10 = .ok (.ifCond .eq 24, 3) := by decide +kernel
theorem dX12_many_34 : decode cX12_many 34 = .ok (.ldc2_w 540, 3) := by decide +kernel
theorem dX12_many_37 : decode cX12_many 37 = .ok (.lreturn, 1) := by decide +kernel
theorem dX12_undo_0 : decode cX12_undo 0 = .ok (.aload_n 0, 1) := by decide +kernel
theorem dX12_undo_1 : decode cX12_undo 1 = .ok (.iconst 0, 1) := by decide +kernel
theorem dX12_undo_2 : decode cX12_undo 2 = .ok (.putfield 142, 3) := by decide +kernel
theorem dX12_undo_5 : decode cX12_undo 5 = .ok (.aload_n 0, 1) := by decide +kernel
theorem dX12_undo_6 : decode cX12_undo 6 = .ok (.getfield 594, 3) := by decide +kernel
theorem dX12_undo_9 : decode cX12_undo 9 = .ok (.ifCond .ne 5, 3) := by decide +kernel
theorem dX12_undo_12 : decode cX12_undo 12 = .ok (.iconst 0, 1) := by decide +kernel
theorem dX12_undo_13 : decode cX12_undo 13 = .ok (.ireturn, 1) := by decide +kernel
theorem dX12_fault_0 : decode cX12_fault 0 = .ok (.aload_n 0, 1) := by decide +kernel
theorem dX12_fault_1 : decode cX12_fault 1 = .ok (.iconst 0, 1) := by decide +kernel
theorem dX12_fault_2 : decode cX12_fault 2 = .ok (.putfield 142, 3) := by decide +kernel
theorem dX12_fault_5 : decode cX12_fault 5 = .ok (.iload_n 1, 1) := by decide +kernel
theorem dX12_fault_6 : decode cX12_fault 6 = .ok (.ifCond .ne 10, 3) := by decide +kernel
theorem dX12_fault_9 : decode cX12_fault 9 = .ok (.aload_n 0, 1) := by decide +kernel
theorem dX12_fault_10 : decode cX12_fault 10 = .ok (.getfield 325, 3) := by decide +kernel
theorem dX12_fault_13 : decode cX12_fault 13 = .ok (.goto 28, 3) := by decide +kernel
theorem dX12_fault_16 : decode cX12_fault 16 = .ok (.iload_n 1, 1) := by decide +kernel
theorem dX12_fault_17 : decode cX12_fault 17 = .ok (.iconst 1, 1) := by decide +kernel
theorem dX12_fault_18 : decode cX12_fault 18 = .ok (.if_icmp .ne 10, 3) := by decide +kernel
theorem dX12_fault_21 : decode cX12_fault 21 = .ok (.aload_n 0, 1) := by decide +kernel
theorem dX12_fault_22 : decode cX12_fault 22 = .ok (.getfield 105, 3) := by decide +kernel
theorem dX12_fault_25 : decode cX12_fault 25 = .ok (.goto 16, 3) := by decide +kernel
theorem dX12_fault_28 : decode cX12_fault 28 = .ok (.iload_n 1, 1) := by decide +kernel
theorem dX12_fault_29 : decode cX12_fault 29 = .ok (.iconst 2, 1) := by decide +kernel
theorem dX12_fault_30 : decode cX12_fault 30 = .ok (.if_icmp .ne 10, 3) := by decide +kernel
theorem dX12_fault_33 : decode cX12_fault 33 = .ok (.aload_n 0, 1) := by decide +kernel
theorem dX12_fault_34 : decode cX12_fault 34 = .ok (.getfield 109, 3) := by decide +kernel
theorem dX12_fault_37 : decode cX12_fault 37 = .ok (.goto 4, 3) := by decide +kernel
theorem dX12_fault_40 : decode cX12_fault 40 = .ok (.iconst (-1), 1) := by decide +kernel
theorem dX12_fault_41 : decode cX12_fault 41 = .ok (.ireturn, 1) := by decide +kernel
theorem dX12_look_0 : decode cX12_look 0 = .ok (.aload_n 0, 1) := by decide +kernel
theorem dX12_look_1 : decode cX12_look 1 = .ok (.iconst 0, 1) := by decide +kernel
theorem dX12_look_2 : decode cX12_look 2 = .ok (.putfield 142, 3) := by decide +kernel
theorem dX12_look_5 : decode cX12_look 5 = .ok (.iload_n 1, 1) := by decide +kernel
theorem dX12_look_6 : decode cX12_look 6 = .ok (.tableswitch 50 0 3 #[30, 35, 40, 45], 30) := by decide +kernel
theorem dX12_look_36 : decode cX12_look 36 = .ok (.aload_n 0, 1) := by decide +kernel
theorem dX12_look_37 : decode cX12_look 37 = .ok (.getfield 506, 3) := by decide +kernel
theorem dX12_look_40 : decode cX12_look 40 = .ok (.ireturn, 1) := by decide +kernel
theorem dX12_look_41 : decode cX12_look 41 = .ok (.aload_n 0, 1) := by decide +kernel
theorem dX12_look_42 : decode cX12_look 42 = .ok (.getfield 318, 3) := by decide +kernel
theorem dX12_look_45 : decode cX12_look 45 = .ok (.ireturn, 1) := by decide +kernel
theorem dX12_look_46 : decode cX12_look 46 = .ok (.aload_n 0, 1) := by decide +kernel
theorem dX12_look_47 : decode cX12_look 47 = .ok (.getfield 124, 3) := by decide +kernel
theorem dX12_look_50 : decode cX12_look 50 = .ok (.ireturn, 1) := by decide +kernel
theorem dX12_look_51 : decode cX12_look 51 = .ok (.aload_n 0, 1) := by decide +kernel
theorem dX12_look_52 : decode cX12_look 52 = .ok (.getfield 594, 3) := by decide +kernel
theorem dX12_look_55 : decode cX12_look 55 = .ok (.ireturn, 1) := by decide +kernel
theorem dX12_look_56 : decode cX12_look 56 = .ok (.iload_n 1, 1) := by decide +kernel
theorem dX12_look_57 : decode cX12_look 57 = .ok (.iconst 4, 1) := by decide +kernel
theorem dX12_look_58 : decode cX12_look 58 = .ok (.if_icmp .ne 10, 3) := by decide +kernel
theorem dX12_look_61 : decode cX12_look 61 = .ok (.aload_n 0, 1) := by decide +kernel
theorem dX12_look_62 : decode cX12_look 62 = .ok (.getfield 597, 3) := by decide +kernel
theorem dX12_look_65 : decode cX12_look 65 = .ok (.goto 4, 3) := by decide +kernel
theorem dX12_look_68 : decode cX12_look 68 = .ok (.iconst (-1), 1) := by decide +kernel
theorem dX12_look_69 : decode cX12_look 69 = .ok (.ireturn, 1) := by decide +kernel
end
section

theorem zIn1 {a b c : Int64} (h1 : ¬ lg_cmp a b < 0) (h2 : ¬ lg_cmp a c > 0) : b ≤ a ∧ a ≤ c := by
  constructor
  · exact (lg_cmp_ge a b).mp (Int32.not_lt.mp h1)
  · exact (lg_cmp_le a c).mp (Int32.not_lt.mp h2)
abbrev inS (x : Int32) : Prop := 0 ≤ x ∧ x ≤ 7
def sp_fault (x : Int32) : Int32 := if x = 0 then 0 else -1
def sp_look (x : Int32) : Int32 := if x = 0 ∨ x = 1 ∨ x = 3 ∨ x = 4 then 0 else -1
theorem zL64 (x : Int32) (n : Int32) : x.toInt64 ≤ n.toInt64 ↔ x ≤ n := by simp [Int64.le_iff_toInt_le, Int32.le_iff_toInt_le]
theorem zS1 {x : Int32} (h : (0 : Int64) ≤ x.toInt64 ∧ x.toInt64 ≤ 7) : inS x := ⟨(zL64 0 x).mp h.1, (zL64 x 7).mp h.2⟩
theorem zS2 {x : Int32} (h : ¬ ((0 : Int64) ≤ x.toInt64 ∧ x.toInt64 ≤ 7)) : ¬ inS x := fun q => h ⟨(zL64 0 x).mpr q.1, (zL64 x 7).mpr q.2⟩
theorem zL {x : Int64} : ¬ ((0 : Int64) ≤ x ∧ x ≤ -1) := fun h => absurd (Int64.le_trans h.1 h.2) (by decide)
theorem zVp {x : Int32} (h : inS x) : vp_in x 8 := by
  rintro (q | q)
  · exact absurd h.1 (Int32.not_le.mpr q)
  · have h2 := Int32.le_iff_toInt_le.mp h.2
    have h1 := Int32.le_iff_toInt_le.mp h.1
    have e : x.toNatClampNeg = x.toInt.toNat := rfl
    rw [e] at q
    have : (7 : Int32).toInt = 7 := by decide
    have : (0 : Int32).toInt = 0 := by decide
    omega
theorem zOut {x : Int32} (lo hi : Int) (hlh : lo ≤ hi) (h : ∀ k : Int, lo ≤ k → k ≤ hi → ¬ x = Int32.ofInt k) : x.toInt < lo ∨ hi < x.toInt := by
  by_cases h1 : x.toInt < lo
  · exact Or.inl h1
  · by_cases h2 : hi < x.toInt
    · exact Or.inr h2
    · exact absurd (Int32.ofInt_toInt x).symm (h x.toInt (by omega) (by omega))
theorem zIn2 {a b c : Int64} (h1 : lg_cmp a b < 0) : ¬ (b ≤ a ∧ a ≤ c) := fun h => Int32.not_lt.mpr ((lg_cmp_ge a b).mpr h.1) h1
theorem zIn3 {a b c : Int64} (h1 : lg_cmp a c > 0) : ¬ (b ≤ a ∧ a ≤ c) := fun h => Int32.not_lt.mpr ((lg_cmp_le a c).mpr h.2) h1
def wm_isIn : List Cond := .code yX12_isIn cX12_isIn 7 (some .boolean) :: ([])
set_option maxHeartbeats 4000000 in
set_option maxRecDepth 100000 in
theorem m_isIn (l : Launch) (dC : Nat → ClassId) (dI : Nat → Nat → Nat) (sz : Nat) (h0 : Nat) (v1 : Int64) (v2 : Int64) (v3 : Int64) : Met l yX12_isIn wm_isIn ({ frames := 0, cells := 0, slots := 0, locals := 0 } : Room) (va_Pc [.ref h0, .long v1, .long v2, .long v3] (fun U => U.heap.size = sz ∧ va_P (dC, dI) cls [] U.heap ∧ va_K (dC, dI) cls [] U ∧ va_D (fun _ => True) [])) (va_Qi (fun (r : Int32) (_ : Unit) => (r = 1 ∧ (v2 ≤ v1 ∧ v1 ≤ v3)) ∨ (r = 0 ∧ ¬ (v2 ≤ v1 ∧ v1 ≤ v3))) (fun (_ : Unit) t => va_P (dC, dI) cls [] t.heap ∧ va_K (dC, dI) cls [] t ∧ va_D (va_A [] sz) []) (va_A [] sz)) 0 0 (va_A [] sz) := by
  refine Met.ofW (cc := cX12_isIn) (maxL := 7) (ret := (some .boolean)) (by decide) rfl ?_
  intro p e s m args below meth c s₁ B hml hv
  obtain ⟨rfl, hsz, hP, hK, hD0⟩ := hv
  have hx := B.exec
  have hb := B.bytes
  have hr := B.returns
  have hts := atoms_spec (ws := wm_isIn) B.pre
  have hown : s.vm.findClass RX12 = some m.cls := findClass_of_methodNamed B.named
  have hlocks := B.notSynchronized
  subst hsz
  have hD := hD0.self (sz := s.heap.size)
  generalize hAe : va_A [] s.heap.size = A at hD ⊢
  have hA : ∀ q : Nat, s.heap.size ≤ q → A q := fun q h => by rw [← hAe]; exact Or.inr h
  have hP : va_P (dC, dI) cls [] s.heap := hP
  have hl := lv_entry ([.ref h0, .long v1, .long v2, .long v3]) (n := 7) (Nat.le_of_ble_eq_true rfl)
  rw [lg_entry_eq]
  generalize (lg_sl ([.ref h0, .long v1, .long v2, .long v3]) ++ List.replicate (7 - (lg_sl ([.ref h0, .long v1, .long v2, .long v3])).length) Slot.unset).toArray = ls at hl ⊢
  have hl : lv_has ls 7 [(0, .ref h0), (1, .long v1), (3, .long v2), (5, .long v3)] := hl
  obtain ⟨H, hH⟩ : ∃ H : Heap, s.heap = H := ⟨_, rfl⟩
  rw [hH] at hP ⊢
  have hS : va_S A s.heap H [] := by rw [← hH]; exact va_S.rf
  refine lv_lload_n hx hb dX12_isIn_0 rfl (lv_at hl 1 rfl) ?_
  refine lv_lload_n hx hb dX12_isIn_1 rfl (lv_at hl 2 rfl) ?_
  refine W.lcmp hx hb dX12_isIn_2 ?_
  refine lv_if_lt (tgt := 17) hx hb dX12_isIn_3 (by decide) (fun c_1 => ?_) (fun c_1 => ?_)
  · skip
    refine lv_iconst (v := 0) hx hb dX12_isIn_17 (by decide) ?_
    have hP9 := hP.sub (ws' := []) [] rfl
    have hD9 := hD.sub (ws' := []) [] (by decide) rfl
    exact W.zret (v := 0) (ty := .boolean) hx hb hr rfl (fun t ht hW => ⟨⟨0, (), rfl, Or.inr ⟨rfl, zIn2 c_1⟩, by rw [ht]; exact hP9, va_K.moved hW.alike hK, hD9⟩, hS.F ht⟩) hS.2.2 dX12_isIn_18
  · skip
    refine lv_lload_n hx hb dX12_isIn_6 rfl (lv_at hl 1 rfl) ?_
    refine lv_lload hx hb dX12_isIn_7 (lv_at hl 3 rfl) ?_
    refine W.lcmp hx hb dX12_isIn_9 ?_
    refine lv_if_gt (tgt := 17) hx hb dX12_isIn_10 (by decide) (fun c_2 => ?_) (fun c_2 => ?_)
    · skip
      refine lv_iconst (v := 0) hx hb dX12_isIn_17 (by decide) ?_
      have hP9 := hP.sub (ws' := []) [] rfl
      have hD9 := hD.sub (ws' := []) [] (by decide) rfl
      exact W.zret (v := 0) (ty := .boolean) hx hb hr rfl (fun t ht hW => ⟨⟨0, (), rfl, Or.inr ⟨rfl, zIn3 c_2⟩, by rw [ht]; exact hP9, va_K.moved hW.alike hK, hD9⟩, hS.F ht⟩) hS.2.2 dX12_isIn_18
    · skip
      refine lv_iconst (v := 1) hx hb dX12_isIn_13 (by decide) ?_
      refine lv_goto (tgt := 18) hx hb dX12_isIn_14 (by decide) ?_
      have hP9 := hP.sub (ws' := []) [] rfl
      have hD9 := hD.sub (ws' := []) [] (by decide) rfl
      exact W.zret (v := 1) (ty := .boolean) hx hb hr rfl (fun t ht hW => ⟨⟨1, (), rfl, Or.inl ⟨rfl, zIn1 c_1 c_2⟩, by rw [ht]; exact hP9, va_K.moved hW.alike hK, hD9⟩, hS.F ht⟩) hS.2.2 dX12_isIn_18
def wm_isSlot : List Cond := .code yX12_isSlot cX12_isSlot 2 (some .boolean) :: ([.constantLong RX12 512 (7), .methodLink RX12 153 yX12_isIn, .instanceMethod yX12_isIn, .selects RX12 yX12_isIn yX12_isIn, .initialized RX12, .code yX12_isIn cX12_isIn 7 (some .boolean)])
theorem gm_isSlot_153g : GoodIn wm_isSlot wm_isIn := goodIn_r _ [6] (by decide +kernel) (by decide +kernel)
theorem gm_isSlot_153 : GoodIn wm_isSlot (wsV RX12 153 RX12 yX12_isIn wm_isIn) := goodIn_app (goodIn_of _ (by decide +kernel)) gm_isSlot_153g
set_option maxHeartbeats 4000000 in
set_option maxRecDepth 100000 in
theorem m_isSlot (l : Launch) (dC : Nat → ClassId) (dI : Nat → Nat → Nat) (sz : Nat) (h0 : Nat) (v1 : Int32) (fs : List Value) : Met l yX12_isSlot wm_isSlot ({ frames := 1, cells := 0, slots := 0, locals := 26 } : Room) (va_Pc [.ref h0, .int v1] (fun U => U.heap.size = sz ∧ va_P (dC, dI) cls [(h0, .inr (12, fs))] U.heap ∧ va_K (dC, dI) cls [] U ∧ va_D (fun _ => True) [(h0, .inr (12, fs))])) (va_Qi (fun (r : Int32) (_ : Unit) => (r = 1 ∧ inS v1) ∨ (r = 0 ∧ ¬ inS v1)) (fun (_ : Unit) t => va_P (dC, dI) cls [(h0, .inr (12, fs))] t.heap ∧ va_K (dC, dI) cls [] t ∧ va_D (va_A [(h0, .inr (12, fs))] sz) [(h0, .inr (12, fs))]) (va_A [(h0, .inr (12, fs))] sz)) 0 0 (va_A [(h0, .inr (12, fs))] sz) := by
  refine Met.ofW (cc := cX12_isSlot) (maxL := 2) (ret := (some .boolean)) (by decide) rfl ?_
  intro p e s m args below meth c s₁ B hml hv
  obtain ⟨rfl, hsz, hP, hK, hD0⟩ := hv
  have hx := B.exec
  have hb := B.bytes
  have hr := B.returns
  have hts := atoms_spec (ws := wm_isSlot) B.pre
  have hown : s.vm.findClass RX12 = some m.cls := findClass_of_methodNamed B.named
  have hlocks := B.notSynchronized
  subst hsz
  have hD := hD0.self (sz := s.heap.size)
  generalize hAe : va_A [(h0, .inr (12, fs))] s.heap.size = A at hD ⊢
  have hA : ∀ q : Nat, s.heap.size ≤ q → A q := fun q h => by rw [← hAe]; exact Or.inr h
  have hP : va_P (dC, dI) cls [(h0, .inr (12, fs))] s.heap := hP
  have hl := lv_entry ([.ref h0, .int v1]) (n := 2) (Nat.le_of_ble_eq_true rfl)
  rw [lg_entry_eq]
  generalize (lg_sl ([.ref h0, .int v1]) ++ List.replicate (2 - (lg_sl ([.ref h0, .int v1])).length) Slot.unset).toArray = ls at hl ⊢
  have hl : lv_has ls 2 [(0, .ref h0), (1, .int v1)] := hl
  obtain ⟨H, hH⟩ : ∃ H : Heap, s.heap = H := ⟨_, rfl⟩
  rw [hH] at hP ⊢
  have hS : va_S A s.heap H [] := by rw [← hH]; exact va_S.rf
  refine lv_aload_n hx hb dX12_isSlot_0 rfl (lv_at hl 0 rfl) ?_
  refine lv_iload_n hx hb dX12_isSlot_1 rfl (lv_at hl 1 rfl) ?_
  refine lv_i2l (v := v1.toInt64) hx hb dX12_isSlot_2 rfl ?_
  refine lv_lconst (v := 0) hx hb dX12_isSlot_3 (by decide) ?_
  refine lv_ldc2 hx hb hown (hts (.constantLong RX12 512 (7)) (by decide +kernel)) dX12_isSlot_4 ?_
  have hPc := hP.sub (ws' := []) [] rfl
  have hDc := hD.sub (ws' := []) [] (by decide) rfl
  have hKc := hK.sub (tys' := []) [] rfl
  have hFc := va_free (wc := []) hD hS hA [] rfl
  refine va_calli (va_runV (As := [.long v1.toInt64, .long 0, .long 7]) (rest := []) ⟨hx, hb, hml, hown, hts⟩ (m_isIn l dC dI H.size h0 v1.toInt64 0 7) (cwV 3 hts gm_isSlot_153 rfl rfl rfl (by decide +kernel) ⟨Nat.le_of_ble_eq_true rfl, Nat.le_of_ble_eq_true rfl⟩) ⟨fun a U g mk q => by obtain ⟨q0, q1, qP, qK, qD⟩ := q; exact ⟨q0, q1, qP, va_K.moved (u := U) (U := U.calling g mk a) (Vm.Alike.refl U.vm) qK, qD⟩, va_recv hK hP (ci := 12) (q0 := 0) rfl rfl, fun U hU hW => ⟨rfl, by rw [hU], by rw [hU]; exact hPc, va_K.moved hW.alike hKc, hDc.weaken (fun _ _ _ _ => trivial)⟩⟩ rfl rfl hl.1 rfl (lv_room (Nat.le_of_ble_eq_true rfl)) dX12_isSlot_7 ⟨Nat.le_of_ble_eq_true rfl, Nat.le_of_ble_eq_true rfl⟩) hS (fun q _ h => hFc q h) hFc (fun r_2 u t H1 locs ht hvm hw hB hz1 hk1 hS => ?_)
  obtain ⟨hP1, hK1, hD1⟩ := hB
  rw [ht] at hP1
  try dsimp only at hw
  obtain ⟨hP, hD⟩ := va_join (wr := [(h0, .inr (12, fs))]) (w1 := []) hP hD [] [0] rfl rfl (by decide) (by decide) hk1 hFc hP1 hD1
  clear hk1 hz1 hPc hDc hFc hP1 hD1 hK1 hKc
  generalize H1 = H at hP hS ⊢
  have hP : va_P (dC, dI) cls [(h0, .inr (12, fs))] H := hP
  have hD : va_D A [(h0, .inr (12, fs))] := hD
  rcases hw with ⟨rfl, f_3⟩ | ⟨rfl, f_3⟩
  · skip
    have hP9 := hP.sub (ws' := [(h0, .inr (12, fs))]) [0] rfl
    have hD9 := hD.sub (ws' := [(h0, .inr (12, fs))]) [0] (by decide) rfl
    exact W.zret (v := 1) (ty := .boolean) hx hb hr rfl (fun t ht hW => ⟨⟨1, (), rfl, Or.inl ⟨rfl, zS1 f_3⟩, by rw [ht]; exact hP9, va_K.moved hW.alike hK, hD9⟩, hS.F ht⟩) hS.2.2 dX12_isSlot_10
  · skip
    have hP9 := hP.sub (ws' := [(h0, .inr (12, fs))]) [0] rfl
    have hD9 := hD.sub (ws' := [(h0, .inr (12, fs))]) [0] (by decide) rfl
    exact W.zret (v := 0) (ty := .boolean) hx hb hr rfl (fun t ht hW => ⟨⟨0, (), rfl, Or.inr ⟨rfl, zS2 f_3⟩, by rw [ht]; exact hP9, va_K.moved hW.alike hK, hD9⟩, hS.F ht⟩) hS.2.2 dX12_isSlot_10
def wm_isSide : List Cond := .code yX12_isSide cX12_isSide 2 (some .boolean) :: ([.methodLink RX12 153 yX12_isIn, .instanceMethod yX12_isIn, .selects RX12 yX12_isIn yX12_isIn, .initialized RX12, .code yX12_isIn cX12_isIn 7 (some .boolean)])
theorem gm_isSide_153g : GoodIn wm_isSide wm_isIn := goodIn_r _ [5] (by decide +kernel) (by decide +kernel)
theorem gm_isSide_153 : GoodIn wm_isSide (wsV RX12 153 RX12 yX12_isIn wm_isIn) := goodIn_app (goodIn_of _ (by decide +kernel)) gm_isSide_153g
set_option maxHeartbeats 4000000 in
set_option maxRecDepth 100000 in
theorem m_isSide (l : Launch) (dC : Nat → ClassId) (dI : Nat → Nat → Nat) (sz : Nat) (h0 : Nat) (v1 : Int32) (fs : List Value) : Met l yX12_isSide wm_isSide ({ frames := 1, cells := 0, slots := 0, locals := 26 } : Room) (va_Pc [.ref h0, .int v1] (fun U => U.heap.size = sz ∧ va_P (dC, dI) cls [(h0, .inr (12, fs))] U.heap ∧ va_K (dC, dI) cls [] U ∧ va_D (fun _ => True) [(h0, .inr (12, fs))])) (va_Qi (fun (r : Int32) (_ : Unit) => r = 1 ∨ r = 0) (fun (_ : Unit) t => va_P (dC, dI) cls [(h0, .inr (12, fs))] t.heap ∧ va_K (dC, dI) cls [] t ∧ va_D (va_A [(h0, .inr (12, fs))] sz) [(h0, .inr (12, fs))]) (va_A [(h0, .inr (12, fs))] sz)) 0 0 (va_A [(h0, .inr (12, fs))] sz) := by
  refine Met.ofW (cc := cX12_isSide) (maxL := 2) (ret := (some .boolean)) (by decide) rfl ?_
  intro p e s m args below meth c s₁ B hml hv
  obtain ⟨rfl, hsz, hP, hK, hD0⟩ := hv
  have hx := B.exec
  have hb := B.bytes
  have hr := B.returns
  have hts := atoms_spec (ws := wm_isSide) B.pre
  have hown : s.vm.findClass RX12 = some m.cls := findClass_of_methodNamed B.named
  have hlocks := B.notSynchronized
  subst hsz
  have hD := hD0.self (sz := s.heap.size)
  generalize hAe : va_A [(h0, .inr (12, fs))] s.heap.size = A at hD ⊢
  have hA : ∀ q : Nat, s.heap.size ≤ q → A q := fun q h => by rw [← hAe]; exact Or.inr h
  have hP : va_P (dC, dI) cls [(h0, .inr (12, fs))] s.heap := hP
  have hl := lv_entry ([.ref h0, .int v1]) (n := 2) (Nat.le_of_ble_eq_true rfl)
  rw [lg_entry_eq]
  generalize (lg_sl ([.ref h0, .int v1]) ++ List.replicate (2 - (lg_sl ([.ref h0, .int v1])).length) Slot.unset).toArray = ls at hl ⊢
  have hl : lv_has ls 2 [(0, .ref h0), (1, .int v1)] := hl
  obtain ⟨H, hH⟩ : ∃ H : Heap, s.heap = H := ⟨_, rfl⟩
  rw [hH] at hP ⊢
  have hS : va_S A s.heap H [] := by rw [← hH]; exact va_S.rf
  refine lv_aload_n hx hb dX12_isSide_0 rfl (lv_at hl 0 rfl) ?_
  refine lv_iload_n hx hb dX12_isSide_1 rfl (lv_at hl 1 rfl) ?_
  refine lv_i2l (v := v1.toInt64) hx hb dX12_isSide_2 rfl ?_
  refine lv_lconst (v := 0) hx hb dX12_isSide_3 (by decide) ?_
  refine lv_lconst (v := 1) hx hb dX12_isSide_4 (by decide) ?_
  have hPc := hP.sub (ws' := []) [] rfl
  have hDc := hD.sub (ws' := []) [] (by decide) rfl
  have hKc := hK.sub (tys' := []) [] rfl
  have hFc := va_free (wc := []) hD hS hA [] rfl
  refine va_calli (va_runV (As := [.long v1.toInt64, .long 0, .long 1]) (rest := []) ⟨hx, hb, hml, hown, hts⟩ (m_isIn l dC dI H.size h0 v1.toInt64 0 1) (cwV 3 hts gm_isSide_153 rfl rfl rfl (by decide +kernel) ⟨Nat.le_of_ble_eq_true rfl, Nat.le_of_ble_eq_true rfl⟩) ⟨fun a U g mk q => by obtain ⟨q0, q1, qP, qK, qD⟩ := q; exact ⟨q0, q1, qP, va_K.moved (u := U) (U := U.calling g mk a) (Vm.Alike.refl U.vm) qK, qD⟩, va_recv hK hP (ci := 12) (q0 := 0) rfl rfl, fun U hU hW => ⟨rfl, by rw [hU], by rw [hU]; exact hPc, va_K.moved hW.alike hKc, hDc.weaken (fun _ _ _ _ => trivial)⟩⟩ rfl rfl hl.1 rfl (lv_room (Nat.le_of_ble_eq_true rfl)) dX12_isSide_5 ⟨Nat.le_of_ble_eq_true rfl, Nat.le_of_ble_eq_true rfl⟩) hS (fun q _ h => hFc q h) hFc (fun r_2 u t H1 locs ht hvm hw hB hz1 hk1 hS => ?_)
  obtain ⟨hP1, hK1, hD1⟩ := hB
  rw [ht] at hP1
  try dsimp only at hw
  obtain ⟨hP, hD⟩ := va_join (wr := [(h0, .inr (12, fs))]) (w1 := []) hP hD [] [0] rfl rfl (by decide) (by decide) hk1 hFc hP1 hD1
  clear hk1 hz1 hPc hDc hFc hP1 hD1 hK1 hKc
  generalize H1 = H at hP hS ⊢
  have hP : va_P (dC, dI) cls [(h0, .inr (12, fs))] H := hP
  have hD : va_D A [(h0, .inr (12, fs))] := hD
  rcases hw with ⟨rfl, f_3⟩ | ⟨rfl, f_3⟩
  · skip
    have hP9 := hP.sub (ws' := [(h0, .inr (12, fs))]) [0] rfl
    have hD9 := hD.sub (ws' := [(h0, .inr (12, fs))]) [0] (by decide) rfl
    exact W.zret (v := 1) (ty := .boolean) hx hb hr rfl (fun t ht hW => ⟨⟨1, (), rfl, Or.inl rfl, by rw [ht]; exact hP9, va_K.moved hW.alike hK, hD9⟩, hS.F ht⟩) hS.2.2 dX12_isSide_8
  · skip
    have hP9 := hP.sub (ws' := [(h0, .inr (12, fs))]) [0] rfl
    have hD9 := hD.sub (ws' := [(h0, .inr (12, fs))]) [0] (by decide) rfl
    exact W.zret (v := 0) (ty := .boolean) hx hb hr rfl (fun t ht hW => ⟨⟨0, (), rfl, Or.inr rfl, by rw [ht]; exact hP9, va_K.moved hW.alike hK, hD9⟩, hS.F ht⟩) hS.2.2 dX12_isSide_8
def wm_isLens : List Cond := .code yX12_isLens cX12_isLens 2 (some .boolean) :: ([.fieldLink RX12 506 "PutBackModel" "lenses" "I", .methodLink RX12 153 yX12_isIn, .instanceMethod yX12_isIn, .selects RX12 yX12_isIn yX12_isIn, .initialized RX12, .code yX12_isIn cX12_isIn 7 (some .boolean)] ++ wsX120)
theorem im_isLens_RX12 : ∀ w ∈ u_ws RX12 TX12 65, w ∈ wm_isLens := fun w h => List.mem_cons_of_mem _ (List.mem_append_right _ h)
theorem gm_isLens_153g : GoodIn wm_isLens wm_isIn := goodIn_r _ [6] (by decide +kernel) (by decide +kernel)
theorem gm_isLens_153 : GoodIn wm_isLens (wsV RX12 153 RX12 yX12_isIn wm_isIn) := goodIn_app (goodIn_of _ (by decide +kernel)) gm_isLens_153g
set_option maxHeartbeats 4000000 in
set_option maxRecDepth 100000 in
theorem m_isLens (l : Launch) (dC : Nat → ClassId) (dI : Nat → Nat → Nat) (sz : Nat) (h0 : Nat) (v1 : Int32) (a1 : Nat) (a2 : Nat) (a3 : Nat) (a4 : Nat) (a5 : Nat) (a7 : Nat) (a8 : Nat) (a10 : Nat) (a11 : Nat) (a12 : Nat) (a13 : Nat) (a15 : Nat) (a16 : Nat) (a17 : Nat) (a18 : Nat) (a19 : Nat) (a20 : Nat) (a21 : Nat) (a22 : Nat) (a24 : Nat) (a26 : Nat) (a27 : Nat) (a29 : Nat) (a30 : Nat) (a31 : Nat) (a32 : Nat) (a33 : Nat) (a35 : Nat) (a36 : Nat) (a38 : Nat) (a50 : Nat) (a51 : Nat) (a54 : Nat) (a55 : Nat) (a57 : Nat) (a58 : Nat) (a59 : Nat) (a60 : Nat) (a64 : Nat) : Met l yX12_isLens wm_isLens ({ frames := 1, cells := 0, slots := 0, locals := 26 } : Room) (va_Pc [.ref h0, .int v1] (fun U => U.heap.size = sz ∧ va_P (dC, dI) cls [(h0, .inr (12, [.int 0, .ref a1, .ref a2, .ref a3, .ref a4, .ref a5, .int 0, .ref a7, .ref a8, .int 0, .ref a10, .ref a11, .ref a12, .ref a13, .int 0, .ref a15, .ref a16, .ref a17, .ref a18, .ref a19, .ref a20, .ref a21, .ref a22, .int 0, .ref a24, .int 0, .ref a26, .ref a27, .int 0, .ref a29, .ref a30, .ref a31, .ref a32, .ref a33, .int 0, .ref a35, .ref a36, .int 0, .ref a38, .int 0, .int 0, .int 0, .int 0, .int 0, .long 0, .int 0, .int 0, .int (-1), .int (-1), .int 0, .ref a50, .ref a51, .int 0, .int 0, .ref a54, .ref a55, .int (-1), .ref a57, .ref a58, .ref a59, .ref a60, .int 0, .int 0, .int 0, .ref a64]))] U.heap ∧ va_K (dC, dI) cls [] U ∧ va_D (fun _ => True) [(h0, .inr (12, [.int 0, .ref a1, .ref a2, .ref a3, .ref a4, .ref a5, .int 0, .ref a7, .ref a8, .int 0, .ref a10, .ref a11, .ref a12, .ref a13, .int 0, .ref a15, .ref a16, .ref a17, .ref a18, .ref a19, .ref a20, .ref a21, .ref a22, .int 0, .ref a24, .int 0, .ref a26, .ref a27, .int 0, .ref a29, .ref a30, .ref a31, .ref a32, .ref a33, .int 0, .ref a35, .ref a36, .int 0, .ref a38, .int 0, .int 0, .int 0, .int 0, .int 0, .long 0, .int 0, .int 0, .int (-1), .int (-1), .int 0, .ref a50, .ref a51, .int 0, .int 0, .ref a54, .ref a55, .int (-1), .ref a57, .ref a58, .ref a59, .ref a60, .int 0, .int 0, .int 0, .ref a64]))])) (va_Qi (fun (r : Int32) (_ : Unit) => r = 0) (fun (_ : Unit) t => va_P (dC, dI) cls [(h0, .inr (12, [.int 0, .ref a1, .ref a2, .ref a3, .ref a4, .ref a5, .int 0, .ref a7, .ref a8, .int 0, .ref a10, .ref a11, .ref a12, .ref a13, .int 0, .ref a15, .ref a16, .ref a17, .ref a18, .ref a19, .ref a20, .ref a21, .ref a22, .int 0, .ref a24, .int 0, .ref a26, .ref a27, .int 0, .ref a29, .ref a30, .ref a31, .ref a32, .ref a33, .int 0, .ref a35, .ref a36, .int 0, .ref a38, .int 0, .int 0, .int 0, .int 0, .int 0, .long 0, .int 0, .int 0, .int (-1), .int (-1), .int 0, .ref a50, .ref a51, .int 0, .int 0, .ref a54, .ref a55, .int (-1), .ref a57, .ref a58, .ref a59, .ref a60, .int 0, .int 0, .int 0, .ref a64]))] t.heap ∧ va_K (dC, dI) cls [] t ∧ va_D (va_A [(h0, .inr (12, [.int 0, .ref a1, .ref a2, .ref a3, .ref a4, .ref a5, .int 0, .ref a7, .ref a8, .int 0, .ref a10, .ref a11, .ref a12, .ref a13, .int 0, .ref a15, .ref a16, .ref a17, .ref a18, .ref a19, .ref a20, .ref a21, .ref a22, .int 0, .ref a24, .int 0, .ref a26, .ref a27, .int 0, .ref a29, .ref a30, .ref a31, .ref a32, .ref a33, .int 0, .ref a35, .ref a36, .int 0, .ref a38, .int 0, .int 0, .int 0, .int 0, .int 0, .long 0, .int 0, .int 0, .int (-1), .int (-1), .int 0, .ref a50, .ref a51, .int 0, .int 0, .ref a54, .ref a55, .int (-1), .ref a57, .ref a58, .ref a59, .ref a60, .int 0, .int 0, .int 0, .ref a64]))] sz) [(h0, .inr (12, [.int 0, .ref a1, .ref a2, .ref a3, .ref a4, .ref a5, .int 0, .ref a7, .ref a8, .int 0, .ref a10, .ref a11, .ref a12, .ref a13, .int 0, .ref a15, .ref a16, .ref a17, .ref a18, .ref a19, .ref a20, .ref a21, .ref a22, .int 0, .ref a24, .int 0, .ref a26, .ref a27, .int 0, .ref a29, .ref a30, .ref a31, .ref a32, .ref a33, .int 0, .ref a35, .ref a36, .int 0, .ref a38, .int 0, .int 0, .int 0, .int 0, .int 0, .long 0, .int 0, .int 0, .int (-1), .int (-1), .int 0, .ref a50, .ref a51, .int 0, .int 0, .ref a54, .ref a55, .int (-1), .ref a57, .ref a58, .ref a59, .ref a60, .int 0, .int 0, .int 0, .ref a64]))]) (va_A [(h0, .inr (12, [.int 0, .ref a1, .ref a2, .ref a3, .ref a4, .ref a5, .int 0, .ref a7, .ref a8, .int 0, .ref a10, .ref a11, .ref a12, .ref a13, .int 0, .ref a15, .ref a16, .ref a17, .ref a18, .ref a19, .ref a20, .ref a21, .ref a22, .int 0, .ref a24, .int 0, .ref a26, .ref a27, .int 0, .ref a29, .ref a30, .ref a31, .ref a32, .ref a33, .int 0, .ref a35, .ref a36, .int 0, .ref a38, .int 0, .int 0, .int 0, .int 0, .int 0, .long 0, .int 0, .int 0, .int (-1), .int (-1), .int 0, .ref a50, .ref a51, .int 0, .int 0, .ref a54, .ref a55, .int (-1), .ref a57, .ref a58, .ref a59, .ref a60, .int 0, .int 0, .int 0, .ref a64]))] sz)) 0 0 (va_A [(h0, .inr (12, [.int 0, .ref a1, .ref a2, .ref a3, .ref a4, .ref a5, .int 0, .ref a7, .ref a8, .int 0, .ref a10, .ref a11, .ref a12, .ref a13, .int 0, .ref a15, .ref a16, .ref a17, .ref a18, .ref a19, .ref a20, .ref a21, .ref a22, .int 0, .ref a24, .int 0, .ref a26, .ref a27, .int 0, .ref a29, .ref a30, .ref a31, .ref a32, .ref a33, .int 0, .ref a35, .ref a36, .int 0, .ref a38, .int 0, .int 0, .int 0, .int 0, .int 0, .long 0, .int 0, .int 0, .int (-1), .int (-1), .int 0, .ref a50, .ref a51, .int 0, .int 0, .ref a54, .ref a55, .int (-1), .ref a57, .ref a58, .ref a59, .ref a60, .int 0, .int 0, .int 0, .ref a64]))] sz) := by
  refine Met.ofW (cc := cX12_isLens) (maxL := 2) (ret := (some .boolean)) (by decide) rfl ?_
  intro p e s m args below meth c s₁ B hml hv
  obtain ⟨rfl, hsz, hP, hK, hD0⟩ := hv
  have hx := B.exec
  have hb := B.bytes
  have hr := B.returns
  have hts := atoms_spec (ws := wm_isLens) B.pre
  have hown : s.vm.findClass RX12 = some m.cls := findClass_of_methodNamed B.named
  have hlocks := B.notSynchronized
  subst hsz
  have hD := hD0.self (sz := s.heap.size)
  generalize hAe : va_A [(h0, .inr (12, [.int 0, .ref a1, .ref a2, .ref a3, .ref a4, .ref a5, .int 0, .ref a7, .ref a8, .int 0, .ref a10, .ref a11, .ref a12, .ref a13, .int 0, .ref a15, .ref a16, .ref a17, .ref a18, .ref a19, .ref a20, .ref a21, .ref a22, .int 0, .ref a24, .int 0, .ref a26, .ref a27, .int 0, .ref a29, .ref a30, .ref a31, .ref a32, .ref a33, .int 0, .ref a35, .ref a36, .int 0, .ref a38, .int 0, .int 0, .int 0, .int 0, .int 0, .long 0, .int 0, .int 0, .int (-1), .int (-1), .int 0, .ref a50, .ref a51, .int 0, .int 0, .ref a54, .ref a55, .int (-1), .ref a57, .ref a58, .ref a59, .ref a60, .int 0, .int 0, .int 0, .ref a64]))] s.heap.size = A at hD ⊢
  have hA : ∀ q : Nat, s.heap.size ≤ q → A q := fun q h => by rw [← hAe]; exact Or.inr h
  have hP : va_P (dC, dI) cls [(h0, .inr (12, [.int 0, .ref a1, .ref a2, .ref a3, .ref a4, .ref a5, .int 0, .ref a7, .ref a8, .int 0, .ref a10, .ref a11, .ref a12, .ref a13, .int 0, .ref a15, .ref a16, .ref a17, .ref a18, .ref a19, .ref a20, .ref a21, .ref a22, .int 0, .ref a24, .int 0, .ref a26, .ref a27, .int 0, .ref a29, .ref a30, .ref a31, .ref a32, .ref a33, .int 0, .ref a35, .ref a36, .int 0, .ref a38, .int 0, .int 0, .int 0, .int 0, .int 0, .long 0, .int 0, .int 0, .int (-1), .int (-1), .int 0, .ref a50, .ref a51, .int 0, .int 0, .ref a54, .ref a55, .int (-1), .ref a57, .ref a58, .ref a59, .ref a60, .int 0, .int 0, .int 0, .ref a64]))] s.heap := hP
  have hl := lv_entry ([.ref h0, .int v1]) (n := 2) (Nat.le_of_ble_eq_true rfl)
  rw [lg_entry_eq]
  generalize (lg_sl ([.ref h0, .int v1]) ++ List.replicate (2 - (lg_sl ([.ref h0, .int v1])).length) Slot.unset).toArray = ls at hl ⊢
  have hl : lv_has ls 2 [(0, .ref h0), (1, .int v1)] := hl
  obtain ⟨H, hH⟩ : ∃ H : Heap, s.heap = H := ⟨_, rfl⟩
  rw [hH] at hP ⊢
  have hS : va_S A s.heap H [] := by rw [← hH]; exact va_S.rf
  refine lv_aload_n hx hb dX12_isLens_0 rfl (lv_at hl 0 rfl) ?_
  refine lv_iload_n hx hb dX12_isLens_1 rfl (lv_at hl 1 rfl) ?_
  refine lv_i2l (v := v1.toInt64) hx hb dX12_isLens_2 rfl ?_
  refine lv_lconst (v := 0) hx hb dX12_isLens_3 (by decide) ?_
  refine lv_aload_n hx hb dX12_isLens_4 rfl (lv_at hl 0 rfl) ?_
  refine va_get (D := (dC, dI)) (ci := 12) (v := .int 0) (C := RX12) (T := TX12) (N := 65) hx hb hts im_isLens_RX12 hown hK hP 0 rfl rfl 28 (by decide) (hts (.fieldLink RX12 506 "PutBackModel" "lenses" "I") (by decide +kernel)) (fun _ h9 => h9) rfl dX12_isLens_5 ?_
  refine lv_i2l (v := 0) hx hb dX12_isLens_8 (by decide) ?_
  refine lv_lconst (v := 1) hx hb dX12_isLens_9 (by decide) ?_
  refine lv_lsub hx hb dX12_isLens_10 ?_
  refine lv_topl (fun z_1 ez_1 => ?_)
  obtain rfl : z_1 = ((-1) : Int64) := ez_1.trans (by decide)
  have hPc := hP.sub (ws' := []) [] rfl
  have hDc := hD.sub (ws' := []) [] (by decide) rfl
  have hKc := hK.sub (tys' := []) [] rfl
  have hFc := va_free (wc := []) hD hS hA [] rfl
  refine va_calli (va_runV (As := [.long v1.toInt64, .long 0, .long (-1)]) (rest := []) ⟨hx, hb, hml, hown, hts⟩ (m_isIn l dC dI H.size h0 v1.toInt64 0 (-1)) (cwV 3 hts gm_isLens_153 rfl rfl rfl (by decide +kernel) ⟨Nat.le_of_ble_eq_true rfl, Nat.le_of_ble_eq_true rfl⟩) ⟨fun a U g mk q => by obtain ⟨q0, q1, qP, qK, qD⟩ := q; exact ⟨q0, q1, qP, va_K.moved (u := U) (U := U.calling g mk a) (Vm.Alike.refl U.vm) qK, qD⟩, va_recv hK hP (ci := 12) (q0 := 0) rfl rfl, fun U hU hW => ⟨rfl, by rw [hU], by rw [hU]; exact hPc, va_K.moved hW.alike hKc, hDc.weaken (fun _ _ _ _ => trivial)⟩⟩ rfl rfl hl.1 rfl (lv_room (Nat.le_of_ble_eq_true rfl)) dX12_isLens_11 ⟨Nat.le_of_ble_eq_true rfl, Nat.le_of_ble_eq_true rfl⟩) hS (fun q _ h => hFc q h) hFc (fun r_3 u t H1 locs ht hvm hw hB hz1 hk1 hS => ?_)
  obtain ⟨hP1, hK1, hD1⟩ := hB
  rw [ht] at hP1
  try dsimp only at hw
  obtain ⟨hP, hD⟩ := va_join (wr := [(h0, .inr (12, [.int 0, .ref a1, .ref a2, .ref a3, .ref a4, .ref a5, .int 0, .ref a7, .ref a8, .int 0, .ref a10, .ref a11, .ref a12, .ref a13, .int 0, .ref a15, .ref a16, .ref a17, .ref a18, .ref a19, .ref a20, .ref a21, .ref a22, .int 0, .ref a24, .int 0, .ref a26, .ref a27, .int 0, .ref a29, .ref a30, .ref a31, .ref a32, .ref a33, .int 0, .ref a35, .ref a36, .int 0, .ref a38, .int 0, .int 0, .int 0, .int 0, .int 0, .long 0, .int 0, .int 0, .int (-1), .int (-1), .int 0, .ref a50, .ref a51, .int 0, .int 0, .ref a54, .ref a55, .int (-1), .ref a57, .ref a58, .ref a59, .ref a60, .int 0, .int 0, .int 0, .ref a64]))]) (w1 := []) hP hD [] [0] rfl rfl (by decide) (by decide) hk1 hFc hP1 hD1
  clear hk1 hz1 hPc hDc hFc hP1 hD1 hK1 hKc
  generalize H1 = H at hP hS ⊢
  have hP : va_P (dC, dI) cls [(h0, .inr (12, [.int 0, .ref a1, .ref a2, .ref a3, .ref a4, .ref a5, .int 0, .ref a7, .ref a8, .int 0, .ref a10, .ref a11, .ref a12, .ref a13, .int 0, .ref a15, .ref a16, .ref a17, .ref a18, .ref a19, .ref a20, .ref a21, .ref a22, .int 0, .ref a24, .int 0, .ref a26, .ref a27, .int 0, .ref a29, .ref a30, .ref a31, .ref a32, .ref a33, .int 0, .ref a35, .ref a36, .int 0, .ref a38, .int 0, .int 0, .int 0, .int 0, .int 0, .long 0, .int 0, .int 0, .int (-1), .int (-1), .int 0, .ref a50, .ref a51, .int 0, .int 0, .ref a54, .ref a55, .int (-1), .ref a57, .ref a58, .ref a59, .ref a60, .int 0, .int 0, .int 0, .ref a64]))] H := hP
  have hD : va_D A [(h0, .inr (12, [.int 0, .ref a1, .ref a2, .ref a3, .ref a4, .ref a5, .int 0, .ref a7, .ref a8, .int 0, .ref a10, .ref a11, .ref a12, .ref a13, .int 0, .ref a15, .ref a16, .ref a17, .ref a18, .ref a19, .ref a20, .ref a21, .ref a22, .int 0, .ref a24, .int 0, .ref a26, .ref a27, .int 0, .ref a29, .ref a30, .ref a31, .ref a32, .ref a33, .int 0, .ref a35, .ref a36, .int 0, .ref a38, .int 0, .int 0, .int 0, .int 0, .int 0, .long 0, .int 0, .int 0, .int (-1), .int (-1), .int 0, .ref a50, .ref a51, .int 0, .int 0, .ref a54, .ref a55, .int (-1), .ref a57, .ref a58, .ref a59, .ref a60, .int 0, .int 0, .int 0, .ref a64]))] := hD
  rcases hw with ⟨rfl, f_4⟩ | ⟨rfl, f_4⟩
  · skip
    have hP9 := hP.sub (ws' := [(h0, .inr (12, [.int 0, .ref a1, .ref a2, .ref a3, .ref a4, .ref a5, .int 0, .ref a7, .ref a8, .int 0, .ref a10, .ref a11, .ref a12, .ref a13, .int 0, .ref a15, .ref a16, .ref a17, .ref a18, .ref a19, .ref a20, .ref a21, .ref a22, .int 0, .ref a24, .int 0, .ref a26, .ref a27, .int 0, .ref a29, .ref a30, .ref a31, .ref a32, .ref a33, .int 0, .ref a35, .ref a36, .int 0, .ref a38, .int 0, .int 0, .int 0, .int 0, .int 0, .long 0, .int 0, .int 0, .int (-1), .int (-1), .int 0, .ref a50, .ref a51, .int 0, .int 0, .ref a54, .ref a55, .int (-1), .ref a57, .ref a58, .ref a59, .ref a60, .int 0, .int 0, .int 0, .ref a64]))]) [0] rfl
    have hD9 := hD.sub (ws' := [(h0, .inr (12, [.int 0, .ref a1, .ref a2, .ref a3, .ref a4, .ref a5, .int 0, .ref a7, .ref a8, .int 0, .ref a10, .ref a11, .ref a12, .ref a13, .int 0, .ref a15, .ref a16, .ref a17, .ref a18, .ref a19, .ref a20, .ref a21, .ref a22, .int 0, .ref a24, .int 0, .ref a26, .ref a27, .int 0, .ref a29, .ref a30, .ref a31, .ref a32, .ref a33, .int 0, .ref a35, .ref a36, .int 0, .ref a38, .int 0, .int 0, .int 0, .int 0, .int 0, .long 0, .int 0, .int 0, .int (-1), .int (-1), .int 0, .ref a50, .ref a51, .int 0, .int 0, .ref a54, .ref a55, .int (-1), .ref a57, .ref a58, .ref a59, .ref a60, .int 0, .int 0, .int 0, .ref a64]))]) [0] (by decide) rfl
    exact W.zret (v := 1) (ty := .boolean) hx hb hr rfl (fun t ht hW => ⟨⟨1, (), rfl, absurd f_4 zL, by rw [ht]; exact hP9, va_K.moved hW.alike hK, hD9⟩, hS.F ht⟩) hS.2.2 dX12_isLens_14
  · skip
    have hP9 := hP.sub (ws' := [(h0, .inr (12, [.int 0, .ref a1, .ref a2, .ref a3, .ref a4, .ref a5, .int 0, .ref a7, .ref a8, .int 0, .ref a10, .ref a11, .ref a12, .ref a13, .int 0, .ref a15, .ref a16, .ref a17, .ref a18, .ref a19, .ref a20, .ref a21, .ref a22, .int 0, .ref a24, .int 0, .ref a26, .ref a27, .int 0, .ref a29, .ref a30, .ref a31, .ref a32, .ref a33, .int 0, .ref a35, .ref a36, .int 0, .ref a38, .int 0, .int 0, .int 0, .int 0, .int 0, .long 0, .int 0, .int 0, .int (-1), .int (-1), .int 0, .ref a50, .ref a51, .int 0, .int 0, .ref a54, .ref a55, .int (-1), .ref a57, .ref a58, .ref a59, .ref a60, .int 0, .int 0, .int 0, .ref a64]))]) [0] rfl
    have hD9 := hD.sub (ws' := [(h0, .inr (12, [.int 0, .ref a1, .ref a2, .ref a3, .ref a4, .ref a5, .int 0, .ref a7, .ref a8, .int 0, .ref a10, .ref a11, .ref a12, .ref a13, .int 0, .ref a15, .ref a16, .ref a17, .ref a18, .ref a19, .ref a20, .ref a21, .ref a22, .int 0, .ref a24, .int 0, .ref a26, .ref a27, .int 0, .ref a29, .ref a30, .ref a31, .ref a32, .ref a33, .int 0, .ref a35, .ref a36, .int 0, .ref a38, .int 0, .int 0, .int 0, .int 0, .int 0, .long 0, .int 0, .int 0, .int (-1), .int (-1), .int 0, .ref a50, .ref a51, .int 0, .int 0, .ref a54, .ref a55, .int (-1), .ref a57, .ref a58, .ref a59, .ref a60, .int 0, .int 0, .int 0, .ref a64]))]) [0] (by decide) rfl
    exact W.zret (v := 0) (ty := .boolean) hx hb hr rfl (fun t ht hW => ⟨⟨0, (), rfl, rfl, by rw [ht]; exact hP9, va_K.moved hW.alike hK, hD9⟩, hS.F ht⟩) hS.2.2 dX12_isLens_14
def wm_isRepeated : List Cond := .code yX12_isRepeated cX12_isRepeated 4 (some .boolean) :: ([.methodLink RX12 520 yX12_isLens, .instanceMethod yX12_isLens, .selects RX12 yX12_isLens yX12_isLens, .initialized RX12, .code yX12_isLens cX12_isLens 2 (some .boolean), .fieldLink RX12 506 "PutBackModel" "lenses" "I", .methodLink RX12 153 yX12_isIn, .instanceMethod yX12_isIn, .selects RX12 yX12_isIn yX12_isIn, .code yX12_isIn cX12_isIn 7 (some .boolean)] ++ wsX120)
theorem im_isRepeated_RX12 : ∀ w ∈ u_ws RX12 TX12 65, w ∈ wm_isRepeated := fun w h => List.mem_cons_of_mem _ (List.mem_append_right _ h)
theorem gm_isRepeated_520g : GoodIn wm_isRepeated wm_isLens := goodIn_r _ [5, 6, 7, 8, 9, 4, 10, 11, 12, 13, 14, 15, 16, 17, 18, 19, 20, 21, 22, 23, 24, 25, 26, 27, 28, 29, 30, 31, 32, 33, 34, 35, 36, 37, 38, 39, 40, 41, 42, 43, 44, 45, 46, 47, 48, 49, 50, 51, 52, 53, 54, 55, 56, 57, 58, 59, 60, 61, 62, 63, 64, 65, 66, 67, 68, 69, 70, 71, 72, 73, 74, 75] (by decide +kernel) (by decide +kernel)
theorem gm_isRepeated_520 : GoodIn wm_isRepeated (wsV RX12 520 RX12 yX12_isLens wm_isLens) := goodIn_app (goodIn_of _ (by decide +kernel)) gm_isRepeated_520g
set_option maxHeartbeats 4000000 in
set_option maxRecDepth 100000 in
theorem m_isRepeated (l : Launch) (dC : Nat → ClassId) (dI : Nat → Nat → Nat) (sz : Nat) (h0 : Nat) (v1 : Int32) (v2 : Int32) (a1 : Nat) (a2 : Nat) (a3 : Nat) (a4 : Nat) (a5 : Nat) (a7 : Nat) (a8 : Nat) (a10 : Nat) (a11 : Nat) (a12 : Nat) (a13 : Nat) (a15 : Nat) (a16 : Nat) (a17 : Nat) (a18 : Nat) (a19 : Nat) (a20 : Nat) (a21 : Nat) (a22 : Nat) (a24 : Nat) (a26 : Nat) (a27 : Nat) (a29 : Nat) (a30 : Nat) (a31 : Nat) (a32 : Nat) (a33 : Nat) (a35 : Nat) (a36 : Nat) (a38 : Nat) (a50 : Nat) (a51 : Nat) (a54 : Nat) (a55 : Nat) (a57 : Nat) (a58 : Nat) (a59 : Nat) (a60 : Nat) (a64 : Nat) : Met l yX12_isRepeated wm_isRepeated ({ frames := 2, cells := 0, slots := 0, locals := 47 } : Room) (va_Pc [.ref h0, .int v1, .int v2] (fun U => U.heap.size = sz ∧ va_P (dC, dI) cls [(h0, .inr (12, [.int 0, .ref a1, .ref a2, .ref a3, .ref a4, .ref a5, .int 0, .ref a7, .ref a8, .int 0, .ref a10, .ref a11, .ref a12, .ref a13, .int 0, .ref a15, .ref a16, .ref a17, .ref a18, .ref a19, .ref a20, .ref a21, .ref a22, .int 0, .ref a24, .int 0, .ref a26, .ref a27, .int 0, .ref a29, .ref a30, .ref a31, .ref a32, .ref a33, .int 0, .ref a35, .ref a36, .int 0, .ref a38, .int 0, .int 0, .int 0, .int 0, .int 0, .long 0, .int 0, .int 0, .int (-1), .int (-1), .int 0, .ref a50, .ref a51, .int 0, .int 0, .ref a54, .ref a55, .int (-1), .ref a57, .ref a58, .ref a59, .ref a60, .int 0, .int 0, .int 0, .ref a64]))] U.heap ∧ va_K (dC, dI) cls [] U ∧ va_D (fun _ => True) [(h0, .inr (12, [.int 0, .ref a1, .ref a2, .ref a3, .ref a4, .ref a5, .int 0, .ref a7, .ref a8, .int 0, .ref a10, .ref a11, .ref a12, .ref a13, .int 0, .ref a15, .ref a16, .ref a17, .ref a18, .ref a19, .ref a20, .ref a21, .ref a22, .int 0, .ref a24, .int 0, .ref a26, .ref a27, .int 0, .ref a29, .ref a30, .ref a31, .ref a32, .ref a33, .int 0, .ref a35, .ref a36, .int 0, .ref a38, .int 0, .int 0, .int 0, .int 0, .int 0, .long 0, .int 0, .int 0, .int (-1), .int (-1), .int 0, .ref a50, .ref a51, .int 0, .int 0, .ref a54, .ref a55, .int (-1), .ref a57, .ref a58, .ref a59, .ref a60, .int 0, .int 0, .int 0, .ref a64]))])) (va_Qi (fun (r : Int32) (_ : Unit) => r = 0) (fun (_ : Unit) t => va_P (dC, dI) cls [(h0, .inr (12, [.int 0, .ref a1, .ref a2, .ref a3, .ref a4, .ref a5, .int 0, .ref a7, .ref a8, .int 0, .ref a10, .ref a11, .ref a12, .ref a13, .int 0, .ref a15, .ref a16, .ref a17, .ref a18, .ref a19, .ref a20, .ref a21, .ref a22, .int 0, .ref a24, .int 0, .ref a26, .ref a27, .int 0, .ref a29, .ref a30, .ref a31, .ref a32, .ref a33, .int 0, .ref a35, .ref a36, .int 0, .ref a38, .int 0, .int 0, .int 0, .int 0, .int 0, .long 0, .int 0, .int 0, .int (-1), .int (-1), .int 0, .ref a50, .ref a51, .int 0, .int 0, .ref a54, .ref a55, .int (-1), .ref a57, .ref a58, .ref a59, .ref a60, .int 0, .int 0, .int 0, .ref a64]))] t.heap ∧ va_K (dC, dI) cls [] t ∧ va_D (va_A [(h0, .inr (12, [.int 0, .ref a1, .ref a2, .ref a3, .ref a4, .ref a5, .int 0, .ref a7, .ref a8, .int 0, .ref a10, .ref a11, .ref a12, .ref a13, .int 0, .ref a15, .ref a16, .ref a17, .ref a18, .ref a19, .ref a20, .ref a21, .ref a22, .int 0, .ref a24, .int 0, .ref a26, .ref a27, .int 0, .ref a29, .ref a30, .ref a31, .ref a32, .ref a33, .int 0, .ref a35, .ref a36, .int 0, .ref a38, .int 0, .int 0, .int 0, .int 0, .int 0, .long 0, .int 0, .int 0, .int (-1), .int (-1), .int 0, .ref a50, .ref a51, .int 0, .int 0, .ref a54, .ref a55, .int (-1), .ref a57, .ref a58, .ref a59, .ref a60, .int 0, .int 0, .int 0, .ref a64]))] sz) [(h0, .inr (12, [.int 0, .ref a1, .ref a2, .ref a3, .ref a4, .ref a5, .int 0, .ref a7, .ref a8, .int 0, .ref a10, .ref a11, .ref a12, .ref a13, .int 0, .ref a15, .ref a16, .ref a17, .ref a18, .ref a19, .ref a20, .ref a21, .ref a22, .int 0, .ref a24, .int 0, .ref a26, .ref a27, .int 0, .ref a29, .ref a30, .ref a31, .ref a32, .ref a33, .int 0, .ref a35, .ref a36, .int 0, .ref a38, .int 0, .int 0, .int 0, .int 0, .int 0, .long 0, .int 0, .int 0, .int (-1), .int (-1), .int 0, .ref a50, .ref a51, .int 0, .int 0, .ref a54, .ref a55, .int (-1), .ref a57, .ref a58, .ref a59, .ref a60, .int 0, .int 0, .int 0, .ref a64]))]) (va_A [(h0, .inr (12, [.int 0, .ref a1, .ref a2, .ref a3, .ref a4, .ref a5, .int 0, .ref a7, .ref a8, .int 0, .ref a10, .ref a11, .ref a12, .ref a13, .int 0, .ref a15, .ref a16, .ref a17, .ref a18, .ref a19, .ref a20, .ref a21, .ref a22, .int 0, .ref a24, .int 0, .ref a26, .ref a27, .int 0, .ref a29, .ref a30, .ref a31, .ref a32, .ref a33, .int 0, .ref a35, .ref a36, .int 0, .ref a38, .int 0, .int 0, .int 0, .int 0, .int 0, .long 0, .int 0, .int 0, .int (-1), .int (-1), .int 0, .ref a50, .ref a51, .int 0, .int 0, .ref a54, .ref a55, .int (-1), .ref a57, .ref a58, .ref a59, .ref a60, .int 0, .int 0, .int 0, .ref a64]))] sz)) 0 0 (va_A [(h0, .inr (12, [.int 0, .ref a1, .ref a2, .ref a3, .ref a4, .ref a5, .int 0, .ref a7, .ref a8, .int 0, .ref a10, .ref a11, .ref a12, .ref a13, .int 0, .ref a15, .ref a16, .ref a17, .ref a18, .ref a19, .ref a20, .ref a21, .ref a22, .int 0, .ref a24, .int 0, .ref a26, .ref a27, .int 0, .ref a29, .ref a30, .ref a31, .ref a32, .ref a33, .int 0, .ref a35, .ref a36, .int 0, .ref a38, .int 0, .int 0, .int 0, .int 0, .int 0, .long 0, .int 0, .int 0, .int (-1), .int (-1), .int 0, .ref a50, .ref a51, .int 0, .int 0, .ref a54, .ref a55, .int (-1), .ref a57, .ref a58, .ref a59, .ref a60, .int 0, .int 0, .int 0, .ref a64]))] sz) := by
  refine Met.ofW (cc := cX12_isRepeated) (maxL := 4) (ret := (some .boolean)) (by decide) rfl ?_
  intro p e s m args below meth c s₁ B hml hv
  obtain ⟨rfl, hsz, hP, hK, hD0⟩ := hv
  have hx := B.exec
  have hb := B.bytes
  have hr := B.returns
  have hts := atoms_spec (ws := wm_isRepeated) B.pre
  have hown : s.vm.findClass RX12 = some m.cls := findClass_of_methodNamed B.named
  have hlocks := B.notSynchronized
  subst hsz
  have hD := hD0.self (sz := s.heap.size)
  generalize hAe : va_A [(h0, .inr (12, [.int 0, .ref a1, .ref a2, .ref a3, .ref a4, .ref a5, .int 0, .ref a7, .ref a8, .int 0, .ref a10, .ref a11, .ref a12, .ref a13, .int 0, .ref a15, .ref a16, .ref a17, .ref a18, .ref a19, .ref a20, .ref a21, .ref a22, .int 0, .ref a24, .int 0, .ref a26, .ref a27, .int 0, .ref a29, .ref a30, .ref a31, .ref a32, .ref a33, .int 0, .ref a35, .ref a36, .int 0, .ref a38, .int 0, .int 0, .int 0, .int 0, .int 0, .long 0, .int 0, .int 0, .int (-1), .int (-1), .int 0, .ref a50, .ref a51, .int 0, .int 0, .ref a54, .ref a55, .int (-1), .ref a57, .ref a58, .ref a59, .ref a60, .int 0, .int 0, .int 0, .ref a64]))] s.heap.size = A at hD ⊢
  have hA : ∀ q : Nat, s.heap.size ≤ q → A q := fun q h => by rw [← hAe]; exact Or.inr h
  have hP : va_P (dC, dI) cls [(h0, .inr (12, [.int 0, .ref a1, .ref a2, .ref a3, .ref a4, .ref a5, .int 0, .ref a7, .ref a8, .int 0, .ref a10, .ref a11, .ref a12, .ref a13, .int 0, .ref a15, .ref a16, .ref a17, .ref a18, .ref a19, .ref a20, .ref a21, .ref a22, .int 0, .ref a24, .int 0, .ref a26, .ref a27, .int 0, .ref a29, .ref a30, .ref a31, .ref a32, .ref a33, .int 0, .ref a35, .ref a36, .int 0, .ref a38, .int 0, .int 0, .int 0, .int 0, .int 0, .long 0, .int 0, .int 0, .int (-1), .int (-1), .int 0, .ref a50, .ref a51, .int 0, .int 0, .ref a54, .ref a55, .int (-1), .ref a57, .ref a58, .ref a59, .ref a60, .int 0, .int 0, .int 0, .ref a64]))] s.heap := hP
  have hl := lv_entry ([.ref h0, .int v1, .int v2]) (n := 4) (Nat.le_of_ble_eq_true rfl)
  rw [lg_entry_eq]
  generalize (lg_sl ([.ref h0, .int v1, .int v2]) ++ List.replicate (4 - (lg_sl ([.ref h0, .int v1, .int v2])).length) Slot.unset).toArray = ls at hl ⊢
  have hl : lv_has ls 4 [(0, .ref h0), (1, .int v1), (2, .int v2)] := hl
  obtain ⟨H, hH⟩ : ∃ H : Heap, s.heap = H := ⟨_, rfl⟩
  rw [hH] at hP ⊢
  have hS : va_S A s.heap H [] := by rw [← hH]; exact va_S.rf
  refine lv_aload_n hx hb dX12_isRepeated_0 rfl (lv_at hl 0 rfl) ?_
  refine lv_iload_n hx hb dX12_isRepeated_1 rfl (lv_at hl 1 rfl) ?_
  have hPc := hP.sub (ws' := [(h0, .inr (12, [.int 0, .ref a1, .ref a2, .ref a3, .ref a4, .ref a5, .int 0, .ref a7, .ref a8, .int 0, .ref a10, .ref a11, .ref a12, .ref a13, .int 0, .ref a15, .ref a16, .ref a17, .ref a18, .ref a19, .ref a20, .ref a21, .ref a22, .int 0, .ref a24, .int 0, .ref a26, .ref a27, .int 0, .ref a29, .ref a30, .ref a31, .ref a32, .ref a33, .int 0, .ref a35, .ref a36, .int 0, .ref a38, .int 0, .int 0, .int 0, .int 0, .int 0, .long 0, .int 0, .int 0, .int (-1), .int (-1), .int 0, .ref a50, .ref a51, .int 0, .int 0, .ref a54, .ref a55, .int (-1), .ref a57, .ref a58, .ref a59, .ref a60, .int 0, .int 0, .int 0, .ref a64]))]) [0] rfl
  have hDc := hD.sub (ws' := [(h0, .inr (12, [.int 0, .ref a1, .ref a2, .ref a3, .ref a4, .ref a5, .int 0, .ref a7, .ref a8, .int 0, .ref a10, .ref a11, .ref a12, .ref a13, .int 0, .ref a15, .ref a16, .ref a17, .ref a18, .ref a19, .ref a20, .ref a21, .ref a22, .int 0, .ref a24, .int 0, .ref a26, .ref a27, .int 0, .ref a29, .ref a30, .ref a31, .ref a32, .ref a33, .int 0, .ref a35, .ref a36, .int 0, .ref a38, .int 0, .int 0, .int 0, .int 0, .int 0, .long 0, .int 0, .int 0, .int (-1), .int (-1), .int 0, .ref a50, .ref a51, .int 0, .int 0, .ref a54, .ref a55, .int (-1), .ref a57, .ref a58, .ref a59, .ref a60, .int 0, .int 0, .int 0, .ref a64]))]) [0] (by decide) rfl
  have hKc := hK.sub (tys' := []) [] rfl
  have hFc := va_free (wc := [(h0, .inr (12, [.int 0, .ref a1, .ref a2, .ref a3, .ref a4, .ref a5, .int 0, .ref a7, .ref a8, .int 0, .ref a10, .ref a11, .ref a12, .ref a13, .int 0, .ref a15, .ref a16, .ref a17, .ref a18, .ref a19, .ref a20, .ref a21, .ref a22, .int 0, .ref a24, .int 0, .ref a26, .ref a27, .int 0, .ref a29, .ref a30, .ref a31, .ref a32, .ref a33, .int 0, .ref a35, .ref a36, .int 0, .ref a38, .int 0, .int 0, .int 0, .int 0, .int 0, .long 0, .int 0, .int 0, .int (-1), .int (-1), .int 0, .ref a50, .ref a51, .int 0, .int 0, .ref a54, .ref a55, .int (-1), .ref a57, .ref a58, .ref a59, .ref a60, .int 0, .int 0, .int 0, .ref a64]))]) hD hS hA [0] rfl
  refine va_calli (va_runV (As := [.int v1]) (rest := []) ⟨hx, hb, hml, hown, hts⟩ (m_isLens l dC dI H.size h0 v1 a1 a2 a3 a4 a5 a7 a8 a10 a11 a12 a13 a15 a16 a17 a18 a19 a20 a21 a22 a24 a26 a27 a29 a30 a31 a32 a33 a35 a36 a38 a50 a51 a54 a55 a57 a58 a59 a60 a64) (cwV 1 hts gm_isRepeated_520 rfl rfl rfl (by decide +kernel) ⟨Nat.le_of_ble_eq_true rfl, Nat.le_of_ble_eq_true rfl⟩) ⟨fun a U g mk q => by obtain ⟨q0, q1, qP, qK, qD⟩ := q; exact ⟨q0, q1, qP, va_K.moved (u := U) (U := U.calling g mk a) (Vm.Alike.refl U.vm) qK, qD⟩, va_recv hK hP (ci := 12) (q0 := 0) rfl rfl, fun U hU hW => ⟨rfl, by rw [hU], by rw [hU]; exact hPc, va_K.moved hW.alike hKc, hDc.weaken (fun _ _ _ _ => trivial)⟩⟩ rfl rfl hl.1 rfl (lv_room (Nat.le_of_ble_eq_true rfl)) dX12_isRepeated_2 ⟨Nat.le_of_ble_eq_true rfl, Nat.le_of_ble_eq_true rfl⟩) hS (fun q _ h => hFc q h) hFc (fun r_2 u t H1 locs ht hvm hw hB hz1 hk1 hS => ?_)
  obtain ⟨hP1, hK1, hD1⟩ := hB
  rw [ht] at hP1
  try dsimp only at hw
  obtain ⟨hP, hD⟩ := va_join (wr := []) (w1 := [(h0, .inr (12, [.int 0, .ref a1, .ref a2, .ref a3, .ref a4, .ref a5, .int 0, .ref a7, .ref a8, .int 0, .ref a10, .ref a11, .ref a12, .ref a13, .int 0, .ref a15, .ref a16, .ref a17, .ref a18, .ref a19, .ref a20, .ref a21, .ref a22, .int 0, .ref a24, .int 0, .ref a26, .ref a27, .int 0, .ref a29, .ref a30, .ref a31, .ref a32, .ref a33, .int 0, .ref a35, .ref a36, .int 0, .ref a38, .int 0, .int 0, .int 0, .int 0, .int 0, .long 0, .int 0, .int 0, .int (-1), .int (-1), .int 0, .ref a50, .ref a51, .int 0, .int 0, .ref a54, .ref a55, .int (-1), .ref a57, .ref a58, .ref a59, .ref a60, .int 0, .int 0, .int 0, .ref a64]))]) hP hD [0] [] rfl rfl (by decide) (by decide) hk1 hFc hP1 hD1
  clear hk1 hz1 hPc hDc hFc hP1 hD1 hK1 hKc
  generalize H1 = H at hP hS ⊢
  have hP : va_P (dC, dI) cls [(h0, .inr (12, [.int 0, .ref a1, .ref a2, .ref a3, .ref a4, .ref a5, .int 0, .ref a7, .ref a8, .int 0, .ref a10, .ref a11, .ref a12, .ref a13, .int 0, .ref a15, .ref a16, .ref a17, .ref a18, .ref a19, .ref a20, .ref a21, .ref a22, .int 0, .ref a24, .int 0, .ref a26, .ref a27, .int 0, .ref a29, .ref a30, .ref a31, .ref a32, .ref a33, .int 0, .ref a35, .ref a36, .int 0, .ref a38, .int 0, .int 0, .int 0, .int 0, .int 0, .long 0, .int 0, .int 0, .int (-1), .int (-1), .int 0, .ref a50, .ref a51, .int 0, .int 0, .ref a54, .ref a55, .int (-1), .ref a57, .ref a58, .ref a59, .ref a60, .int 0, .int 0, .int 0, .ref a64]))] H := hP
  have hD : va_D A [(h0, .inr (12, [.int 0, .ref a1, .ref a2, .ref a3, .ref a4, .ref a5, .int 0, .ref a7, .ref a8, .int 0, .ref a10, .ref a11, .ref a12, .ref a13, .int 0, .ref a15, .ref a16, .ref a17, .ref a18, .ref a19, .ref a20, .ref a21, .ref a22, .int 0, .ref a24, .int 0, .ref a26, .ref a27, .int 0, .ref a29, .ref a30, .ref a31, .ref a32, .ref a33, .int 0, .ref a35, .ref a36, .int 0, .ref a38, .int 0, .int 0, .int 0, .int 0, .int 0, .long 0, .int 0, .int 0, .int (-1), .int (-1), .int 0, .ref a50, .ref a51, .int 0, .int 0, .ref a54, .ref a55, .int (-1), .ref a57, .ref a58, .ref a59, .ref a60, .int 0, .int 0, .int 0, .ref a64]))] := hD
  obtain rfl := hw
  refine lv_if_eq (tgt := 25) hx hb dX12_isRepeated_5 (by decide) (fun c_3 => ?_) (fun c_3 => ?_)
  rotate_left
  · exact absurd (by decide) c_3
  refine lv_iconst (v := 0) hx hb dX12_isRepeated_25 (by decide) ?_
  have hP9 := hP.sub (ws' := [(h0, .inr (12, [.int 0, .ref a1, .ref a2, .ref a3, .ref a4, .ref a5, .int 0, .ref a7, .ref a8, .int 0, .ref a10, .ref a11, .ref a12, .ref a13, .int 0, .ref a15, .ref a16, .ref a17, .ref a18, .ref a19, .ref a20, .ref a21, .ref a22, .int 0, .ref a24, .int 0, .ref a26, .ref a27, .int 0, .ref a29, .ref a30, .ref a31, .ref a32, .ref a33, .int 0, .ref a35, .ref a36, .int 0, .ref a38, .int 0, .int 0, .int 0, .int 0, .int 0, .long 0, .int 0, .int 0, .int (-1), .int (-1), .int 0, .ref a50, .ref a51, .int 0, .int 0, .ref a54, .ref a55, .int (-1), .ref a57, .ref a58, .ref a59, .ref a60, .int 0, .int 0, .int 0, .ref a64]))]) [0] rfl
  have hD9 := hD.sub (ws' := [(h0, .inr (12, [.int 0, .ref a1, .ref a2, .ref a3, .ref a4, .ref a5, .int 0, .ref a7, .ref a8, .int 0, .ref a10, .ref a11, .ref a12, .ref a13, .int 0, .ref a15, .ref a16, .ref a17, .ref a18, .ref a19, .ref a20, .ref a21, .ref a22, .int 0, .ref a24, .int 0, .ref a26, .ref a27, .int 0, .ref a29, .ref a30, .ref a31, .ref a32, .ref a33, .int 0, .ref a35, .ref a36, .int 0, .ref a38, .int 0, .int 0, .int 0, .int 0, .int 0, .long 0, .int 0, .int 0, .int (-1), .int (-1), .int 0, .ref a50, .ref a51, .int 0, .int 0, .ref a54, .ref a55, .int (-1), .ref a57, .ref a58, .ref a59, .ref a60, .int 0, .int 0, .int 0, .ref a64]))]) [0] (by decide) rfl
  exact W.zret (v := 0) (ty := .boolean) hx hb hr rfl (fun t ht hW => ⟨⟨0, (), rfl, rfl, by rw [ht]; exact hP9, va_K.moved hW.alike hK, hD9⟩, hS.F ht⟩) hS.2.2 dX12_isRepeated_26
def wm_fits : List Cond := .code yX12_fits cX12_fits 5 (some .int) :: ([.fieldLink RX12 142 "PutBackModel" "told" "I", .methodLink RX12 520 yX12_isLens, .instanceMethod yX12_isLens, .selects RX12 yX12_isLens yX12_isLens, .initialized RX12, .code yX12_isLens cX12_isLens 2 (some .boolean), .fieldLink RX12 506 "PutBackModel" "lenses" "I", .methodLink RX12 153 yX12_isIn, .instanceMethod yX12_isIn, .selects RX12 yX12_isIn yX12_isIn, .code yX12_isIn cX12_isIn 7 (some .boolean)] ++ wsX120)
theorem im_fits_RX12 : ∀ w ∈ u_ws RX12 TX12 65, w ∈ wm_fits := fun w h => List.mem_cons_of_mem _ (List.mem_append_right _ h)
theorem gm_fits_520g : GoodIn wm_fits wm_isLens := goodIn_r _ [6, 7, 8, 9, 10, 5, 11, 12, 13, 14, 15, 16, 17, 18, 19, 20, 21, 22, 23, 24, 25, 26, 27, 28, 29, 30, 31, 32, 33, 34, 35, 36, 37, 38, 39, 40, 41, 42, 43, 44, 45, 46, 47, 48, 49, 50, 51, 52, 53, 54, 55, 56, 57, 58, 59, 60, 61, 62, 63, 64, 65, 66, 67, 68, 69, 70, 71, 72, 73, 74, 75, 76] (by decide +kernel) (by decide +kernel)
theorem gm_fits_520 : GoodIn wm_fits (wsV RX12 520 RX12 yX12_isLens wm_isLens) := goodIn_app (goodIn_of _ (by decide +kernel)) gm_fits_520g
set_option maxHeartbeats 4000000 in
set_option maxRecDepth 100000 in
theorem m_fits (l : Launch) (dC : Nat → ClassId) (dI : Nat → Nat → Nat) (sz : Nat) (h0 : Nat) (v1 : Int32) (v2 : Int32) (v3 : Int32) (a1 : Nat) (a2 : Nat) (a3 : Nat) (a4 : Nat) (a5 : Nat) (a7 : Nat) (a8 : Nat) (a10 : Nat) (a11 : Nat) (a12 : Nat) (a13 : Nat) (a15 : Nat) (a16 : Nat) (a17 : Nat) (a18 : Nat) (a19 : Nat) (a20 : Nat) (a21 : Nat) (a22 : Nat) (a24 : Nat) (a26 : Nat) (a27 : Nat) (a29 : Nat) (a30 : Nat) (a31 : Nat) (a32 : Nat) (a33 : Nat) (a35 : Nat) (a36 : Nat) (a38 : Nat) (a50 : Nat) (a51 : Nat) (a54 : Nat) (a55 : Nat) (a57 : Nat) (a58 : Nat) (a59 : Nat) (a60 : Nat) (a64 : Nat) : Met l yX12_fits wm_fits ({ frames := 2, cells := 0, slots := 0, locals := 47 } : Room) (va_Pc [.ref h0, .int v1, .int v2, .int v3] (fun U => U.heap.size = sz ∧ va_P (dC, dI) cls [(h0, .inr (12, [.int 0, .ref a1, .ref a2, .ref a3, .ref a4, .ref a5, .int 0, .ref a7, .ref a8, .int 0, .ref a10, .ref a11, .ref a12, .ref a13, .int 0, .ref a15, .ref a16, .ref a17, .ref a18, .ref a19, .ref a20, .ref a21, .ref a22, .int 0, .ref a24, .int 0, .ref a26, .ref a27, .int 0, .ref a29, .ref a30, .ref a31, .ref a32, .ref a33, .int 0, .ref a35, .ref a36, .int 0, .ref a38, .int 0, .int 0, .int 0, .int 0, .int 0, .long 0, .int 0, .int 0, .int (-1), .int (-1), .int 0, .ref a50, .ref a51, .int 0, .int 0, .ref a54, .ref a55, .int (-1), .ref a57, .ref a58, .ref a59, .ref a60, .int 0, .int 0, .int 0, .ref a64]))] U.heap ∧ va_K (dC, dI) cls [] U ∧ va_D (fun _ => True) [(h0, .inr (12, [.int 0, .ref a1, .ref a2, .ref a3, .ref a4, .ref a5, .int 0, .ref a7, .ref a8, .int 0, .ref a10, .ref a11, .ref a12, .ref a13, .int 0, .ref a15, .ref a16, .ref a17, .ref a18, .ref a19, .ref a20, .ref a21, .ref a22, .int 0, .ref a24, .int 0, .ref a26, .ref a27, .int 0, .ref a29, .ref a30, .ref a31, .ref a32, .ref a33, .int 0, .ref a35, .ref a36, .int 0, .ref a38, .int 0, .int 0, .int 0, .int 0, .int 0, .long 0, .int 0, .int 0, .int (-1), .int (-1), .int 0, .ref a50, .ref a51, .int 0, .int 0, .ref a54, .ref a55, .int (-1), .ref a57, .ref a58, .ref a59, .ref a60, .int 0, .int 0, .int 0, .ref a64]))])) (va_Qi (fun (r : Int32) (_ : Unit) => r = -1) (fun (_ : Unit) t => va_P (dC, dI) cls [] t.heap ∧ va_K (dC, dI) cls [] t ∧ va_D (va_A [(h0, .inr (12, [.int 0, .ref a1, .ref a2, .ref a3, .ref a4, .ref a5, .int 0, .ref a7, .ref a8, .int 0, .ref a10, .ref a11, .ref a12, .ref a13, .int 0, .ref a15, .ref a16, .ref a17, .ref a18, .ref a19, .ref a20, .ref a21, .ref a22, .int 0, .ref a24, .int 0, .ref a26, .ref a27, .int 0, .ref a29, .ref a30, .ref a31, .ref a32, .ref a33, .int 0, .ref a35, .ref a36, .int 0, .ref a38, .int 0, .int 0, .int 0, .int 0, .int 0, .long 0, .int 0, .int 0, .int (-1), .int (-1), .int 0, .ref a50, .ref a51, .int 0, .int 0, .ref a54, .ref a55, .int (-1), .ref a57, .ref a58, .ref a59, .ref a60, .int 0, .int 0, .int 0, .ref a64]))] sz) []) (va_A [(h0, .inr (12, [.int 0, .ref a1, .ref a2, .ref a3, .ref a4, .ref a5, .int 0, .ref a7, .ref a8, .int 0, .ref a10, .ref a11, .ref a12, .ref a13, .int 0, .ref a15, .ref a16, .ref a17, .ref a18, .ref a19, .ref a20, .ref a21, .ref a22, .int 0, .ref a24, .int 0, .ref a26, .ref a27, .int 0, .ref a29, .ref a30, .ref a31, .ref a32, .ref a33, .int 0, .ref a35, .ref a36, .int 0, .ref a38, .int 0, .int 0, .int 0, .int 0, .int 0, .long 0, .int 0, .int 0, .int (-1), .int (-1), .int 0, .ref a50, .ref a51, .int 0, .int 0, .ref a54, .ref a55, .int (-1), .ref a57, .ref a58, .ref a59, .ref a60, .int 0, .int 0, .int 0, .ref a64]))] sz)) 0 0 (va_A [(h0, .inr (12, [.int 0, .ref a1, .ref a2, .ref a3, .ref a4, .ref a5, .int 0, .ref a7, .ref a8, .int 0, .ref a10, .ref a11, .ref a12, .ref a13, .int 0, .ref a15, .ref a16, .ref a17, .ref a18, .ref a19, .ref a20, .ref a21, .ref a22, .int 0, .ref a24, .int 0, .ref a26, .ref a27, .int 0, .ref a29, .ref a30, .ref a31, .ref a32, .ref a33, .int 0, .ref a35, .ref a36, .int 0, .ref a38, .int 0, .int 0, .int 0, .int 0, .int 0, .long 0, .int 0, .int 0, .int (-1), .int (-1), .int 0, .ref a50, .ref a51, .int 0, .int 0, .ref a54, .ref a55, .int (-1), .ref a57, .ref a58, .ref a59, .ref a60, .int 0, .int 0, .int 0, .ref a64]))] sz) := by
  refine Met.ofW (cc := cX12_fits) (maxL := 5) (ret := (some .int)) (by decide) rfl ?_
  intro p e s m args below meth c s₁ B hml hv
  obtain ⟨rfl, hsz, hP, hK, hD0⟩ := hv
  have hx := B.exec
  have hb := B.bytes
  have hr := B.returns
  have hts := atoms_spec (ws := wm_fits) B.pre
  have hown : s.vm.findClass RX12 = some m.cls := findClass_of_methodNamed B.named
  have hlocks := B.notSynchronized
  subst hsz
  have hD := hD0.self (sz := s.heap.size)
  generalize hAe : va_A [(h0, .inr (12, [.int 0, .ref a1, .ref a2, .ref a3, .ref a4, .ref a5, .int 0, .ref a7, .ref a8, .int 0, .ref a10, .ref a11, .ref a12, .ref a13, .int 0, .ref a15, .ref a16, .ref a17, .ref a18, .ref a19, .ref a20, .ref a21, .ref a22, .int 0, .ref a24, .int 0, .ref a26, .ref a27, .int 0, .ref a29, .ref a30, .ref a31, .ref a32, .ref a33, .int 0, .ref a35, .ref a36, .int 0, .ref a38, .int 0, .int 0, .int 0, .int 0, .int 0, .long 0, .int 0, .int 0, .int (-1), .int (-1), .int 0, .ref a50, .ref a51, .int 0, .int 0, .ref a54, .ref a55, .int (-1), .ref a57, .ref a58, .ref a59, .ref a60, .int 0, .int 0, .int 0, .ref a64]))] s.heap.size = A at hD ⊢
  have hA : ∀ q : Nat, s.heap.size ≤ q → A q := fun q h => by rw [← hAe]; exact Or.inr h
  have hP : va_P (dC, dI) cls [(h0, .inr (12, [.int 0, .ref a1, .ref a2, .ref a3, .ref a4, .ref a5, .int 0, .ref a7, .ref a8, .int 0, .ref a10, .ref a11, .ref a12, .ref a13, .int 0, .ref a15, .ref a16, .ref a17, .ref a18, .ref a19, .ref a20, .ref a21, .ref a22, .int 0, .ref a24, .int 0, .ref a26, .ref a27, .int 0, .ref a29, .ref a30, .ref a31, .ref a32, .ref a33, .int 0, .ref a35, .ref a36, .int 0, .ref a38, .int 0, .int 0, .int 0, .int 0, .int 0, .long 0, .int 0, .int 0, .int (-1), .int (-1), .int 0, .ref a50, .ref a51, .int 0, .int 0, .ref a54, .ref a55, .int (-1), .ref a57, .ref a58, .ref a59, .ref a60, .int 0, .int 0, .int 0, .ref a64]))] s.heap := hP
  have hl := lv_entry ([.ref h0, .int v1, .int v2, .int v3]) (n := 5) (Nat.le_of_ble_eq_true rfl)
  rw [lg_entry_eq]
  generalize (lg_sl ([.ref h0, .int v1, .int v2, .int v3]) ++ List.replicate (5 - (lg_sl ([.ref h0, .int v1, .int v2, .int v3])).length) Slot.unset).toArray = ls at hl ⊢
  have hl : lv_has ls 5 [(0, .ref h0), (1, .int v1), (2, .int v2), (3, .int v3)] := hl
  obtain ⟨H, hH⟩ : ∃ H : Heap, s.heap = H := ⟨_, rfl⟩
  rw [hH] at hP ⊢
  have hS : va_S A s.heap H [] := by rw [← hH]; exact va_S.rf
  refine lv_aload_n hx hb dX12_fits_0 rfl (lv_at hl 0 rfl) ?_
  refine lv_iconst (v := 0) hx hb dX12_fits_1 (by decide) ?_
  refine va_put (D := (dC, dI)) (ci := 12) (v := .int 0) (ty := .int) (C := RX12) (T := TX12) (N := 65) hx hb hts im_fits_RX12 tyX12 tyX12_ok nmX12 hown hK hP hD hS 0 rfl rfl 0 (by decide) (hts (.fieldLink RX12 142 "PutBackModel" "told" "I") (by decide +kernel)) (fun _ h9 => h9) rfl (by decide +kernel) rfl rfl (Nat.le_of_ble_eq_true rfl) dX12_fits_2 (fun H locs hP hD hS => ?_)
  have hP : va_P (dC, dI) cls [(h0, .inr (12, [.int 0, .ref a1, .ref a2, .ref a3, .ref a4, .ref a5, .int 0, .ref a7, .ref a8, .int 0, .ref a10, .ref a11, .ref a12, .ref a13, .int 0, .ref a15, .ref a16, .ref a17, .ref a18, .ref a19, .ref a20, .ref a21, .ref a22, .int 0, .ref a24, .int 0, .ref a26, .ref a27, .int 0, .ref a29, .ref a30, .ref a31, .ref a32, .ref a33, .int 0, .ref a35, .ref a36, .int 0, .ref a38, .int 0, .int 0, .int 0, .int 0, .int 0, .long 0, .int 0, .int 0, .int (-1), .int (-1), .int 0, .ref a50, .ref a51, .int 0, .int 0, .ref a54, .ref a55, .int (-1), .ref a57, .ref a58, .ref a59, .ref a60, .int 0, .int 0, .int 0, .ref a64]))] H := hP
  have hD : va_D A [(h0, .inr (12, [.int 0, .ref a1, .ref a2, .ref a3, .ref a4, .ref a5, .int 0, .ref a7, .ref a8, .int 0, .ref a10, .ref a11, .ref a12, .ref a13, .int 0, .ref a15, .ref a16, .ref a17, .ref a18, .ref a19, .ref a20, .ref a21, .ref a22, .int 0, .ref a24, .int 0, .ref a26, .ref a27, .int 0, .ref a29, .ref a30, .ref a31, .ref a32, .ref a33, .int 0, .ref a35, .ref a36, .int 0, .ref a38, .int 0, .int 0, .int 0, .int 0, .int 0, .long 0, .int 0, .int 0, .int (-1), .int (-1), .int 0, .ref a50, .ref a51, .int 0, .int 0, .ref a54, .ref a55, .int (-1), .ref a57, .ref a58, .ref a59, .ref a60, .int 0, .int 0, .int 0, .ref a64]))] := hD
  refine lv_aload_n hx hb dX12_fits_5 rfl (lv_at hl 0 rfl) ?_
  refine lv_iload_n hx hb dX12_fits_6 rfl (lv_at hl 1 rfl) ?_
  have hPc := hP.sub (ws' := [(h0, .inr (12, [.int 0, .ref a1, .ref a2, .ref a3, .ref a4, .ref a5, .int 0, .ref a7, .ref a8, .int 0, .ref a10, .ref a11, .ref a12, .ref a13, .int 0, .ref a15, .ref a16, .ref a17, .ref a18, .ref a19, .ref a20, .ref a21, .ref a22, .int 0, .ref a24, .int 0, .ref a26, .ref a27, .int 0, .ref a29, .ref a30, .ref a31, .ref a32, .ref a33, .int 0, .ref a35, .ref a36, .int 0, .ref a38, .int 0, .int 0, .int 0, .int 0, .int 0, .long 0, .int 0, .int 0, .int (-1), .int (-1), .int 0, .ref a50, .ref a51, .int 0, .int 0, .ref a54, .ref a55, .int (-1), .ref a57, .ref a58, .ref a59, .ref a60, .int 0, .int 0, .int 0, .ref a64]))]) [0] rfl
  have hDc := hD.sub (ws' := [(h0, .inr (12, [.int 0, .ref a1, .ref a2, .ref a3, .ref a4, .ref a5, .int 0, .ref a7, .ref a8, .int 0, .ref a10, .ref a11, .ref a12, .ref a13, .int 0, .ref a15, .ref a16, .ref a17, .ref a18, .ref a19, .ref a20, .ref a21, .ref a22, .int 0, .ref a24, .int 0, .ref a26, .ref a27, .int 0, .ref a29, .ref a30, .ref a31, .ref a32, .ref a33, .int 0, .ref a35, .ref a36, .int 0, .ref a38, .int 0, .int 0, .int 0, .int 0, .int 0, .long 0, .int 0, .int 0, .int (-1), .int (-1), .int 0, .ref a50, .ref a51, .int 0, .int 0, .ref a54, .ref a55, .int (-1), .ref a57, .ref a58, .ref a59, .ref a60, .int 0, .int 0, .int 0, .ref a64]))]) [0] (by decide) rfl
  have hKc := hK.sub (tys' := []) [] rfl
  have hFc := va_free (wc := [(h0, .inr (12, [.int 0, .ref a1, .ref a2, .ref a3, .ref a4, .ref a5, .int 0, .ref a7, .ref a8, .int 0, .ref a10, .ref a11, .ref a12, .ref a13, .int 0, .ref a15, .ref a16, .ref a17, .ref a18, .ref a19, .ref a20, .ref a21, .ref a22, .int 0, .ref a24, .int 0, .ref a26, .ref a27, .int 0, .ref a29, .ref a30, .ref a31, .ref a32, .ref a33, .int 0, .ref a35, .ref a36, .int 0, .ref a38, .int 0, .int 0, .int 0, .int 0, .int 0, .long 0, .int 0, .int 0, .int (-1), .int (-1), .int 0, .ref a50, .ref a51, .int 0, .int 0, .ref a54, .ref a55, .int (-1), .ref a57, .ref a58, .ref a59, .ref a60, .int 0, .int 0, .int 0, .ref a64]))]) hD hS hA [0] rfl
  refine va_calli (va_runV (As := [.int v1]) (rest := []) ⟨hx, hb, hml, hown, hts⟩ (m_isLens l dC dI H.size h0 v1 a1 a2 a3 a4 a5 a7 a8 a10 a11 a12 a13 a15 a16 a17 a18 a19 a20 a21 a22 a24 a26 a27 a29 a30 a31 a32 a33 a35 a36 a38 a50 a51 a54 a55 a57 a58 a59 a60 a64) (cwV 1 hts gm_fits_520 rfl rfl rfl (by decide +kernel) ⟨Nat.le_of_ble_eq_true rfl, Nat.le_of_ble_eq_true rfl⟩) ⟨fun a U g mk q => by obtain ⟨q0, q1, qP, qK, qD⟩ := q; exact ⟨q0, q1, qP, va_K.moved (u := U) (U := U.calling g mk a) (Vm.Alike.refl U.vm) qK, qD⟩, va_recv hK hP (ci := 12) (q0 := 0) rfl rfl, fun U hU hW => ⟨rfl, by rw [hU], by rw [hU]; exact hPc, va_K.moved hW.alike hKc, hDc.weaken (fun _ _ _ _ => trivial)⟩⟩ rfl rfl hl.1 rfl (lv_room (Nat.le_of_ble_eq_true rfl)) dX12_fits_7 ⟨Nat.le_of_ble_eq_true rfl, Nat.le_of_ble_eq_true rfl⟩) hS (fun q _ h => hFc q h) hFc (fun r_2 u t H1 locs ht hvm hw hB hz1 hk1 hS => ?_)
  obtain ⟨hP1, hK1, hD1⟩ := hB
  rw [ht] at hP1
  try dsimp only at hw
  obtain ⟨hP, hD⟩ := va_join (wr := []) (w1 := [(h0, .inr (12, [.int 0, .ref a1, .ref a2, .ref a3, .ref a4, .ref a5, .int 0, .ref a7, .ref a8, .int 0, .ref a10, .ref a11, .ref a12, .ref a13, .int 0, .ref a15, .ref a16, .ref a17, .ref a18, .ref a19, .ref a20, .ref a21, .ref a22, .int 0, .ref a24, .int 0, .ref a26, .ref a27, .int 0, .ref a29, .ref a30, .ref a31, .ref a32, .ref a33, .int 0, .ref a35, .ref a36, .int 0, .ref a38, .int 0, .int 0, .int 0, .int 0, .int 0, .long 0, .int 0, .int 0, .int (-1), .int (-1), .int 0, .ref a50, .ref a51, .int 0, .int 0, .ref a54, .ref a55, .int (-1), .ref a57, .ref a58, .ref a59, .ref a60, .int 0, .int 0, .int 0, .ref a64]))]) hP hD [0] [] rfl rfl (by decide) (by decide) hk1 hFc hP1 hD1
  clear hk1 hz1 hPc hDc hFc hP1 hD1 hK1 hKc
  generalize H1 = H at hP hS ⊢
  have hP : va_P (dC, dI) cls [(h0, .inr (12, [.int 0, .ref a1, .ref a2, .ref a3, .ref a4, .ref a5, .int 0, .ref a7, .ref a8, .int 0, .ref a10, .ref a11, .ref a12, .ref a13, .int 0, .ref a15, .ref a16, .ref a17, .ref a18, .ref a19, .ref a20, .ref a21, .ref a22, .int 0, .ref a24, .int 0, .ref a26, .ref a27, .int 0, .ref a29, .ref a30, .ref a31, .ref a32, .ref a33, .int 0, .ref a35, .ref a36, .int 0, .ref a38, .int 0, .int 0, .int 0, .int 0, .int 0, .long 0, .int 0, .int 0, .int (-1), .int (-1), .int 0, .ref a50, .ref a51, .int 0, .int 0, .ref a54, .ref a55, .int (-1), .ref a57, .ref a58, .ref a59, .ref a60, .int 0, .int 0, .int 0, .ref a64]))] H := hP
  have hD : va_D A [(h0, .inr (12, [.int 0, .ref a1, .ref a2, .ref a3, .ref a4, .ref a5, .int 0, .ref a7, .ref a8, .int 0, .ref a10, .ref a11, .ref a12, .ref a13, .int 0, .ref a15, .ref a16, .ref a17, .ref a18, .ref a19, .ref a20, .ref a21, .ref a22, .int 0, .ref a24, .int 0, .ref a26, .ref a27, .int 0, .ref a29, .ref a30, .ref a31, .ref a32, .ref a33, .int 0, .ref a35, .ref a36, .int 0, .ref a38, .int 0, .int 0, .int 0, .int 0, .int 0, .long 0, .int 0, .int 0, .int (-1), .int (-1), .int 0, .ref a50, .ref a51, .int 0, .int 0, .ref a54, .ref a55, .int (-1), .ref a57, .ref a58, .ref a59, .ref a60, .int 0, .int 0, .int 0, .ref a64]))] := hD
  obtain rfl := hw
  refine lv_if_eq (tgt := 29) hx hb dX12_fits_10 (by decide) (fun c_3 => ?_) (fun c_3 => ?_)
  rotate_left
  · exact absurd (by decide) c_3
  refine lv_iconst (v := (-1)) hx hb dX12_fits_29 (by decide) ?_
  have hP9 := hP.sub (ws' := []) [] rfl
  have hD9 := hD.sub (ws' := []) [] (by decide) rfl
  exact W.iret (v := (-1)) hx hb hr (fun t ht hW => ⟨⟨(-1), (), rfl, rfl, by rw [ht]; exact hP9, va_K.moved hW.alike hK, hD9⟩, hS.F ht⟩) hS.2.2 dX12_fits_30
def wm_get : List Cond := .code yX12_get cX12_get 6 (some .int) :: ([.fieldLink RX12 142 "PutBackModel" "told" "I", .methodLink RX12 520 yX12_isLens, .instanceMethod yX12_isLens, .selects RX12 yX12_isLens yX12_isLens, .initialized RX12, .code yX12_isLens cX12_isLens 2 (some .boolean), .fieldLink RX12 506 "PutBackModel" "lenses" "I", .methodLink RX12 153 yX12_isIn, .instanceMethod yX12_isIn, .selects RX12 yX12_isIn yX12_isIn, .code yX12_isIn cX12_isIn 7 (some .boolean)] ++ wsX120)
theorem im_get_RX12 : ∀ w ∈ u_ws RX12 TX12 65, w ∈ wm_get := fun w h => List.mem_cons_of_mem _ (List.mem_append_right _ h)
theorem gm_get_520g : GoodIn wm_get wm_isLens := goodIn_r _ [6, 7, 8, 9, 10, 5, 11, 12, 13, 14, 15, 16, 17, 18, 19, 20, 21, 22, 23, 24, 25, 26, 27, 28, 29, 30, 31, 32, 33, 34, 35, 36, 37, 38, 39, 40, 41, 42, 43, 44, 45, 46, 47, 48, 49, 50, 51, 52, 53, 54, 55, 56, 57, 58, 59, 60, 61, 62, 63, 64, 65, 66, 67, 68, 69, 70, 71, 72, 73, 74, 75, 76] (by decide +kernel) (by decide +kernel)
theorem gm_get_520 : GoodIn wm_get (wsV RX12 520 RX12 yX12_isLens wm_isLens) := goodIn_app (goodIn_of _ (by decide +kernel)) gm_get_520g
set_option maxHeartbeats 4000000 in
set_option maxRecDepth 100000 in
theorem m_get (l : Launch) (dC : Nat → ClassId) (dI : Nat → Nat → Nat) (sz : Nat) (h0 : Nat) (v1 : Int32) (v2 : Int32) (v3 : Int32) (a1 : Nat) (a2 : Nat) (a3 : Nat) (a4 : Nat) (a5 : Nat) (a7 : Nat) (a8 : Nat) (a10 : Nat) (a11 : Nat) (a12 : Nat) (a13 : Nat) (a15 : Nat) (a16 : Nat) (a17 : Nat) (a18 : Nat) (a19 : Nat) (a20 : Nat) (a21 : Nat) (a22 : Nat) (a24 : Nat) (a26 : Nat) (a27 : Nat) (a29 : Nat) (a30 : Nat) (a31 : Nat) (a32 : Nat) (a33 : Nat) (a35 : Nat) (a36 : Nat) (a38 : Nat) (a50 : Nat) (a51 : Nat) (a54 : Nat) (a55 : Nat) (a57 : Nat) (a58 : Nat) (a59 : Nat) (a60 : Nat) (a64 : Nat) : Met l yX12_get wm_get ({ frames := 2, cells := 0, slots := 0, locals := 47 } : Room) (va_Pc [.ref h0, .int v1, .int v2, .int v3] (fun U => U.heap.size = sz ∧ va_P (dC, dI) cls [(h0, .inr (12, [.int 0, .ref a1, .ref a2, .ref a3, .ref a4, .ref a5, .int 0, .ref a7, .ref a8, .int 0, .ref a10, .ref a11, .ref a12, .ref a13, .int 0, .ref a15, .ref a16, .ref a17, .ref a18, .ref a19, .ref a20, .ref a21, .ref a22, .int 0, .ref a24, .int 0, .ref a26, .ref a27, .int 0, .ref a29, .ref a30, .ref a31, .ref a32, .ref a33, .int 0, .ref a35, .ref a36, .int 0, .ref a38, .int 0, .int 0, .int 0, .int 0, .int 0, .long 0, .int 0, .int 0, .int (-1), .int (-1), .int 0, .ref a50, .ref a51, .int 0, .int 0, .ref a54, .ref a55, .int (-1), .ref a57, .ref a58, .ref a59, .ref a60, .int 0, .int 0, .int 0, .ref a64]))] U.heap ∧ va_K (dC, dI) cls [] U ∧ va_D (fun _ => True) [(h0, .inr (12, [.int 0, .ref a1, .ref a2, .ref a3, .ref a4, .ref a5, .int 0, .ref a7, .ref a8, .int 0, .ref a10, .ref a11, .ref a12, .ref a13, .int 0, .ref a15, .ref a16, .ref a17, .ref a18, .ref a19, .ref a20, .ref a21, .ref a22, .int 0, .ref a24, .int 0, .ref a26, .ref a27, .int 0, .ref a29, .ref a30, .ref a31, .ref a32, .ref a33, .int 0, .ref a35, .ref a36, .int 0, .ref a38, .int 0, .int 0, .int 0, .int 0, .int 0, .long 0, .int 0, .int 0, .int (-1), .int (-1), .int 0, .ref a50, .ref a51, .int 0, .int 0, .ref a54, .ref a55, .int (-1), .ref a57, .ref a58, .ref a59, .ref a60, .int 0, .int 0, .int 0, .ref a64]))])) (va_Qi (fun (r : Int32) (_ : Unit) => r = -1) (fun (_ : Unit) t => va_P (dC, dI) cls [] t.heap ∧ va_K (dC, dI) cls [] t ∧ va_D (va_A [(h0, .inr (12, [.int 0, .ref a1, .ref a2, .ref a3, .ref a4, .ref a5, .int 0, .ref a7, .ref a8, .int 0, .ref a10, .ref a11, .ref a12, .ref a13, .int 0, .ref a15, .ref a16, .ref a17, .ref a18, .ref a19, .ref a20, .ref a21, .ref a22, .int 0, .ref a24, .int 0, .ref a26, .ref a27, .int 0, .ref a29, .ref a30, .ref a31, .ref a32, .ref a33, .int 0, .ref a35, .ref a36, .int 0, .ref a38, .int 0, .int 0, .int 0, .int 0, .int 0, .long 0, .int 0, .int 0, .int (-1), .int (-1), .int 0, .ref a50, .ref a51, .int 0, .int 0, .ref a54, .ref a55, .int (-1), .ref a57, .ref a58, .ref a59, .ref a60, .int 0, .int 0, .int 0, .ref a64]))] sz) []) (va_A [(h0, .inr (12, [.int 0, .ref a1, .ref a2, .ref a3, .ref a4, .ref a5, .int 0, .ref a7, .ref a8, .int 0, .ref a10, .ref a11, .ref a12, .ref a13, .int 0, .ref a15, .ref a16, .ref a17, .ref a18, .ref a19, .ref a20, .ref a21, .ref a22, .int 0, .ref a24, .int 0, .ref a26, .ref a27, .int 0, .ref a29, .ref a30, .ref a31, .ref a32, .ref a33, .int 0, .ref a35, .ref a36, .int 0, .ref a38, .int 0, .int 0, .int 0, .int 0, .int 0, .long 0, .int 0, .int 0, .int (-1), .int (-1), .int 0, .ref a50, .ref a51, .int 0, .int 0, .ref a54, .ref a55, .int (-1), .ref a57, .ref a58, .ref a59, .ref a60, .int 0, .int 0, .int 0, .ref a64]))] sz)) 0 0 (va_A [(h0, .inr (12, [.int 0, .ref a1, .ref a2, .ref a3, .ref a4, .ref a5, .int 0, .ref a7, .ref a8, .int 0, .ref a10, .ref a11, .ref a12, .ref a13, .int 0, .ref a15, .ref a16, .ref a17, .ref a18, .ref a19, .ref a20, .ref a21, .ref a22, .int 0, .ref a24, .int 0, .ref a26, .ref a27, .int 0, .ref a29, .ref a30, .ref a31, .ref a32, .ref a33, .int 0, .ref a35, .ref a36, .int 0, .ref a38, .int 0, .int 0, .int 0, .int 0, .int 0, .long 0, .int 0, .int 0, .int (-1), .int (-1), .int 0, .ref a50, .ref a51, .int 0, .int 0, .ref a54, .ref a55, .int (-1), .ref a57, .ref a58, .ref a59, .ref a60, .int 0, .int 0, .int 0, .ref a64]))] sz) := by
  refine Met.ofW (cc := cX12_get) (maxL := 6) (ret := (some .int)) (by decide) rfl ?_
  intro p e s m args below meth c s₁ B hml hv
  obtain ⟨rfl, hsz, hP, hK, hD0⟩ := hv
  have hx := B.exec
  have hb := B.bytes
  have hr := B.returns
  have hts := atoms_spec (ws := wm_get) B.pre
  have hown : s.vm.findClass RX12 = some m.cls := findClass_of_methodNamed B.named
  have hlocks := B.notSynchronized
  subst hsz
  have hD := hD0.self (sz := s.heap.size)
  generalize hAe : va_A [(h0, .inr (12, [.int 0, .ref a1, .ref a2, .ref a3, .ref a4, .ref a5, .int 0, .ref a7, .ref a8, .int 0, .ref a10, .ref a11, .ref a12, .ref a13, .int 0, .ref a15, .ref a16, .ref a17, .ref a18, .ref a19, .ref a20, .ref a21, .ref a22, .int 0, .ref a24, .int 0, .ref a26, .ref a27, .int 0, .ref a29, .ref a30, .ref a31, .ref a32, .ref a33, .int 0, .ref a35, .ref a36, .int 0, .ref a38, .int 0, .int 0, .int 0, .int 0, .int 0, .long 0, .int 0, .int 0, .int (-1), .int (-1), .int 0, .ref a50, .ref a51, .int 0, .int 0, .ref a54, .ref a55, .int (-1), .ref a57, .ref a58, .ref a59, .ref a60, .int 0, .int 0, .int 0, .ref a64]))] s.heap.size = A at hD ⊢
  have hA : ∀ q : Nat, s.heap.size ≤ q → A q := fun q h => by rw [← hAe]; exact Or.inr h
  have hP : va_P (dC, dI) cls [(h0, .inr (12, [.int 0, .ref a1, .ref a2, .ref a3, .ref a4, .ref a5, .int 0, .ref a7, .ref a8, .int 0, .ref a10, .ref a11, .ref a12, .ref a13, .int 0, .ref a15, .ref a16, .ref a17, .ref a18, .ref a19, .ref a20, .ref a21, .ref a22, .int 0, .ref a24, .int 0, .ref a26, .ref a27, .int 0, .ref a29, .ref a30, .ref a31, .ref a32, .ref a33, .int 0, .ref a35, .ref a36, .int 0, .ref a38, .int 0, .int 0, .int 0, .int 0, .int 0, .long 0, .int 0, .int 0, .int (-1), .int (-1), .int 0, .ref a50, .ref a51, .int 0, .int 0, .ref a54, .ref a55, .int (-1), .ref a57, .ref a58, .ref a59, .ref a60, .int 0, .int 0, .int 0, .ref a64]))] s.heap := hP
  have hl := lv_entry ([.ref h0, .int v1, .int v2, .int v3]) (n := 6) (Nat.le_of_ble_eq_true rfl)
  rw [lg_entry_eq]
  generalize (lg_sl ([.ref h0, .int v1, .int v2, .int v3]) ++ List.replicate (6 - (lg_sl ([.ref h0, .int v1, .int v2, .int v3])).length) Slot.unset).toArray = ls at hl ⊢
  have hl : lv_has ls 6 [(0, .ref h0), (1, .int v1), (2, .int v2), (3, .int v3)] := hl
  obtain ⟨H, hH⟩ : ∃ H : Heap, s.heap = H := ⟨_, rfl⟩
  rw [hH] at hP ⊢
  have hS : va_S A s.heap H [] := by rw [← hH]; exact va_S.rf
  refine lv_aload_n hx hb dX12_get_0 rfl (lv_at hl 0 rfl) ?_
  refine lv_iconst (v := 0) hx hb dX12_get_1 (by decide) ?_
  refine va_put (D := (dC, dI)) (ci := 12) (v := .int 0) (ty := .int) (C := RX12) (T := TX12) (N := 65) hx hb hts im_get_RX12 tyX12 tyX12_ok nmX12 hown hK hP hD hS 0 rfl rfl 0 (by decide) (hts (.fieldLink RX12 142 "PutBackModel" "told" "I") (by decide +kernel)) (fun _ h9 => h9) rfl (by decide +kernel) rfl rfl (Nat.le_of_ble_eq_true rfl) dX12_get_2 (fun H locs hP hD hS => ?_)
  have hP : va_P (dC, dI) cls [(h0, .inr (12, [.int 0, .ref a1, .ref a2, .ref a3, .ref a4, .ref a5, .int 0, .ref a7, .ref a8, .int 0, .ref a10, .ref a11, .ref a12, .ref a13, .int 0, .ref a15, .ref a16, .ref a17, .ref a18, .ref a19, .ref a20, .ref a21, .ref a22, .int 0, .ref a24, .int 0, .ref a26, .ref a27, .int 0, .ref a29, .ref a30, .ref a31, .ref a32, .ref a33, .int 0, .ref a35, .ref a36, .int 0, .ref a38, .int 0, .int 0, .int 0, .int 0, .int 0, .long 0, .int 0, .int 0, .int (-1), .int (-1), .int 0, .ref a50, .ref a51, .int 0, .int 0, .ref a54, .ref a55, .int (-1), .ref a57, .ref a58, .ref a59, .ref a60, .int 0, .int 0, .int 0, .ref a64]))] H := hP
  have hD : va_D A [(h0, .inr (12, [.int 0, .ref a1, .ref a2, .ref a3, .ref a4, .ref a5, .int 0, .ref a7, .ref a8, .int 0, .ref a10, .ref a11, .ref a12, .ref a13, .int 0, .ref a15, .ref a16, .ref a17, .ref a18, .ref a19, .ref a20, .ref a21, .ref a22, .int 0, .ref a24, .int 0, .ref a26, .ref a27, .int 0, .ref a29, .ref a30, .ref a31, .ref a32, .ref a33, .int 0, .ref a35, .ref a36, .int 0, .ref a38, .int 0, .int 0, .int 0, .int 0, .int 0, .long 0, .int 0, .int 0, .int (-1), .int (-1), .int 0, .ref a50, .ref a51, .int 0, .int 0, .ref a54, .ref a55, .int (-1), .ref a57, .ref a58, .ref a59, .ref a60, .int 0, .int 0, .int 0, .ref a64]))] := hD
  refine lv_aload_n hx hb dX12_get_5 rfl (lv_at hl 0 rfl) ?_
  refine lv_iload_n hx hb dX12_get_6 rfl (lv_at hl 1 rfl) ?_
  have hPc := hP.sub (ws' := [(h0, .inr (12, [.int 0, .ref a1, .ref a2, .ref a3, .ref a4, .ref a5, .int 0, .ref a7, .ref a8, .int 0, .ref a10, .ref a11, .ref a12, .ref a13, .int 0, .ref a15, .ref a16, .ref a17, .ref a18, .ref a19, .ref a20, .ref a21, .ref a22, .int 0, .ref a24, .int 0, .ref a26, .ref a27, .int 0, .ref a29, .ref a30, .ref a31, .ref a32, .ref a33, .int 0, .ref a35, .ref a36, .int 0, .ref a38, .int 0, .int 0, .int 0, .int 0, .int 0, .long 0, .int 0, .int 0, .int (-1), .int (-1), .int 0, .ref a50, .ref a51, .int 0, .int 0, .ref a54, .ref a55, .int (-1), .ref a57, .ref a58, .ref a59, .ref a60, .int 0, .int 0, .int 0, .ref a64]))]) [0] rfl
  have hDc := hD.sub (ws' := [(h0, .inr (12, [.int 0, .ref a1, .ref a2, .ref a3, .ref a4, .ref a5, .int 0, .ref a7, .ref a8, .int 0, .ref a10, .ref a11, .ref a12, .ref a13, .int 0, .ref a15, .ref a16, .ref a17, .ref a18, .ref a19, .ref a20, .ref a21, .ref a22, .int 0, .ref a24, .int 0, .ref a26, .ref a27, .int 0, .ref a29, .ref a30, .ref a31, .ref a32, .ref a33, .int 0, .ref a35, .ref a36, .int 0, .ref a38, .int 0, .int 0, .int 0, .int 0, .int 0, .long 0, .int 0, .int 0, .int (-1), .int (-1), .int 0, .ref a50, .ref a51, .int 0, .int 0, .ref a54, .ref a55, .int (-1), .ref a57, .ref a58, .ref a59, .ref a60, .int 0, .int 0, .int 0, .ref a64]))]) [0] (by decide) rfl
  have hKc := hK.sub (tys' := []) [] rfl
  have hFc := va_free (wc := [(h0, .inr (12, [.int 0, .ref a1, .ref a2, .ref a3, .ref a4, .ref a5, .int 0, .ref a7, .ref a8, .int 0, .ref a10, .ref a11, .ref a12, .ref a13, .int 0, .ref a15, .ref a16, .ref a17, .ref a18, .ref a19, .ref a20, .ref a21, .ref a22, .int 0, .ref a24, .int 0, .ref a26, .ref a27, .int 0, .ref a29, .ref a30, .ref a31, .ref a32, .ref a33, .int 0, .ref a35, .ref a36, .int 0, .ref a38, .int 0, .int 0, .int 0, .int 0, .int 0, .long 0, .int 0, .int 0, .int (-1), .int (-1), .int 0, .ref a50, .ref a51, .int 0, .int 0, .ref a54, .ref a55, .int (-1), .ref a57, .ref a58, .ref a59, .ref a60, .int 0, .int 0, .int 0, .ref a64]))]) hD hS hA [0] rfl
  refine va_calli (va_runV (As := [.int v1]) (rest := []) ⟨hx, hb, hml, hown, hts⟩ (m_isLens l dC dI H.size h0 v1 a1 a2 a3 a4 a5 a7 a8 a10 a11 a12 a13 a15 a16 a17 a18 a19 a20 a21 a22 a24 a26 a27 a29 a30 a31 a32 a33 a35 a36 a38 a50 a51 a54 a55 a57 a58 a59 a60 a64) (cwV 1 hts gm_get_520 rfl rfl rfl (by decide +kernel) ⟨Nat.le_of_ble_eq_true rfl, Nat.le_of_ble_eq_true rfl⟩) ⟨fun a U g mk q => by obtain ⟨q0, q1, qP, qK, qD⟩ := q; exact ⟨q0, q1, qP, va_K.moved (u := U) (U := U.calling g mk a) (Vm.Alike.refl U.vm) qK, qD⟩, va_recv hK hP (ci := 12) (q0 := 0) rfl rfl, fun U hU hW => ⟨rfl, by rw [hU], by rw [hU]; exact hPc, va_K.moved hW.alike hKc, hDc.weaken (fun _ _ _ _ => trivial)⟩⟩ rfl rfl hl.1 rfl (lv_room (Nat.le_of_ble_eq_true rfl)) dX12_get_7 ⟨Nat.le_of_ble_eq_true rfl, Nat.le_of_ble_eq_true rfl⟩) hS (fun q _ h => hFc q h) hFc (fun r_2 u t H1 locs ht hvm hw hB hz1 hk1 hS => ?_)
  obtain ⟨hP1, hK1, hD1⟩ := hB
  rw [ht] at hP1
  try dsimp only at hw
  obtain ⟨hP, hD⟩ := va_join (wr := []) (w1 := [(h0, .inr (12, [.int 0, .ref a1, .ref a2, .ref a3, .ref a4, .ref a5, .int 0, .ref a7, .ref a8, .int 0, .ref a10, .ref a11, .ref a12, .ref a13, .int 0, .ref a15, .ref a16, .ref a17, .ref a18, .ref a19, .ref a20, .ref a21, .ref a22, .int 0, .ref a24, .int 0, .ref a26, .ref a27, .int 0, .ref a29, .ref a30, .ref a31, .ref a32, .ref a33, .int 0, .ref a35, .ref a36, .int 0, .ref a38, .int 0, .int 0, .int 0, .int 0, .int 0, .long 0, .int 0, .int 0, .int (-1), .int (-1), .int 0, .ref a50, .ref a51, .int 0, .int 0, .ref a54, .ref a55, .int (-1), .ref a57, .ref a58, .ref a59, .ref a60, .int 0, .int 0, .int 0, .ref a64]))]) hP hD [0] [] rfl rfl (by decide) (by decide) hk1 hFc hP1 hD1
  clear hk1 hz1 hPc hDc hFc hP1 hD1 hK1 hKc
  generalize H1 = H at hP hS ⊢
  have hP : va_P (dC, dI) cls [(h0, .inr (12, [.int 0, .ref a1, .ref a2, .ref a3, .ref a4, .ref a5, .int 0, .ref a7, .ref a8, .int 0, .ref a10, .ref a11, .ref a12, .ref a13, .int 0, .ref a15, .ref a16, .ref a17, .ref a18, .ref a19, .ref a20, .ref a21, .ref a22, .int 0, .ref a24, .int 0, .ref a26, .ref a27, .int 0, .ref a29, .ref a30, .ref a31, .ref a32, .ref a33, .int 0, .ref a35, .ref a36, .int 0, .ref a38, .int 0, .int 0, .int 0, .int 0, .int 0, .long 0, .int 0, .int 0, .int (-1), .int (-1), .int 0, .ref a50, .ref a51, .int 0, .int 0, .ref a54, .ref a55, .int (-1), .ref a57, .ref a58, .ref a59, .ref a60, .int 0, .int 0, .int 0, .ref a64]))] H := hP
  have hD : va_D A [(h0, .inr (12, [.int 0, .ref a1, .ref a2, .ref a3, .ref a4, .ref a5, .int 0, .ref a7, .ref a8, .int 0, .ref a10, .ref a11, .ref a12, .ref a13, .int 0, .ref a15, .ref a16, .ref a17, .ref a18, .ref a19, .ref a20, .ref a21, .ref a22, .int 0, .ref a24, .int 0, .ref a26, .ref a27, .int 0, .ref a29, .ref a30, .ref a31, .ref a32, .ref a33, .int 0, .ref a35, .ref a36, .int 0, .ref a38, .int 0, .int 0, .int 0, .int 0, .int 0, .long 0, .int 0, .int 0, .int (-1), .int (-1), .int 0, .ref a50, .ref a51, .int 0, .int 0, .ref a54, .ref a55, .int (-1), .ref a57, .ref a58, .ref a59, .ref a60, .int 0, .int 0, .int 0, .ref a64]))] := hD
  obtain rfl := hw
  refine lv_if_eq (tgt := 29) hx hb dX12_get_10 (by decide) (fun c_3 => ?_) (fun c_3 => ?_)
  rotate_left
  · exact absurd (by decide) c_3
  refine lv_iconst (v := (-1)) hx hb dX12_get_29 (by decide) ?_
  have hP9 := hP.sub (ws' := []) [] rfl
  have hD9 := hD.sub (ws' := []) [] (by decide) rfl
  exact W.iret (v := (-1)) hx hb hr (fun t ht hW => ⟨⟨(-1), (), rfl, rfl, by rw [ht]; exact hP9, va_K.moved hW.alike hK, hD9⟩, hS.F ht⟩) hS.2.2 dX12_get_30
def wm_put : List Cond := .code yX12_put cX12_put 8 (some .int) :: ([.fieldLink RX12 142 "PutBackModel" "told" "I", .methodLink RX12 520 yX12_isLens, .instanceMethod yX12_isLens, .selects RX12 yX12_isLens yX12_isLens, .initialized RX12, .code yX12_isLens cX12_isLens 2 (some .boolean), .fieldLink RX12 506 "PutBackModel" "lenses" "I", .methodLink RX12 153 yX12_isIn, .instanceMethod yX12_isIn, .selects RX12 yX12_isIn yX12_isIn, .code yX12_isIn cX12_isIn 7 (some .boolean)] ++ wsX120)
theorem im_put_RX12 : ∀ w ∈ u_ws RX12 TX12 65, w ∈ wm_put := fun w h => List.mem_cons_of_mem _ (List.mem_append_right _ h)
theorem gm_put_520g : GoodIn wm_put wm_isLens := goodIn_r _ [6, 7, 8, 9, 10, 5, 11, 12, 13, 14, 15, 16, 17, 18, 19, 20, 21, 22, 23, 24, 25, 26, 27, 28, 29, 30, 31, 32, 33, 34, 35, 36, 37, 38, 39, 40, 41, 42, 43, 44, 45, 46, 47, 48, 49, 50, 51, 52, 53, 54, 55, 56, 57, 58, 59, 60, 61, 62, 63, 64, 65, 66, 67, 68, 69, 70, 71, 72, 73, 74, 75, 76] (by decide +kernel) (by decide +kernel)
theorem gm_put_520 : GoodIn wm_put (wsV RX12 520 RX12 yX12_isLens wm_isLens) := goodIn_app (goodIn_of _ (by decide +kernel)) gm_put_520g
set_option maxHeartbeats 4000000 in
set_option maxRecDepth 100000 in
theorem m_put (l : Launch) (dC : Nat → ClassId) (dI : Nat → Nat → Nat) (sz : Nat) (h0 : Nat) (v1 : Int32) (v2 : Int32) (v3 : Int32) (v4 : Int32) (a1 : Nat) (a2 : Nat) (a3 : Nat) (a4 : Nat) (a5 : Nat) (a7 : Nat) (a8 : Nat) (a10 : Nat) (a11 : Nat) (a12 : Nat) (a13 : Nat) (a15 : Nat) (a16 : Nat) (a17 : Nat) (a18 : Nat) (a19 : Nat) (a20 : Nat) (a21 : Nat) (a22 : Nat) (a24 : Nat) (a26 : Nat) (a27 : Nat) (a29 : Nat) (a30 : Nat) (a31 : Nat) (a32 : Nat) (a33 : Nat) (a35 : Nat) (a36 : Nat) (a38 : Nat) (a50 : Nat) (a51 : Nat) (a54 : Nat) (a55 : Nat) (a57 : Nat) (a58 : Nat) (a59 : Nat) (a60 : Nat) (a64 : Nat) : Met l yX12_put wm_put ({ frames := 2, cells := 0, slots := 0, locals := 47 } : Room) (va_Pc [.ref h0, .int v1, .int v2, .int v3, .int v4] (fun U => U.heap.size = sz ∧ va_P (dC, dI) cls [(h0, .inr (12, [.int 0, .ref a1, .ref a2, .ref a3, .ref a4, .ref a5, .int 0, .ref a7, .ref a8, .int 0, .ref a10, .ref a11, .ref a12, .ref a13, .int 0, .ref a15, .ref a16, .ref a17, .ref a18, .ref a19, .ref a20, .ref a21, .ref a22, .int 0, .ref a24, .int 0, .ref a26, .ref a27, .int 0, .ref a29, .ref a30, .ref a31, .ref a32, .ref a33, .int 0, .ref a35, .ref a36, .int 0, .ref a38, .int 0, .int 0, .int 0, .int 0, .int 0, .long 0, .int 0, .int 0, .int (-1), .int (-1), .int 0, .ref a50, .ref a51, .int 0, .int 0, .ref a54, .ref a55, .int (-1), .ref a57, .ref a58, .ref a59, .ref a60, .int 0, .int 0, .int 0, .ref a64]))] U.heap ∧ va_K (dC, dI) cls [] U ∧ va_D (fun _ => True) [(h0, .inr (12, [.int 0, .ref a1, .ref a2, .ref a3, .ref a4, .ref a5, .int 0, .ref a7, .ref a8, .int 0, .ref a10, .ref a11, .ref a12, .ref a13, .int 0, .ref a15, .ref a16, .ref a17, .ref a18, .ref a19, .ref a20, .ref a21, .ref a22, .int 0, .ref a24, .int 0, .ref a26, .ref a27, .int 0, .ref a29, .ref a30, .ref a31, .ref a32, .ref a33, .int 0, .ref a35, .ref a36, .int 0, .ref a38, .int 0, .int 0, .int 0, .int 0, .int 0, .long 0, .int 0, .int 0, .int (-1), .int (-1), .int 0, .ref a50, .ref a51, .int 0, .int 0, .ref a54, .ref a55, .int (-1), .ref a57, .ref a58, .ref a59, .ref a60, .int 0, .int 0, .int 0, .ref a64]))])) (va_Qi (fun (r : Int32) (_ : Unit) => r = -1) (fun (_ : Unit) t => va_P (dC, dI) cls [] t.heap ∧ va_K (dC, dI) cls [] t ∧ va_D (va_A [(h0, .inr (12, [.int 0, .ref a1, .ref a2, .ref a3, .ref a4, .ref a5, .int 0, .ref a7, .ref a8, .int 0, .ref a10, .ref a11, .ref a12, .ref a13, .int 0, .ref a15, .ref a16, .ref a17, .ref a18, .ref a19, .ref a20, .ref a21, .ref a22, .int 0, .ref a24, .int 0, .ref a26, .ref a27, .int 0, .ref a29, .ref a30, .ref a31, .ref a32, .ref a33, .int 0, .ref a35, .ref a36, .int 0, .ref a38, .int 0, .int 0, .int 0, .int 0, .int 0, .long 0, .int 0, .int 0, .int (-1), .int (-1), .int 0, .ref a50, .ref a51, .int 0, .int 0, .ref a54, .ref a55, .int (-1), .ref a57, .ref a58, .ref a59, .ref a60, .int 0, .int 0, .int 0, .ref a64]))] sz) []) (va_A [(h0, .inr (12, [.int 0, .ref a1, .ref a2, .ref a3, .ref a4, .ref a5, .int 0, .ref a7, .ref a8, .int 0, .ref a10, .ref a11, .ref a12, .ref a13, .int 0, .ref a15, .ref a16, .ref a17, .ref a18, .ref a19, .ref a20, .ref a21, .ref a22, .int 0, .ref a24, .int 0, .ref a26, .ref a27, .int 0, .ref a29, .ref a30, .ref a31, .ref a32, .ref a33, .int 0, .ref a35, .ref a36, .int 0, .ref a38, .int 0, .int 0, .int 0, .int 0, .int 0, .long 0, .int 0, .int 0, .int (-1), .int (-1), .int 0, .ref a50, .ref a51, .int 0, .int 0, .ref a54, .ref a55, .int (-1), .ref a57, .ref a58, .ref a59, .ref a60, .int 0, .int 0, .int 0, .ref a64]))] sz)) 0 0 (va_A [(h0, .inr (12, [.int 0, .ref a1, .ref a2, .ref a3, .ref a4, .ref a5, .int 0, .ref a7, .ref a8, .int 0, .ref a10, .ref a11, .ref a12, .ref a13, .int 0, .ref a15, .ref a16, .ref a17, .ref a18, .ref a19, .ref a20, .ref a21, .ref a22, .int 0, .ref a24, .int 0, .ref a26, .ref a27, .int 0, .ref a29, .ref a30, .ref a31, .ref a32, .ref a33, .int 0, .ref a35, .ref a36, .int 0, .ref a38, .int 0, .int 0, .int 0, .int 0, .int 0, .long 0, .int 0, .int 0, .int (-1), .int (-1), .int 0, .ref a50, .ref a51, .int 0, .int 0, .ref a54, .ref a55, .int (-1), .ref a57, .ref a58, .ref a59, .ref a60, .int 0, .int 0, .int 0, .ref a64]))] sz) := by
  refine Met.ofW (cc := cX12_put) (maxL := 8) (ret := (some .int)) (by decide) rfl ?_
  intro p e s m args below meth c s₁ B hml hv
  obtain ⟨rfl, hsz, hP, hK, hD0⟩ := hv
  have hx := B.exec
  have hb := B.bytes
  have hr := B.returns
  have hts := atoms_spec (ws := wm_put) B.pre
  have hown : s.vm.findClass RX12 = some m.cls := findClass_of_methodNamed B.named
  have hlocks := B.notSynchronized
  subst hsz
  have hD := hD0.self (sz := s.heap.size)
  generalize hAe : va_A [(h0, .inr (12, [.int 0, .ref a1, .ref a2, .ref a3, .ref a4, .ref a5, .int 0, .ref a7, .ref a8, .int 0, .ref a10, .ref a11, .ref a12, .ref a13, .int 0, .ref a15, .ref a16, .ref a17, .ref a18, .ref a19, .ref a20, .ref a21, .ref a22, .int 0, .ref a24, .int 0, .ref a26, .ref a27, .int 0, .ref a29, .ref a30, .ref a31, .ref a32, .ref a33, .int 0, .ref a35, .ref a36, .int 0, .ref a38, .int 0, .int 0, .int 0, .int 0, .int 0, .long 0, .int 0, .int 0, .int (-1), .int (-1), .int 0, .ref a50, .ref a51, .int 0, .int 0, .ref a54, .ref a55, .int (-1), .ref a57, .ref a58, .ref a59, .ref a60, .int 0, .int 0, .int 0, .ref a64]))] s.heap.size = A at hD ⊢
  have hA : ∀ q : Nat, s.heap.size ≤ q → A q := fun q h => by rw [← hAe]; exact Or.inr h
  have hP : va_P (dC, dI) cls [(h0, .inr (12, [.int 0, .ref a1, .ref a2, .ref a3, .ref a4, .ref a5, .int 0, .ref a7, .ref a8, .int 0, .ref a10, .ref a11, .ref a12, .ref a13, .int 0, .ref a15, .ref a16, .ref a17, .ref a18, .ref a19, .ref a20, .ref a21, .ref a22, .int 0, .ref a24, .int 0, .ref a26, .ref a27, .int 0, .ref a29, .ref a30, .ref a31, .ref a32, .ref a33, .int 0, .ref a35, .ref a36, .int 0, .ref a38, .int 0, .int 0, .int 0, .int 0, .int 0, .long 0, .int 0, .int 0, .int (-1), .int (-1), .int 0, .ref a50, .ref a51, .int 0, .int 0, .ref a54, .ref a55, .int (-1), .ref a57, .ref a58, .ref a59, .ref a60, .int 0, .int 0, .int 0, .ref a64]))] s.heap := hP
  have hl := lv_entry ([.ref h0, .int v1, .int v2, .int v3, .int v4]) (n := 8) (Nat.le_of_ble_eq_true rfl)
  rw [lg_entry_eq]
  generalize (lg_sl ([.ref h0, .int v1, .int v2, .int v3, .int v4]) ++ List.replicate (8 - (lg_sl ([.ref h0, .int v1, .int v2, .int v3, .int v4])).length) Slot.unset).toArray = ls at hl ⊢
  have hl : lv_has ls 8 [(0, .ref h0), (1, .int v1), (2, .int v2), (3, .int v3), (4, .int v4)] := hl
  obtain ⟨H, hH⟩ : ∃ H : Heap, s.heap = H := ⟨_, rfl⟩
  rw [hH] at hP ⊢
  have hS : va_S A s.heap H [] := by rw [← hH]; exact va_S.rf
  refine lv_aload_n hx hb dX12_put_0 rfl (lv_at hl 0 rfl) ?_
  refine lv_iconst (v := 0) hx hb dX12_put_1 (by decide) ?_
  refine va_put (D := (dC, dI)) (ci := 12) (v := .int 0) (ty := .int) (C := RX12) (T := TX12) (N := 65) hx hb hts im_put_RX12 tyX12 tyX12_ok nmX12 hown hK hP hD hS 0 rfl rfl 0 (by decide) (hts (.fieldLink RX12 142 "PutBackModel" "told" "I") (by decide +kernel)) (fun _ h9 => h9) rfl (by decide +kernel) rfl rfl (Nat.le_of_ble_eq_true rfl) dX12_put_2 (fun H locs hP hD hS => ?_)
  have hP : va_P (dC, dI) cls [(h0, .inr (12, [.int 0, .ref a1, .ref a2, .ref a3, .ref a4, .ref a5, .int 0, .ref a7, .ref a8, .int 0, .ref a10, .ref a11, .ref a12, .ref a13, .int 0, .ref a15, .ref a16, .ref a17, .ref a18, .ref a19, .ref a20, .ref a21, .ref a22, .int 0, .ref a24, .int 0, .ref a26, .ref a27, .int 0, .ref a29, .ref a30, .ref a31, .ref a32, .ref a33, .int 0, .ref a35, .ref a36, .int 0, .ref a38, .int 0, .int 0, .int 0, .int 0, .int 0, .long 0, .int 0, .int 0, .int (-1), .int (-1), .int 0, .ref a50, .ref a51, .int 0, .int 0, .ref a54, .ref a55, .int (-1), .ref a57, .ref a58, .ref a59, .ref a60, .int 0, .int 0, .int 0, .ref a64]))] H := hP
  have hD : va_D A [(h0, .inr (12, [.int 0, .ref a1, .ref a2, .ref a3, .ref a4, .ref a5, .int 0, .ref a7, .ref a8, .int 0, .ref a10, .ref a11, .ref a12, .ref a13, .int 0, .ref a15, .ref a16, .ref a17, .ref a18, .ref a19, .ref a20, .ref a21, .ref a22, .int 0, .ref a24, .int 0, .ref a26, .ref a27, .int 0, .ref a29, .ref a30, .ref a31, .ref a32, .ref a33, .int 0, .ref a35, .ref a36, .int 0, .ref a38, .int 0, .int 0, .int 0, .int 0, .int 0, .long 0, .int 0, .int 0, .int (-1), .int (-1), .int 0, .ref a50, .ref a51, .int 0, .int 0, .ref a54, .ref a55, .int (-1), .ref a57, .ref a58, .ref a59, .ref a60, .int 0, .int 0, .int 0, .ref a64]))] := hD
  refine lv_aload_n hx hb dX12_put_5 rfl (lv_at hl 0 rfl) ?_
  refine lv_iload_n hx hb dX12_put_6 rfl (lv_at hl 1 rfl) ?_
  have hPc := hP.sub (ws' := [(h0, .inr (12, [.int 0, .ref a1, .ref a2, .ref a3, .ref a4, .ref a5, .int 0, .ref a7, .ref a8, .int 0, .ref a10, .ref a11, .ref a12, .ref a13, .int 0, .ref a15, .ref a16, .ref a17, .ref a18, .ref a19, .ref a20, .ref a21, .ref a22, .int 0, .ref a24, .int 0, .ref a26, .ref a27, .int 0, .ref a29, .ref a30, .ref a31, .ref a32, .ref a33, .int 0, .ref a35, .ref a36, .int 0, .ref a38, .int 0, .int 0, .int 0, .int 0, .int 0, .long 0, .int 0, .int 0, .int (-1), .int (-1), .int 0, .ref a50, .ref a51, .int 0, .int 0, .ref a54, .ref a55, .int (-1), .ref a57, .ref a58, .ref a59, .ref a60, .int 0, .int 0, .int 0, .ref a64]))]) [0] rfl
  have hDc := hD.sub (ws' := [(h0, .inr (12, [.int 0, .ref a1, .ref a2, .ref a3, .ref a4, .ref a5, .int 0, .ref a7, .ref a8, .int 0, .ref a10, .ref a11, .ref a12, .ref a13, .int 0, .ref a15, .ref a16, .ref a17, .ref a18, .ref a19, .ref a20, .ref a21, .ref a22, .int 0, .ref a24, .int 0, .ref a26, .ref a27, .int 0, .ref a29, .ref a30, .ref a31, .ref a32, .ref a33, .int 0, .ref a35, .ref a36, .int 0, .ref a38, .int 0, .int 0, .int 0, .int 0, .int 0, .long 0, .int 0, .int 0, .int (-1), .int (-1), .int 0, .ref a50, .ref a51, .int 0, .int 0, .ref a54, .ref a55, .int (-1), .ref a57, .ref a58, .ref a59, .ref a60, .int 0, .int 0, .int 0, .ref a64]))]) [0] (by decide) rfl
  have hKc := hK.sub (tys' := []) [] rfl
  have hFc := va_free (wc := [(h0, .inr (12, [.int 0, .ref a1, .ref a2, .ref a3, .ref a4, .ref a5, .int 0, .ref a7, .ref a8, .int 0, .ref a10, .ref a11, .ref a12, .ref a13, .int 0, .ref a15, .ref a16, .ref a17, .ref a18, .ref a19, .ref a20, .ref a21, .ref a22, .int 0, .ref a24, .int 0, .ref a26, .ref a27, .int 0, .ref a29, .ref a30, .ref a31, .ref a32, .ref a33, .int 0, .ref a35, .ref a36, .int 0, .ref a38, .int 0, .int 0, .int 0, .int 0, .int 0, .long 0, .int 0, .int 0, .int (-1), .int (-1), .int 0, .ref a50, .ref a51, .int 0, .int 0, .ref a54, .ref a55, .int (-1), .ref a57, .ref a58, .ref a59, .ref a60, .int 0, .int 0, .int 0, .ref a64]))]) hD hS hA [0] rfl
  refine va_calli (va_runV (As := [.int v1]) (rest := []) ⟨hx, hb, hml, hown, hts⟩ (m_isLens l dC dI H.size h0 v1 a1 a2 a3 a4 a5 a7 a8 a10 a11 a12 a13 a15 a16 a17 a18 a19 a20 a21 a22 a24 a26 a27 a29 a30 a31 a32 a33 a35 a36 a38 a50 a51 a54 a55 a57 a58 a59 a60 a64) (cwV 1 hts gm_put_520 rfl rfl rfl (by decide +kernel) ⟨Nat.le_of_ble_eq_true rfl, Nat.le_of_ble_eq_true rfl⟩) ⟨fun a U g mk q => by obtain ⟨q0, q1, qP, qK, qD⟩ := q; exact ⟨q0, q1, qP, va_K.moved (u := U) (U := U.calling g mk a) (Vm.Alike.refl U.vm) qK, qD⟩, va_recv hK hP (ci := 12) (q0 := 0) rfl rfl, fun U hU hW => ⟨rfl, by rw [hU], by rw [hU]; exact hPc, va_K.moved hW.alike hKc, hDc.weaken (fun _ _ _ _ => trivial)⟩⟩ rfl rfl hl.1 rfl (lv_room (Nat.le_of_ble_eq_true rfl)) dX12_put_7 ⟨Nat.le_of_ble_eq_true rfl, Nat.le_of_ble_eq_true rfl⟩) hS (fun q _ h => hFc q h) hFc (fun r_2 u t H1 locs ht hvm hw hB hz1 hk1 hS => ?_)
  obtain ⟨hP1, hK1, hD1⟩ := hB
  rw [ht] at hP1
  try dsimp only at hw
  obtain ⟨hP, hD⟩ := va_join (wr := []) (w1 := [(h0, .inr (12, [.int 0, .ref a1, .ref a2, .ref a3, .ref a4, .ref a5, .int 0, .ref a7, .ref a8, .int 0, .ref a10, .ref a11, .ref a12, .ref a13, .int 0, .ref a15, .ref a16, .ref a17, .ref a18, .ref a19, .ref a20, .ref a21, .ref a22, .int 0, .ref a24, .int 0, .ref a26, .ref a27, .int 0, .ref a29, .ref a30, .ref a31, .ref a32, .ref a33, .int 0, .ref a35, .ref a36, .int 0, .ref a38, .int 0, .int 0, .int 0, .int 0, .int 0, .long 0, .int 0, .int 0, .int (-1), .int (-1), .int 0, .ref a50, .ref a51, .int 0, .int 0, .ref a54, .ref a55, .int (-1), .ref a57, .ref a58, .ref a59, .ref a60, .int 0, .int 0, .int 0, .ref a64]))]) hP hD [0] [] rfl rfl (by decide) (by decide) hk1 hFc hP1 hD1
  clear hk1 hz1 hPc hDc hFc hP1 hD1 hK1 hKc
  generalize H1 = H at hP hS ⊢
  have hP : va_P (dC, dI) cls [(h0, .inr (12, [.int 0, .ref a1, .ref a2, .ref a3, .ref a4, .ref a5, .int 0, .ref a7, .ref a8, .int 0, .ref a10, .ref a11, .ref a12, .ref a13, .int 0, .ref a15, .ref a16, .ref a17, .ref a18, .ref a19, .ref a20, .ref a21, .ref a22, .int 0, .ref a24, .int 0, .ref a26, .ref a27, .int 0, .ref a29, .ref a30, .ref a31, .ref a32, .ref a33, .int 0, .ref a35, .ref a36, .int 0, .ref a38, .int 0, .int 0, .int 0, .int 0, .int 0, .long 0, .int 0, .int 0, .int (-1), .int (-1), .int 0, .ref a50, .ref a51, .int 0, .int 0, .ref a54, .ref a55, .int (-1), .ref a57, .ref a58, .ref a59, .ref a60, .int 0, .int 0, .int 0, .ref a64]))] H := hP
  have hD : va_D A [(h0, .inr (12, [.int 0, .ref a1, .ref a2, .ref a3, .ref a4, .ref a5, .int 0, .ref a7, .ref a8, .int 0, .ref a10, .ref a11, .ref a12, .ref a13, .int 0, .ref a15, .ref a16, .ref a17, .ref a18, .ref a19, .ref a20, .ref a21, .ref a22, .int 0, .ref a24, .int 0, .ref a26, .ref a27, .int 0, .ref a29, .ref a30, .ref a31, .ref a32, .ref a33, .int 0, .ref a35, .ref a36, .int 0, .ref a38, .int 0, .int 0, .int 0, .int 0, .int 0, .long 0, .int 0, .int 0, .int (-1), .int (-1), .int 0, .ref a50, .ref a51, .int 0, .int 0, .ref a54, .ref a55, .int (-1), .ref a57, .ref a58, .ref a59, .ref a60, .int 0, .int 0, .int 0, .ref a64]))] := hD
  obtain rfl := hw
  refine lv_if_eq (tgt := 38) hx hb dX12_put_10 (by decide) (fun c_3 => ?_) (fun c_3 => ?_)
  rotate_left
  · exact absurd (by decide) c_3
  refine lv_iconst (v := (-1)) hx hb dX12_put_38 (by decide) ?_
  have hP9 := hP.sub (ws' := []) [] rfl
  have hD9 := hD.sub (ws' := []) [] (by decide) rfl
  exact W.iret (v := (-1)) hx hb hr (fun t ht hW => ⟨⟨(-1), (), rfl, rfl, by rw [ht]; exact hP9, va_K.moved hW.alike hK, hD9⟩, hS.F ht⟩) hS.2.2 dX12_put_39
def wm_create : List Cond := .code yX12_create cX12_create 6 (some .int) :: ([.fieldLink RX12 142 "PutBackModel" "told" "I", .methodLink RX12 520 yX12_isLens, .instanceMethod yX12_isLens, .selects RX12 yX12_isLens yX12_isLens, .initialized RX12, .code yX12_isLens cX12_isLens 2 (some .boolean), .fieldLink RX12 506 "PutBackModel" "lenses" "I", .methodLink RX12 153 yX12_isIn, .instanceMethod yX12_isIn, .selects RX12 yX12_isIn yX12_isIn, .code yX12_isIn cX12_isIn 7 (some .boolean)] ++ wsX120)
theorem im_create_RX12 : ∀ w ∈ u_ws RX12 TX12 65, w ∈ wm_create := fun w h => List.mem_cons_of_mem _ (List.mem_append_right _ h)
theorem gm_create_520g : GoodIn wm_create wm_isLens := goodIn_r _ [6, 7, 8, 9, 10, 5, 11, 12, 13, 14, 15, 16, 17, 18, 19, 20, 21, 22, 23, 24, 25, 26, 27, 28, 29, 30, 31, 32, 33, 34, 35, 36, 37, 38, 39, 40, 41, 42, 43, 44, 45, 46, 47, 48, 49, 50, 51, 52, 53, 54, 55, 56, 57, 58, 59, 60, 61, 62, 63, 64, 65, 66, 67, 68, 69, 70, 71, 72, 73, 74, 75, 76] (by decide +kernel) (by decide +kernel)
theorem gm_create_520 : GoodIn wm_create (wsV RX12 520 RX12 yX12_isLens wm_isLens) := goodIn_app (goodIn_of _ (by decide +kernel)) gm_create_520g
set_option maxHeartbeats 4000000 in
set_option maxRecDepth 100000 in
theorem m_create (l : Launch) (dC : Nat → ClassId) (dI : Nat → Nat → Nat) (sz : Nat) (h0 : Nat) (v1 : Int32) (v2 : Int32) (v3 : Int32) (a1 : Nat) (a2 : Nat) (a3 : Nat) (a4 : Nat) (a5 : Nat) (a7 : Nat) (a8 : Nat) (a10 : Nat) (a11 : Nat) (a12 : Nat) (a13 : Nat) (a15 : Nat) (a16 : Nat) (a17 : Nat) (a18 : Nat) (a19 : Nat) (a20 : Nat) (a21 : Nat) (a22 : Nat) (a24 : Nat) (a26 : Nat) (a27 : Nat) (a29 : Nat) (a30 : Nat) (a31 : Nat) (a32 : Nat) (a33 : Nat) (a35 : Nat) (a36 : Nat) (a38 : Nat) (a50 : Nat) (a51 : Nat) (a54 : Nat) (a55 : Nat) (a57 : Nat) (a58 : Nat) (a59 : Nat) (a60 : Nat) (a64 : Nat) : Met l yX12_create wm_create ({ frames := 2, cells := 0, slots := 0, locals := 47 } : Room) (va_Pc [.ref h0, .int v1, .int v2, .int v3] (fun U => U.heap.size = sz ∧ va_P (dC, dI) cls [(h0, .inr (12, [.int 0, .ref a1, .ref a2, .ref a3, .ref a4, .ref a5, .int 0, .ref a7, .ref a8, .int 0, .ref a10, .ref a11, .ref a12, .ref a13, .int 0, .ref a15, .ref a16, .ref a17, .ref a18, .ref a19, .ref a20, .ref a21, .ref a22, .int 0, .ref a24, .int 0, .ref a26, .ref a27, .int 0, .ref a29, .ref a30, .ref a31, .ref a32, .ref a33, .int 0, .ref a35, .ref a36, .int 0, .ref a38, .int 0, .int 0, .int 0, .int 0, .int 0, .long 0, .int 0, .int 0, .int (-1), .int (-1), .int 0, .ref a50, .ref a51, .int 0, .int 0, .ref a54, .ref a55, .int (-1), .ref a57, .ref a58, .ref a59, .ref a60, .int 0, .int 0, .int 0, .ref a64]))] U.heap ∧ va_K (dC, dI) cls [] U ∧ va_D (fun _ => True) [(h0, .inr (12, [.int 0, .ref a1, .ref a2, .ref a3, .ref a4, .ref a5, .int 0, .ref a7, .ref a8, .int 0, .ref a10, .ref a11, .ref a12, .ref a13, .int 0, .ref a15, .ref a16, .ref a17, .ref a18, .ref a19, .ref a20, .ref a21, .ref a22, .int 0, .ref a24, .int 0, .ref a26, .ref a27, .int 0, .ref a29, .ref a30, .ref a31, .ref a32, .ref a33, .int 0, .ref a35, .ref a36, .int 0, .ref a38, .int 0, .int 0, .int 0, .int 0, .int 0, .long 0, .int 0, .int 0, .int (-1), .int (-1), .int 0, .ref a50, .ref a51, .int 0, .int 0, .ref a54, .ref a55, .int (-1), .ref a57, .ref a58, .ref a59, .ref a60, .int 0, .int 0, .int 0, .ref a64]))])) (va_Qi (fun (r : Int32) (_ : Unit) => r = -1) (fun (_ : Unit) t => va_P (dC, dI) cls [] t.heap ∧ va_K (dC, dI) cls [] t ∧ va_D (va_A [(h0, .inr (12, [.int 0, .ref a1, .ref a2, .ref a3, .ref a4, .ref a5, .int 0, .ref a7, .ref a8, .int 0, .ref a10, .ref a11, .ref a12, .ref a13, .int 0, .ref a15, .ref a16, .ref a17, .ref a18, .ref a19, .ref a20, .ref a21, .ref a22, .int 0, .ref a24, .int 0, .ref a26, .ref a27, .int 0, .ref a29, .ref a30, .ref a31, .ref a32, .ref a33, .int 0, .ref a35, .ref a36, .int 0, .ref a38, .int 0, .int 0, .int 0, .int 0, .int 0, .long 0, .int 0, .int 0, .int (-1), .int (-1), .int 0, .ref a50, .ref a51, .int 0, .int 0, .ref a54, .ref a55, .int (-1), .ref a57, .ref a58, .ref a59, .ref a60, .int 0, .int 0, .int 0, .ref a64]))] sz) []) (va_A [(h0, .inr (12, [.int 0, .ref a1, .ref a2, .ref a3, .ref a4, .ref a5, .int 0, .ref a7, .ref a8, .int 0, .ref a10, .ref a11, .ref a12, .ref a13, .int 0, .ref a15, .ref a16, .ref a17, .ref a18, .ref a19, .ref a20, .ref a21, .ref a22, .int 0, .ref a24, .int 0, .ref a26, .ref a27, .int 0, .ref a29, .ref a30, .ref a31, .ref a32, .ref a33, .int 0, .ref a35, .ref a36, .int 0, .ref a38, .int 0, .int 0, .int 0, .int 0, .int 0, .long 0, .int 0, .int 0, .int (-1), .int (-1), .int 0, .ref a50, .ref a51, .int 0, .int 0, .ref a54, .ref a55, .int (-1), .ref a57, .ref a58, .ref a59, .ref a60, .int 0, .int 0, .int 0, .ref a64]))] sz)) 0 0 (va_A [(h0, .inr (12, [.int 0, .ref a1, .ref a2, .ref a3, .ref a4, .ref a5, .int 0, .ref a7, .ref a8, .int 0, .ref a10, .ref a11, .ref a12, .ref a13, .int 0, .ref a15, .ref a16, .ref a17, .ref a18, .ref a19, .ref a20, .ref a21, .ref a22, .int 0, .ref a24, .int 0, .ref a26, .ref a27, .int 0, .ref a29, .ref a30, .ref a31, .ref a32, .ref a33, .int 0, .ref a35, .ref a36, .int 0, .ref a38, .int 0, .int 0, .int 0, .int 0, .int 0, .long 0, .int 0, .int 0, .int (-1), .int (-1), .int 0, .ref a50, .ref a51, .int 0, .int 0, .ref a54, .ref a55, .int (-1), .ref a57, .ref a58, .ref a59, .ref a60, .int 0, .int 0, .int 0, .ref a64]))] sz) := by
  refine Met.ofW (cc := cX12_create) (maxL := 6) (ret := (some .int)) (by decide) rfl ?_
  intro p e s m args below meth c s₁ B hml hv
  obtain ⟨rfl, hsz, hP, hK, hD0⟩ := hv
  have hx := B.exec
  have hb := B.bytes
  have hr := B.returns
  have hts := atoms_spec (ws := wm_create) B.pre
  have hown : s.vm.findClass RX12 = some m.cls := findClass_of_methodNamed B.named
  have hlocks := B.notSynchronized
  subst hsz
  have hD := hD0.self (sz := s.heap.size)
  generalize hAe : va_A [(h0, .inr (12, [.int 0, .ref a1, .ref a2, .ref a3, .ref a4, .ref a5, .int 0, .ref a7, .ref a8, .int 0, .ref a10, .ref a11, .ref a12, .ref a13, .int 0, .ref a15, .ref a16, .ref a17, .ref a18, .ref a19, .ref a20, .ref a21, .ref a22, .int 0, .ref a24, .int 0, .ref a26, .ref a27, .int 0, .ref a29, .ref a30, .ref a31, .ref a32, .ref a33, .int 0, .ref a35, .ref a36, .int 0, .ref a38, .int 0, .int 0, .int 0, .int 0, .int 0, .long 0, .int 0, .int 0, .int (-1), .int (-1), .int 0, .ref a50, .ref a51, .int 0, .int 0, .ref a54, .ref a55, .int (-1), .ref a57, .ref a58, .ref a59, .ref a60, .int 0, .int 0, .int 0, .ref a64]))] s.heap.size = A at hD ⊢
  have hA : ∀ q : Nat, s.heap.size ≤ q → A q := fun q h => by rw [← hAe]; exact Or.inr h
  have hP : va_P (dC, dI) cls [(h0, .inr (12, [.int 0, .ref a1, .ref a2, .ref a3, .ref a4, .ref a5, .int 0, .ref a7, .ref a8, .int 0, .ref a10, .ref a11, .ref a12, .ref a13, .int 0, .ref a15, .ref a16, .ref a17, .ref a18, .ref a19, .ref a20, .ref a21, .ref a22, .int 0, .ref a24, .int 0, .ref a26, .ref a27, .int 0, .ref a29, .ref a30, .ref a31, .ref a32, .ref a33, .int 0, .ref a35, .ref a36, .int 0, .ref a38, .int 0, .int 0, .int 0, .int 0, .int 0, .long 0, .int 0, .int 0, .int (-1), .int (-1), .int 0, .ref a50, .ref a51, .int 0, .int 0, .ref a54, .ref a55, .int (-1), .ref a57, .ref a58, .ref a59, .ref a60, .int 0, .int 0, .int 0, .ref a64]))] s.heap := hP
  have hl := lv_entry ([.ref h0, .int v1, .int v2, .int v3]) (n := 6) (Nat.le_of_ble_eq_true rfl)
  rw [lg_entry_eq]
  generalize (lg_sl ([.ref h0, .int v1, .int v2, .int v3]) ++ List.replicate (6 - (lg_sl ([.ref h0, .int v1, .int v2, .int v3])).length) Slot.unset).toArray = ls at hl ⊢
  have hl : lv_has ls 6 [(0, .ref h0), (1, .int v1), (2, .int v2), (3, .int v3)] := hl
  obtain ⟨H, hH⟩ : ∃ H : Heap, s.heap = H := ⟨_, rfl⟩
  rw [hH] at hP ⊢
  have hS : va_S A s.heap H [] := by rw [← hH]; exact va_S.rf
  refine lv_aload_n hx hb dX12_create_0 rfl (lv_at hl 0 rfl) ?_
  refine lv_iconst (v := 0) hx hb dX12_create_1 (by decide) ?_
  refine va_put (D := (dC, dI)) (ci := 12) (v := .int 0) (ty := .int) (C := RX12) (T := TX12) (N := 65) hx hb hts im_create_RX12 tyX12 tyX12_ok nmX12 hown hK hP hD hS 0 rfl rfl 0 (by decide) (hts (.fieldLink RX12 142 "PutBackModel" "told" "I") (by decide +kernel)) (fun _ h9 => h9) rfl (by decide +kernel) rfl rfl (Nat.le_of_ble_eq_true rfl) dX12_create_2 (fun H locs hP hD hS => ?_)
  have hP : va_P (dC, dI) cls [(h0, .inr (12, [.int 0, .ref a1, .ref a2, .ref a3, .ref a4, .ref a5, .int 0, .ref a7, .ref a8, .int 0, .ref a10, .ref a11, .ref a12, .ref a13, .int 0, .ref a15, .ref a16, .ref a17, .ref a18, .ref a19, .ref a20, .ref a21, .ref a22, .int 0, .ref a24, .int 0, .ref a26, .ref a27, .int 0, .ref a29, .ref a30, .ref a31, .ref a32, .ref a33, .int 0, .ref a35, .ref a36, .int 0, .ref a38, .int 0, .int 0, .int 0, .int 0, .int 0, .long 0, .int 0, .int 0, .int (-1), .int (-1), .int 0, .ref a50, .ref a51, .int 0, .int 0, .ref a54, .ref a55, .int (-1), .ref a57, .ref a58, .ref a59, .ref a60, .int 0, .int 0, .int 0, .ref a64]))] H := hP
  have hD : va_D A [(h0, .inr (12, [.int 0, .ref a1, .ref a2, .ref a3, .ref a4, .ref a5, .int 0, .ref a7, .ref a8, .int 0, .ref a10, .ref a11, .ref a12, .ref a13, .int 0, .ref a15, .ref a16, .ref a17, .ref a18, .ref a19, .ref a20, .ref a21, .ref a22, .int 0, .ref a24, .int 0, .ref a26, .ref a27, .int 0, .ref a29, .ref a30, .ref a31, .ref a32, .ref a33, .int 0, .ref a35, .ref a36, .int 0, .ref a38, .int 0, .int 0, .int 0, .int 0, .int 0, .long 0, .int 0, .int 0, .int (-1), .int (-1), .int 0, .ref a50, .ref a51, .int 0, .int 0, .ref a54, .ref a55, .int (-1), .ref a57, .ref a58, .ref a59, .ref a60, .int 0, .int 0, .int 0, .ref a64]))] := hD
  refine lv_aload_n hx hb dX12_create_5 rfl (lv_at hl 0 rfl) ?_
  refine lv_iload_n hx hb dX12_create_6 rfl (lv_at hl 1 rfl) ?_
  have hPc := hP.sub (ws' := [(h0, .inr (12, [.int 0, .ref a1, .ref a2, .ref a3, .ref a4, .ref a5, .int 0, .ref a7, .ref a8, .int 0, .ref a10, .ref a11, .ref a12, .ref a13, .int 0, .ref a15, .ref a16, .ref a17, .ref a18, .ref a19, .ref a20, .ref a21, .ref a22, .int 0, .ref a24, .int 0, .ref a26, .ref a27, .int 0, .ref a29, .ref a30, .ref a31, .ref a32, .ref a33, .int 0, .ref a35, .ref a36, .int 0, .ref a38, .int 0, .int 0, .int 0, .int 0, .int 0, .long 0, .int 0, .int 0, .int (-1), .int (-1), .int 0, .ref a50, .ref a51, .int 0, .int 0, .ref a54, .ref a55, .int (-1), .ref a57, .ref a58, .ref a59, .ref a60, .int 0, .int 0, .int 0, .ref a64]))]) [0] rfl
  have hDc := hD.sub (ws' := [(h0, .inr (12, [.int 0, .ref a1, .ref a2, .ref a3, .ref a4, .ref a5, .int 0, .ref a7, .ref a8, .int 0, .ref a10, .ref a11, .ref a12, .ref a13, .int 0, .ref a15, .ref a16, .ref a17, .ref a18, .ref a19, .ref a20, .ref a21, .ref a22, .int 0, .ref a24, .int 0, .ref a26, .ref a27, .int 0, .ref a29, .ref a30, .ref a31, .ref a32, .ref a33, .int 0, .ref a35, .ref a36, .int 0, .ref a38, .int 0, .int 0, .int 0, .int 0, .int 0, .long 0, .int 0, .int 0, .int (-1), .int (-1), .int 0, .ref a50, .ref a51, .int 0, .int 0, .ref a54, .ref a55, .int (-1), .ref a57, .ref a58, .ref a59, .ref a60, .int 0, .int 0, .int 0, .ref a64]))]) [0] (by decide) rfl
  have hKc := hK.sub (tys' := []) [] rfl
  have hFc := va_free (wc := [(h0, .inr (12, [.int 0, .ref a1, .ref a2, .ref a3, .ref a4, .ref a5, .int 0, .ref a7, .ref a8, .int 0, .ref a10, .ref a11, .ref a12, .ref a13, .int 0, .ref a15, .ref a16, .ref a17, .ref a18, .ref a19, .ref a20, .ref a21, .ref a22, .int 0, .ref a24, .int 0, .ref a26, .ref a27, .int 0, .ref a29, .ref a30, .ref a31, .ref a32, .ref a33, .int 0, .ref a35, .ref a36, .int 0, .ref a38, .int 0, .int 0, .int 0, .int 0, .int 0, .long 0, .int 0, .int 0, .int (-1), .int (-1), .int 0, .ref a50, .ref a51, .int 0, .int 0, .ref a54, .ref a55, .int (-1), .ref a57, .ref a58, .ref a59, .ref a60, .int 0, .int 0, .int 0, .ref a64]))]) hD hS hA [0] rfl
  refine va_calli (va_runV (As := [.int v1]) (rest := []) ⟨hx, hb, hml, hown, hts⟩ (m_isLens l dC dI H.size h0 v1 a1 a2 a3 a4 a5 a7 a8 a10 a11 a12 a13 a15 a16 a17 a18 a19 a20 a21 a22 a24 a26 a27 a29 a30 a31 a32 a33 a35 a36 a38 a50 a51 a54 a55 a57 a58 a59 a60 a64) (cwV 1 hts gm_create_520 rfl rfl rfl (by decide +kernel) ⟨Nat.le_of_ble_eq_true rfl, Nat.le_of_ble_eq_true rfl⟩) ⟨fun a U g mk q => by obtain ⟨q0, q1, qP, qK, qD⟩ := q; exact ⟨q0, q1, qP, va_K.moved (u := U) (U := U.calling g mk a) (Vm.Alike.refl U.vm) qK, qD⟩, va_recv hK hP (ci := 12) (q0 := 0) rfl rfl, fun U hU hW => ⟨rfl, by rw [hU], by rw [hU]; exact hPc, va_K.moved hW.alike hKc, hDc.weaken (fun _ _ _ _ => trivial)⟩⟩ rfl rfl hl.1 rfl (lv_room (Nat.le_of_ble_eq_true rfl)) dX12_create_7 ⟨Nat.le_of_ble_eq_true rfl, Nat.le_of_ble_eq_true rfl⟩) hS (fun q _ h => hFc q h) hFc (fun r_2 u t H1 locs ht hvm hw hB hz1 hk1 hS => ?_)
  obtain ⟨hP1, hK1, hD1⟩ := hB
  rw [ht] at hP1
  try dsimp only at hw
  obtain ⟨hP, hD⟩ := va_join (wr := []) (w1 := [(h0, .inr (12, [.int 0, .ref a1, .ref a2, .ref a3, .ref a4, .ref a5, .int 0, .ref a7, .ref a8, .int 0, .ref a10, .ref a11, .ref a12, .ref a13, .int 0, .ref a15, .ref a16, .ref a17, .ref a18, .ref a19, .ref a20, .ref a21, .ref a22, .int 0, .ref a24, .int 0, .ref a26, .ref a27, .int 0, .ref a29, .ref a30, .ref a31, .ref a32, .ref a33, .int 0, .ref a35, .ref a36, .int 0, .ref a38, .int 0, .int 0, .int 0, .int 0, .int 0, .long 0, .int 0, .int 0, .int (-1), .int (-1), .int 0, .ref a50, .ref a51, .int 0, .int 0, .ref a54, .ref a55, .int (-1), .ref a57, .ref a58, .ref a59, .ref a60, .int 0, .int 0, .int 0, .ref a64]))]) hP hD [0] [] rfl rfl (by decide) (by decide) hk1 hFc hP1 hD1
  clear hk1 hz1 hPc hDc hFc hP1 hD1 hK1 hKc
  generalize H1 = H at hP hS ⊢
  have hP : va_P (dC, dI) cls [(h0, .inr (12, [.int 0, .ref a1, .ref a2, .ref a3, .ref a4, .ref a5, .int 0, .ref a7, .ref a8, .int 0, .ref a10, .ref a11, .ref a12, .ref a13, .int 0, .ref a15, .ref a16, .ref a17, .ref a18, .ref a19, .ref a20, .ref a21, .ref a22, .int 0, .ref a24, .int 0, .ref a26, .ref a27, .int 0, .ref a29, .ref a30, .ref a31, .ref a32, .ref a33, .int 0, .ref a35, .ref a36, .int 0, .ref a38, .int 0, .int 0, .int 0, .int 0, .int 0, .long 0, .int 0, .int 0, .int (-1), .int (-1), .int 0, .ref a50, .ref a51, .int 0, .int 0, .ref a54, .ref a55, .int (-1), .ref a57, .ref a58, .ref a59, .ref a60, .int 0, .int 0, .int 0, .ref a64]))] H := hP
  have hD : va_D A [(h0, .inr (12, [.int 0, .ref a1, .ref a2, .ref a3, .ref a4, .ref a5, .int 0, .ref a7, .ref a8, .int 0, .ref a10, .ref a11, .ref a12, .ref a13, .int 0, .ref a15, .ref a16, .ref a17, .ref a18, .ref a19, .ref a20, .ref a21, .ref a22, .int 0, .ref a24, .int 0, .ref a26, .ref a27, .int 0, .ref a29, .ref a30, .ref a31, .ref a32, .ref a33, .int 0, .ref a35, .ref a36, .int 0, .ref a38, .int 0, .int 0, .int 0, .int 0, .int 0, .long 0, .int 0, .int 0, .int (-1), .int (-1), .int 0, .ref a50, .ref a51, .int 0, .int 0, .ref a54, .ref a55, .int (-1), .ref a57, .ref a58, .ref a59, .ref a60, .int 0, .int 0, .int 0, .ref a64]))] := hD
  obtain rfl := hw
  refine lv_if_eq (tgt := 29) hx hb dX12_create_10 (by decide) (fun c_3 => ?_) (fun c_3 => ?_)
  rotate_left
  · exact absurd (by decide) c_3
  refine lv_iconst (v := (-1)) hx hb dX12_create_29 (by decide) ?_
  have hP9 := hP.sub (ws' := []) [] rfl
  have hD9 := hD.sub (ws' := []) [] (by decide) rfl
  exact W.iret (v := (-1)) hx hb hr (fun t ht hW => ⟨⟨(-1), (), rfl, rfl, by rw [ht]; exact hP9, va_K.moved hW.alike hK, hD9⟩, hS.F ht⟩) hS.2.2 dX12_create_30
def wm_nth : List Cond := .code yX12_nth cX12_nth 5 (some .int) :: ([.fieldLink RX12 142 "PutBackModel" "told" "I", .methodLink RX12 520 yX12_isLens, .instanceMethod yX12_isLens, .selects RX12 yX12_isLens yX12_isLens, .initialized RX12, .code yX12_isLens cX12_isLens 2 (some .boolean), .fieldLink RX12 506 "PutBackModel" "lenses" "I", .methodLink RX12 153 yX12_isIn, .instanceMethod yX12_isIn, .selects RX12 yX12_isIn yX12_isIn, .code yX12_isIn cX12_isIn 7 (some .boolean)] ++ wsX120)
theorem im_nth_RX12 : ∀ w ∈ u_ws RX12 TX12 65, w ∈ wm_nth := fun w h => List.mem_cons_of_mem _ (List.mem_append_right _ h)
theorem gm_nth_520g : GoodIn wm_nth wm_isLens := goodIn_r _ [6, 7, 8, 9, 10, 5, 11, 12, 13, 14, 15, 16, 17, 18, 19, 20, 21, 22, 23, 24, 25, 26, 27, 28, 29, 30, 31, 32, 33, 34, 35, 36, 37, 38, 39, 40, 41, 42, 43, 44, 45, 46, 47, 48, 49, 50, 51, 52, 53, 54, 55, 56, 57, 58, 59, 60, 61, 62, 63, 64, 65, 66, 67, 68, 69, 70, 71, 72, 73, 74, 75, 76] (by decide +kernel) (by decide +kernel)
theorem gm_nth_520 : GoodIn wm_nth (wsV RX12 520 RX12 yX12_isLens wm_isLens) := goodIn_app (goodIn_of _ (by decide +kernel)) gm_nth_520g
set_option maxHeartbeats 4000000 in
set_option maxRecDepth 100000 in
theorem m_nth (l : Launch) (dC : Nat → ClassId) (dI : Nat → Nat → Nat) (sz : Nat) (h0 : Nat) (v1 : Int32) (v2 : Int32) (v3 : Int32) (v4 : Int32) (a1 : Nat) (a2 : Nat) (a3 : Nat) (a4 : Nat) (a5 : Nat) (a7 : Nat) (a8 : Nat) (a10 : Nat) (a11 : Nat) (a12 : Nat) (a13 : Nat) (a15 : Nat) (a16 : Nat) (a17 : Nat) (a18 : Nat) (a19 : Nat) (a20 : Nat) (a21 : Nat) (a22 : Nat) (a24 : Nat) (a26 : Nat) (a27 : Nat) (a29 : Nat) (a30 : Nat) (a31 : Nat) (a32 : Nat) (a33 : Nat) (a35 : Nat) (a36 : Nat) (a38 : Nat) (a50 : Nat) (a51 : Nat) (a54 : Nat) (a55 : Nat) (a57 : Nat) (a58 : Nat) (a59 : Nat) (a60 : Nat) (a64 : Nat) : Met l yX12_nth wm_nth ({ frames := 2, cells := 0, slots := 0, locals := 47 } : Room) (va_Pc [.ref h0, .int v1, .int v2, .int v3, .int v4] (fun U => U.heap.size = sz ∧ va_P (dC, dI) cls [(h0, .inr (12, [.int 0, .ref a1, .ref a2, .ref a3, .ref a4, .ref a5, .int 0, .ref a7, .ref a8, .int 0, .ref a10, .ref a11, .ref a12, .ref a13, .int 0, .ref a15, .ref a16, .ref a17, .ref a18, .ref a19, .ref a20, .ref a21, .ref a22, .int 0, .ref a24, .int 0, .ref a26, .ref a27, .int 0, .ref a29, .ref a30, .ref a31, .ref a32, .ref a33, .int 0, .ref a35, .ref a36, .int 0, .ref a38, .int 0, .int 0, .int 0, .int 0, .int 0, .long 0, .int 0, .int 0, .int (-1), .int (-1), .int 0, .ref a50, .ref a51, .int 0, .int 0, .ref a54, .ref a55, .int (-1), .ref a57, .ref a58, .ref a59, .ref a60, .int 0, .int 0, .int 0, .ref a64]))] U.heap ∧ va_K (dC, dI) cls [] U ∧ va_D (fun _ => True) [(h0, .inr (12, [.int 0, .ref a1, .ref a2, .ref a3, .ref a4, .ref a5, .int 0, .ref a7, .ref a8, .int 0, .ref a10, .ref a11, .ref a12, .ref a13, .int 0, .ref a15, .ref a16, .ref a17, .ref a18, .ref a19, .ref a20, .ref a21, .ref a22, .int 0, .ref a24, .int 0, .ref a26, .ref a27, .int 0, .ref a29, .ref a30, .ref a31, .ref a32, .ref a33, .int 0, .ref a35, .ref a36, .int 0, .ref a38, .int 0, .int 0, .int 0, .int 0, .int 0, .long 0, .int 0, .int 0, .int (-1), .int (-1), .int 0, .ref a50, .ref a51, .int 0, .int 0, .ref a54, .ref a55, .int (-1), .ref a57, .ref a58, .ref a59, .ref a60, .int 0, .int 0, .int 0, .ref a64]))])) (va_Qi (fun (r : Int32) (_ : Unit) => r = -1) (fun (_ : Unit) t => va_P (dC, dI) cls [] t.heap ∧ va_K (dC, dI) cls [] t ∧ va_D (va_A [(h0, .inr (12, [.int 0, .ref a1, .ref a2, .ref a3, .ref a4, .ref a5, .int 0, .ref a7, .ref a8, .int 0, .ref a10, .ref a11, .ref a12, .ref a13, .int 0, .ref a15, .ref a16, .ref a17, .ref a18, .ref a19, .ref a20, .ref a21, .ref a22, .int 0, .ref a24, .int 0, .ref a26, .ref a27, .int 0, .ref a29, .ref a30, .ref a31, .ref a32, .ref a33, .int 0, .ref a35, .ref a36, .int 0, .ref a38, .int 0, .int 0, .int 0, .int 0, .int 0, .long 0, .int 0, .int 0, .int (-1), .int (-1), .int 0, .ref a50, .ref a51, .int 0, .int 0, .ref a54, .ref a55, .int (-1), .ref a57, .ref a58, .ref a59, .ref a60, .int 0, .int 0, .int 0, .ref a64]))] sz) []) (va_A [(h0, .inr (12, [.int 0, .ref a1, .ref a2, .ref a3, .ref a4, .ref a5, .int 0, .ref a7, .ref a8, .int 0, .ref a10, .ref a11, .ref a12, .ref a13, .int 0, .ref a15, .ref a16, .ref a17, .ref a18, .ref a19, .ref a20, .ref a21, .ref a22, .int 0, .ref a24, .int 0, .ref a26, .ref a27, .int 0, .ref a29, .ref a30, .ref a31, .ref a32, .ref a33, .int 0, .ref a35, .ref a36, .int 0, .ref a38, .int 0, .int 0, .int 0, .int 0, .int 0, .long 0, .int 0, .int 0, .int (-1), .int (-1), .int 0, .ref a50, .ref a51, .int 0, .int 0, .ref a54, .ref a55, .int (-1), .ref a57, .ref a58, .ref a59, .ref a60, .int 0, .int 0, .int 0, .ref a64]))] sz)) 0 0 (va_A [(h0, .inr (12, [.int 0, .ref a1, .ref a2, .ref a3, .ref a4, .ref a5, .int 0, .ref a7, .ref a8, .int 0, .ref a10, .ref a11, .ref a12, .ref a13, .int 0, .ref a15, .ref a16, .ref a17, .ref a18, .ref a19, .ref a20, .ref a21, .ref a22, .int 0, .ref a24, .int 0, .ref a26, .ref a27, .int 0, .ref a29, .ref a30, .ref a31, .ref a32, .ref a33, .int 0, .ref a35, .ref a36, .int 0, .ref a38, .int 0, .int 0, .int 0, .int 0, .int 0, .long 0, .int 0, .int 0, .int (-1), .int (-1), .int 0, .ref a50, .ref a51, .int 0, .int 0, .ref a54, .ref a55, .int (-1), .ref a57, .ref a58, .ref a59, .ref a60, .int 0, .int 0, .int 0, .ref a64]))] sz) := by
  refine Met.ofW (cc := cX12_nth) (maxL := 5) (ret := (some .int)) (by decide) rfl ?_
  intro p e s m args below meth c s₁ B hml hv
  obtain ⟨rfl, hsz, hP, hK, hD0⟩ := hv
  have hx := B.exec
  have hb := B.bytes
  have hr := B.returns
  have hts := atoms_spec (ws := wm_nth) B.pre
  have hown : s.vm.findClass RX12 = some m.cls := findClass_of_methodNamed B.named
  have hlocks := B.notSynchronized
  subst hsz
  have hD := hD0.self (sz := s.heap.size)
  generalize hAe : va_A [(h0, .inr (12, [.int 0, .ref a1, .ref a2, .ref a3, .ref a4, .ref a5, .int 0, .ref a7, .ref a8, .int 0, .ref a10, .ref a11, .ref a12, .ref a13, .int 0, .ref a15, .ref a16, .ref a17, .ref a18, .ref a19, .ref a20, .ref a21, .ref a22, .int 0, .ref a24, .int 0, .ref a26, .ref a27, .int 0, .ref a29, .ref a30, .ref a31, .ref a32, .ref a33, .int 0, .ref a35, .ref a36, .int 0, .ref a38, .int 0, .int 0, .int 0, .int 0, .int 0, .long 0, .int 0, .int 0, .int (-1), .int (-1), .int 0, .ref a50, .ref a51, .int 0, .int 0, .ref a54, .ref a55, .int (-1), .ref a57, .ref a58, .ref a59, .ref a60, .int 0, .int 0, .int 0, .ref a64]))] s.heap.size = A at hD ⊢
  have hA : ∀ q : Nat, s.heap.size ≤ q → A q := fun q h => by rw [← hAe]; exact Or.inr h
  have hP : va_P (dC, dI) cls [(h0, .inr (12, [.int 0, .ref a1, .ref a2, .ref a3, .ref a4, .ref a5, .int 0, .ref a7, .ref a8, .int 0, .ref a10, .ref a11, .ref a12, .ref a13, .int 0, .ref a15, .ref a16, .ref a17, .ref a18, .ref a19, .ref a20, .ref a21, .ref a22, .int 0, .ref a24, .int 0, .ref a26, .ref a27, .int 0, .ref a29, .ref a30, .ref a31, .ref a32, .ref a33, .int 0, .ref a35, .ref a36, .int 0, .ref a38, .int 0, .int 0, .int 0, .int 0, .int 0, .long 0, .int 0, .int 0, .int (-1), .int (-1), .int 0, .ref a50, .ref a51, .int 0, .int 0, .ref a54, .ref a55, .int (-1), .ref a57, .ref a58, .ref a59, .ref a60, .int 0, .int 0, .int 0, .ref a64]))] s.heap := hP
  have hl := lv_entry ([.ref h0, .int v1, .int v2, .int v3, .int v4]) (n := 5) (Nat.le_of_ble_eq_true rfl)
  rw [lg_entry_eq]
  generalize (lg_sl ([.ref h0, .int v1, .int v2, .int v3, .int v4]) ++ List.replicate (5 - (lg_sl ([.ref h0, .int v1, .int v2, .int v3, .int v4])).length) Slot.unset).toArray = ls at hl ⊢
  have hl : lv_has ls 5 [(0, .ref h0), (1, .int v1), (2, .int v2), (3, .int v3), (4, .int v4)] := hl
  obtain ⟨H, hH⟩ : ∃ H : Heap, s.heap = H := ⟨_, rfl⟩
  rw [hH] at hP ⊢
  have hS : va_S A s.heap H [] := by rw [← hH]; exact va_S.rf
  refine lv_aload_n hx hb dX12_nth_0 rfl (lv_at hl 0 rfl) ?_
  refine lv_iconst (v := 0) hx hb dX12_nth_1 (by decide) ?_
  refine va_put (D := (dC, dI)) (ci := 12) (v := .int 0) (ty := .int) (C := RX12) (T := TX12) (N := 65) hx hb hts im_nth_RX12 tyX12 tyX12_ok nmX12 hown hK hP hD hS 0 rfl rfl 0 (by decide) (hts (.fieldLink RX12 142 "PutBackModel" "told" "I") (by decide +kernel)) (fun _ h9 => h9) rfl (by decide +kernel) rfl rfl (Nat.le_of_ble_eq_true rfl) dX12_nth_2 (fun H locs hP hD hS => ?_)
  have hP : va_P (dC, dI) cls [(h0, .inr (12, [.int 0, .ref a1, .ref a2, .ref a3, .ref a4, .ref a5, .int 0, .ref a7, .ref a8, .int 0, .ref a10, .ref a11, .ref a12, .ref a13, .int 0, .ref a15, .ref a16, .ref a17, .ref a18, .ref a19, .ref a20, .ref a21, .ref a22, .int 0, .ref a24, .int 0, .ref a26, .ref a27, .int 0, .ref a29, .ref a30, .ref a31, .ref a32, .ref a33, .int 0, .ref a35, .ref a36, .int 0, .ref a38, .int 0, .int 0, .int 0, .int 0, .int 0, .long 0, .int 0, .int 0, .int (-1), .int (-1), .int 0, .ref a50, .ref a51, .int 0, .int 0, .ref a54, .ref a55, .int (-1), .ref a57, .ref a58, .ref a59, .ref a60, .int 0, .int 0, .int 0, .ref a64]))] H := hP
  have hD : va_D A [(h0, .inr (12, [.int 0, .ref a1, .ref a2, .ref a3, .ref a4, .ref a5, .int 0, .ref a7, .ref a8, .int 0, .ref a10, .ref a11, .ref a12, .ref a13, .int 0, .ref a15, .ref a16, .ref a17, .ref a18, .ref a19, .ref a20, .ref a21, .ref a22, .int 0, .ref a24, .int 0, .ref a26, .ref a27, .int 0, .ref a29, .ref a30, .ref a31, .ref a32, .ref a33, .int 0, .ref a35, .ref a36, .int 0, .ref a38, .int 0, .int 0, .int 0, .int 0, .int 0, .long 0, .int 0, .int 0, .int (-1), .int (-1), .int 0, .ref a50, .ref a51, .int 0, .int 0, .ref a54, .ref a55, .int (-1), .ref a57, .ref a58, .ref a59, .ref a60, .int 0, .int 0, .int 0, .ref a64]))] := hD
  refine lv_aload_n hx hb dX12_nth_5 rfl (lv_at hl 0 rfl) ?_
  refine lv_iload_n hx hb dX12_nth_6 rfl (lv_at hl 1 rfl) ?_
  have hPc := hP.sub (ws' := [(h0, .inr (12, [.int 0, .ref a1, .ref a2, .ref a3, .ref a4, .ref a5, .int 0, .ref a7, .ref a8, .int 0, .ref a10, .ref a11, .ref a12, .ref a13, .int 0, .ref a15, .ref a16, .ref a17, .ref a18, .ref a19, .ref a20, .ref a21, .ref a22, .int 0, .ref a24, .int 0, .ref a26, .ref a27, .int 0, .ref a29, .ref a30, .ref a31, .ref a32, .ref a33, .int 0, .ref a35, .ref a36, .int 0, .ref a38, .int 0, .int 0, .int 0, .int 0, .int 0, .long 0, .int 0, .int 0, .int (-1), .int (-1), .int 0, .ref a50, .ref a51, .int 0, .int 0, .ref a54, .ref a55, .int (-1), .ref a57, .ref a58, .ref a59, .ref a60, .int 0, .int 0, .int 0, .ref a64]))]) [0] rfl
  have hDc := hD.sub (ws' := [(h0, .inr (12, [.int 0, .ref a1, .ref a2, .ref a3, .ref a4, .ref a5, .int 0, .ref a7, .ref a8, .int 0, .ref a10, .ref a11, .ref a12, .ref a13, .int 0, .ref a15, .ref a16, .ref a17, .ref a18, .ref a19, .ref a20, .ref a21, .ref a22, .int 0, .ref a24, .int 0, .ref a26, .ref a27, .int 0, .ref a29, .ref a30, .ref a31, .ref a32, .ref a33, .int 0, .ref a35, .ref a36, .int 0, .ref a38, .int 0, .int 0, .int 0, .int 0, .int 0, .long 0, .int 0, .int 0, .int (-1), .int (-1), .int 0, .ref a50, .ref a51, .int 0, .int 0, .ref a54, .ref a55, .int (-1), .ref a57, .ref a58, .ref a59, .ref a60, .int 0, .int 0, .int 0, .ref a64]))]) [0] (by decide) rfl
  have hKc := hK.sub (tys' := []) [] rfl
  have hFc := va_free (wc := [(h0, .inr (12, [.int 0, .ref a1, .ref a2, .ref a3, .ref a4, .ref a5, .int 0, .ref a7, .ref a8, .int 0, .ref a10, .ref a11, .ref a12, .ref a13, .int 0, .ref a15, .ref a16, .ref a17, .ref a18, .ref a19, .ref a20, .ref a21, .ref a22, .int 0, .ref a24, .int 0, .ref a26, .ref a27, .int 0, .ref a29, .ref a30, .ref a31, .ref a32, .ref a33, .int 0, .ref a35, .ref a36, .int 0, .ref a38, .int 0, .int 0, .int 0, .int 0, .int 0, .long 0, .int 0, .int 0, .int (-1), .int (-1), .int 0, .ref a50, .ref a51, .int 0, .int 0, .ref a54, .ref a55, .int (-1), .ref a57, .ref a58, .ref a59, .ref a60, .int 0, .int 0, .int 0, .ref a64]))]) hD hS hA [0] rfl
  refine va_calli (va_runV (As := [.int v1]) (rest := []) ⟨hx, hb, hml, hown, hts⟩ (m_isLens l dC dI H.size h0 v1 a1 a2 a3 a4 a5 a7 a8 a10 a11 a12 a13 a15 a16 a17 a18 a19 a20 a21 a22 a24 a26 a27 a29 a30 a31 a32 a33 a35 a36 a38 a50 a51 a54 a55 a57 a58 a59 a60 a64) (cwV 1 hts gm_nth_520 rfl rfl rfl (by decide +kernel) ⟨Nat.le_of_ble_eq_true rfl, Nat.le_of_ble_eq_true rfl⟩) ⟨fun a U g mk q => by obtain ⟨q0, q1, qP, qK, qD⟩ := q; exact ⟨q0, q1, qP, va_K.moved (u := U) (U := U.calling g mk a) (Vm.Alike.refl U.vm) qK, qD⟩, va_recv hK hP (ci := 12) (q0 := 0) rfl rfl, fun U hU hW => ⟨rfl, by rw [hU], by rw [hU]; exact hPc, va_K.moved hW.alike hKc, hDc.weaken (fun _ _ _ _ => trivial)⟩⟩ rfl rfl hl.1 rfl (lv_room (Nat.le_of_ble_eq_true rfl)) dX12_nth_7 ⟨Nat.le_of_ble_eq_true rfl, Nat.le_of_ble_eq_true rfl⟩) hS (fun q _ h => hFc q h) hFc (fun r_2 u t H1 locs ht hvm hw hB hz1 hk1 hS => ?_)
  obtain ⟨hP1, hK1, hD1⟩ := hB
  rw [ht] at hP1
  try dsimp only at hw
  obtain ⟨hP, hD⟩ := va_join (wr := []) (w1 := [(h0, .inr (12, [.int 0, .ref a1, .ref a2, .ref a3, .ref a4, .ref a5, .int 0, .ref a7, .ref a8, .int 0, .ref a10, .ref a11, .ref a12, .ref a13, .int 0, .ref a15, .ref a16, .ref a17, .ref a18, .ref a19, .ref a20, .ref a21, .ref a22, .int 0, .ref a24, .int 0, .ref a26, .ref a27, .int 0, .ref a29, .ref a30, .ref a31, .ref a32, .ref a33, .int 0, .ref a35, .ref a36, .int 0, .ref a38, .int 0, .int 0, .int 0, .int 0, .int 0, .long 0, .int 0, .int 0, .int (-1), .int (-1), .int 0, .ref a50, .ref a51, .int 0, .int 0, .ref a54, .ref a55, .int (-1), .ref a57, .ref a58, .ref a59, .ref a60, .int 0, .int 0, .int 0, .ref a64]))]) hP hD [0] [] rfl rfl (by decide) (by decide) hk1 hFc hP1 hD1
  clear hk1 hz1 hPc hDc hFc hP1 hD1 hK1 hKc
  generalize H1 = H at hP hS ⊢
  have hP : va_P (dC, dI) cls [(h0, .inr (12, [.int 0, .ref a1, .ref a2, .ref a3, .ref a4, .ref a5, .int 0, .ref a7, .ref a8, .int 0, .ref a10, .ref a11, .ref a12, .ref a13, .int 0, .ref a15, .ref a16, .ref a17, .ref a18, .ref a19, .ref a20, .ref a21, .ref a22, .int 0, .ref a24, .int 0, .ref a26, .ref a27, .int 0, .ref a29, .ref a30, .ref a31, .ref a32, .ref a33, .int 0, .ref a35, .ref a36, .int 0, .ref a38, .int 0, .int 0, .int 0, .int 0, .int 0, .long 0, .int 0, .int 0, .int (-1), .int (-1), .int 0, .ref a50, .ref a51, .int 0, .int 0, .ref a54, .ref a55, .int (-1), .ref a57, .ref a58, .ref a59, .ref a60, .int 0, .int 0, .int 0, .ref a64]))] H := hP
  have hD : va_D A [(h0, .inr (12, [.int 0, .ref a1, .ref a2, .ref a3, .ref a4, .ref a5, .int 0, .ref a7, .ref a8, .int 0, .ref a10, .ref a11, .ref a12, .ref a13, .int 0, .ref a15, .ref a16, .ref a17, .ref a18, .ref a19, .ref a20, .ref a21, .ref a22, .int 0, .ref a24, .int 0, .ref a26, .ref a27, .int 0, .ref a29, .ref a30, .ref a31, .ref a32, .ref a33, .int 0, .ref a35, .ref a36, .int 0, .ref a38, .int 0, .int 0, .int 0, .int 0, .int 0, .long 0, .int 0, .int 0, .int (-1), .int (-1), .int 0, .ref a50, .ref a51, .int 0, .int 0, .ref a54, .ref a55, .int (-1), .ref a57, .ref a58, .ref a59, .ref a60, .int 0, .int 0, .int 0, .ref a64]))] := hD
  obtain rfl := hw
  refine lv_if_eq (tgt := 43) hx hb dX12_nth_10 (by decide) (fun c_3 => ?_) (fun c_3 => ?_)
  rotate_left
  · exact absurd (by decide) c_3
  refine lv_iconst (v := (-1)) hx hb dX12_nth_43 (by decide) ?_
  have hP9 := hP.sub (ws' := []) [] rfl
  have hD9 := hD.sub (ws' := []) [] (by decide) rfl
  exact W.iret (v := (-1)) hx hb hr (fun t ht hW => ⟨⟨(-1), (), rfl, rfl, by rw [ht]; exact hP9, va_K.moved hW.alike hK, hD9⟩, hS.F ht⟩) hS.2.2 dX12_nth_44
def wm_compare : List Cond := .code yX12_compare cX12_compare 5 (some .int) :: ([.fieldLink RX12 142 "PutBackModel" "told" "I", .methodLink RX12 520 yX12_isLens, .instanceMethod yX12_isLens, .selects RX12 yX12_isLens yX12_isLens, .initialized RX12, .code yX12_isLens cX12_isLens 2 (some .boolean), .fieldLink RX12 506 "PutBackModel" "lenses" "I", .methodLink RX12 153 yX12_isIn, .instanceMethod yX12_isIn, .selects RX12 yX12_isIn yX12_isIn, .code yX12_isIn cX12_isIn 7 (some .boolean)] ++ wsX120)
theorem im_compare_RX12 : ∀ w ∈ u_ws RX12 TX12 65, w ∈ wm_compare := fun w h => List.mem_cons_of_mem _ (List.mem_append_right _ h)
theorem gm_compare_520g : GoodIn wm_compare wm_isLens := goodIn_r _ [6, 7, 8, 9, 10, 5, 11, 12, 13, 14, 15, 16, 17, 18, 19, 20, 21, 22, 23, 24, 25, 26, 27, 28, 29, 30, 31, 32, 33, 34, 35, 36, 37, 38, 39, 40, 41, 42, 43, 44, 45, 46, 47, 48, 49, 50, 51, 52, 53, 54, 55, 56, 57, 58, 59, 60, 61, 62, 63, 64, 65, 66, 67, 68, 69, 70, 71, 72, 73, 74, 75, 76] (by decide +kernel) (by decide +kernel)
theorem gm_compare_520 : GoodIn wm_compare (wsV RX12 520 RX12 yX12_isLens wm_isLens) := goodIn_app (goodIn_of _ (by decide +kernel)) gm_compare_520g
set_option maxHeartbeats 4000000 in
set_option maxRecDepth 100000 in
theorem m_compare (l : Launch) (dC : Nat → ClassId) (dI : Nat → Nat → Nat) (sz : Nat) (h0 : Nat) (v1 : Int32) (v2 : Int32) (v3 : Int32) (v4 : Int32) (a1 : Nat) (a2 : Nat) (a3 : Nat) (a4 : Nat) (a5 : Nat) (a7 : Nat) (a8 : Nat) (a10 : Nat) (a11 : Nat) (a12 : Nat) (a13 : Nat) (a15 : Nat) (a16 : Nat) (a17 : Nat) (a18 : Nat) (a19 : Nat) (a20 : Nat) (a21 : Nat) (a22 : Nat) (a24 : Nat) (a26 : Nat) (a27 : Nat) (a29 : Nat) (a30 : Nat) (a31 : Nat) (a32 : Nat) (a33 : Nat) (a35 : Nat) (a36 : Nat) (a38 : Nat) (a50 : Nat) (a51 : Nat) (a54 : Nat) (a55 : Nat) (a57 : Nat) (a58 : Nat) (a59 : Nat) (a60 : Nat) (a64 : Nat) : Met l yX12_compare wm_compare ({ frames := 2, cells := 0, slots := 0, locals := 47 } : Room) (va_Pc [.ref h0, .int v1, .int v2, .int v3, .int v4] (fun U => U.heap.size = sz ∧ va_P (dC, dI) cls [(h0, .inr (12, [.int 0, .ref a1, .ref a2, .ref a3, .ref a4, .ref a5, .int 0, .ref a7, .ref a8, .int 0, .ref a10, .ref a11, .ref a12, .ref a13, .int 0, .ref a15, .ref a16, .ref a17, .ref a18, .ref a19, .ref a20, .ref a21, .ref a22, .int 0, .ref a24, .int 0, .ref a26, .ref a27, .int 0, .ref a29, .ref a30, .ref a31, .ref a32, .ref a33, .int 0, .ref a35, .ref a36, .int 0, .ref a38, .int 0, .int 0, .int 0, .int 0, .int 0, .long 0, .int 0, .int 0, .int (-1), .int (-1), .int 0, .ref a50, .ref a51, .int 0, .int 0, .ref a54, .ref a55, .int (-1), .ref a57, .ref a58, .ref a59, .ref a60, .int 0, .int 0, .int 0, .ref a64]))] U.heap ∧ va_K (dC, dI) cls [] U ∧ va_D (fun _ => True) [(h0, .inr (12, [.int 0, .ref a1, .ref a2, .ref a3, .ref a4, .ref a5, .int 0, .ref a7, .ref a8, .int 0, .ref a10, .ref a11, .ref a12, .ref a13, .int 0, .ref a15, .ref a16, .ref a17, .ref a18, .ref a19, .ref a20, .ref a21, .ref a22, .int 0, .ref a24, .int 0, .ref a26, .ref a27, .int 0, .ref a29, .ref a30, .ref a31, .ref a32, .ref a33, .int 0, .ref a35, .ref a36, .int 0, .ref a38, .int 0, .int 0, .int 0, .int 0, .int 0, .long 0, .int 0, .int 0, .int (-1), .int (-1), .int 0, .ref a50, .ref a51, .int 0, .int 0, .ref a54, .ref a55, .int (-1), .ref a57, .ref a58, .ref a59, .ref a60, .int 0, .int 0, .int 0, .ref a64]))])) (va_Qi (fun (r : Int32) (_ : Unit) => r = -1) (fun (_ : Unit) t => va_P (dC, dI) cls [] t.heap ∧ va_K (dC, dI) cls [] t ∧ va_D (va_A [(h0, .inr (12, [.int 0, .ref a1, .ref a2, .ref a3, .ref a4, .ref a5, .int 0, .ref a7, .ref a8, .int 0, .ref a10, .ref a11, .ref a12, .ref a13, .int 0, .ref a15, .ref a16, .ref a17, .ref a18, .ref a19, .ref a20, .ref a21, .ref a22, .int 0, .ref a24, .int 0, .ref a26, .ref a27, .int 0, .ref a29, .ref a30, .ref a31, .ref a32, .ref a33, .int 0, .ref a35, .ref a36, .int 0, .ref a38, .int 0, .int 0, .int 0, .int 0, .int 0, .long 0, .int 0, .int 0, .int (-1), .int (-1), .int 0, .ref a50, .ref a51, .int 0, .int 0, .ref a54, .ref a55, .int (-1), .ref a57, .ref a58, .ref a59, .ref a60, .int 0, .int 0, .int 0, .ref a64]))] sz) []) (va_A [(h0, .inr (12, [.int 0, .ref a1, .ref a2, .ref a3, .ref a4, .ref a5, .int 0, .ref a7, .ref a8, .int 0, .ref a10, .ref a11, .ref a12, .ref a13, .int 0, .ref a15, .ref a16, .ref a17, .ref a18, .ref a19, .ref a20, .ref a21, .ref a22, .int 0, .ref a24, .int 0, .ref a26, .ref a27, .int 0, .ref a29, .ref a30, .ref a31, .ref a32, .ref a33, .int 0, .ref a35, .ref a36, .int 0, .ref a38, .int 0, .int 0, .int 0, .int 0, .int 0, .long 0, .int 0, .int 0, .int (-1), .int (-1), .int 0, .ref a50, .ref a51, .int 0, .int 0, .ref a54, .ref a55, .int (-1), .ref a57, .ref a58, .ref a59, .ref a60, .int 0, .int 0, .int 0, .ref a64]))] sz)) 0 0 (va_A [(h0, .inr (12, [.int 0, .ref a1, .ref a2, .ref a3, .ref a4, .ref a5, .int 0, .ref a7, .ref a8, .int 0, .ref a10, .ref a11, .ref a12, .ref a13, .int 0, .ref a15, .ref a16, .ref a17, .ref a18, .ref a19, .ref a20, .ref a21, .ref a22, .int 0, .ref a24, .int 0, .ref a26, .ref a27, .int 0, .ref a29, .ref a30, .ref a31, .ref a32, .ref a33, .int 0, .ref a35, .ref a36, .int 0, .ref a38, .int 0, .int 0, .int 0, .int 0, .int 0, .long 0, .int 0, .int 0, .int (-1), .int (-1), .int 0, .ref a50, .ref a51, .int 0, .int 0, .ref a54, .ref a55, .int (-1), .ref a57, .ref a58, .ref a59, .ref a60, .int 0, .int 0, .int 0, .ref a64]))] sz) := by
  refine Met.ofW (cc := cX12_compare) (maxL := 5) (ret := (some .int)) (by decide) rfl ?_
  intro p e s m args below meth c s₁ B hml hv
  obtain ⟨rfl, hsz, hP, hK, hD0⟩ := hv
  have hx := B.exec
  have hb := B.bytes
  have hr := B.returns
  have hts := atoms_spec (ws := wm_compare) B.pre
  have hown : s.vm.findClass RX12 = some m.cls := findClass_of_methodNamed B.named
  have hlocks := B.notSynchronized
  subst hsz
  have hD := hD0.self (sz := s.heap.size)
  generalize hAe : va_A [(h0, .inr (12, [.int 0, .ref a1, .ref a2, .ref a3, .ref a4, .ref a5, .int 0, .ref a7, .ref a8, .int 0, .ref a10, .ref a11, .ref a12, .ref a13, .int 0, .ref a15, .ref a16, .ref a17, .ref a18, .ref a19, .ref a20, .ref a21, .ref a22, .int 0, .ref a24, .int 0, .ref a26, .ref a27, .int 0, .ref a29, .ref a30, .ref a31, .ref a32, .ref a33, .int 0, .ref a35, .ref a36, .int 0, .ref a38, .int 0, .int 0, .int 0, .int 0, .int 0, .long 0, .int 0, .int 0, .int (-1), .int (-1), .int 0, .ref a50, .ref a51, .int 0, .int 0, .ref a54, .ref a55, .int (-1), .ref a57, .ref a58, .ref a59, .ref a60, .int 0, .int 0, .int 0, .ref a64]))] s.heap.size = A at hD ⊢
  have hA : ∀ q : Nat, s.heap.size ≤ q → A q := fun q h => by rw [← hAe]; exact Or.inr h
  have hP : va_P (dC, dI) cls [(h0, .inr (12, [.int 0, .ref a1, .ref a2, .ref a3, .ref a4, .ref a5, .int 0, .ref a7, .ref a8, .int 0, .ref a10, .ref a11, .ref a12, .ref a13, .int 0, .ref a15, .ref a16, .ref a17, .ref a18, .ref a19, .ref a20, .ref a21, .ref a22, .int 0, .ref a24, .int 0, .ref a26, .ref a27, .int 0, .ref a29, .ref a30, .ref a31, .ref a32, .ref a33, .int 0, .ref a35, .ref a36, .int 0, .ref a38, .int 0, .int 0, .int 0, .int 0, .int 0, .long 0, .int 0, .int 0, .int (-1), .int (-1), .int 0, .ref a50, .ref a51, .int 0, .int 0, .ref a54, .ref a55, .int (-1), .ref a57, .ref a58, .ref a59, .ref a60, .int 0, .int 0, .int 0, .ref a64]))] s.heap := hP
  have hl := lv_entry ([.ref h0, .int v1, .int v2, .int v3, .int v4]) (n := 5) (Nat.le_of_ble_eq_true rfl)
  rw [lg_entry_eq]
  generalize (lg_sl ([.ref h0, .int v1, .int v2, .int v3, .int v4]) ++ List.replicate (5 - (lg_sl ([.ref h0, .int v1, .int v2, .int v3, .int v4])).length) Slot.unset).toArray = ls at hl ⊢
  have hl : lv_has ls 5 [(0, .ref h0), (1, .int v1), (2, .int v2), (3, .int v3), (4, .int v4)] := hl
  obtain ⟨H, hH⟩ : ∃ H : Heap, s.heap = H := ⟨_, rfl⟩
  rw [hH] at hP ⊢
  have hS : va_S A s.heap H [] := by rw [← hH]; exact va_S.rf
  refine lv_aload_n hx hb dX12_compare_0 rfl (lv_at hl 0 rfl) ?_
  refine lv_iconst (v := 0) hx hb dX12_compare_1 (by decide) ?_
  refine va_put (D := (dC, dI)) (ci := 12) (v := .int 0) (ty := .int) (C := RX12) (T := TX12) (N := 65) hx hb hts im_compare_RX12 tyX12 tyX12_ok nmX12 hown hK hP hD hS 0 rfl rfl 0 (by decide) (hts (.fieldLink RX12 142 "PutBackModel" "told" "I") (by decide +kernel)) (fun _ h9 => h9) rfl (by decide +kernel) rfl rfl (Nat.le_of_ble_eq_true rfl) dX12_compare_2 (fun H locs hP hD hS => ?_)
  have hP : va_P (dC, dI) cls [(h0, .inr (12, [.int 0, .ref a1, .ref a2, .ref a3, .ref a4, .ref a5, .int 0, .ref a7, .ref a8, .int 0, .ref a10, .ref a11, .ref a12, .ref a13, .int 0, .ref a15, .ref a16, .ref a17, .ref a18, .ref a19, .ref a20, .ref a21, .ref a22, .int 0, .ref a24, .int 0, .ref a26, .ref a27, .int 0, .ref a29, .ref a30, .ref a31, .ref a32, .ref a33, .int 0, .ref a35, .ref a36, .int 0, .ref a38, .int 0, .int 0, .int 0, .int 0, .int 0, .long 0, .int 0, .int 0, .int (-1), .int (-1), .int 0, .ref a50, .ref a51, .int 0, .int 0, .ref a54, .ref a55, .int (-1), .ref a57, .ref a58, .ref a59, .ref a60, .int 0, .int 0, .int 0, .ref a64]))] H := hP
  have hD : va_D A [(h0, .inr (12, [.int 0, .ref a1, .ref a2, .ref a3, .ref a4, .ref a5, .int 0, .ref a7, .ref a8, .int 0, .ref a10, .ref a11, .ref a12, .ref a13, .int 0, .ref a15, .ref a16, .ref a17, .ref a18, .ref a19, .ref a20, .ref a21, .ref a22, .int 0, .ref a24, .int 0, .ref a26, .ref a27, .int 0, .ref a29, .ref a30, .ref a31, .ref a32, .ref a33, .int 0, .ref a35, .ref a36, .int 0, .ref a38, .int 0, .int 0, .int 0, .int 0, .int 0, .long 0, .int 0, .int 0, .int (-1), .int (-1), .int 0, .ref a50, .ref a51, .int 0, .int 0, .ref a54, .ref a55, .int (-1), .ref a57, .ref a58, .ref a59, .ref a60, .int 0, .int 0, .int 0, .ref a64]))] := hD
  refine lv_aload_n hx hb dX12_compare_5 rfl (lv_at hl 0 rfl) ?_
  refine lv_iload_n hx hb dX12_compare_6 rfl (lv_at hl 1 rfl) ?_
  have hPc := hP.sub (ws' := [(h0, .inr (12, [.int 0, .ref a1, .ref a2, .ref a3, .ref a4, .ref a5, .int 0, .ref a7, .ref a8, .int 0, .ref a10, .ref a11, .ref a12, .ref a13, .int 0, .ref a15, .ref a16, .ref a17, .ref a18, .ref a19, .ref a20, .ref a21, .ref a22, .int 0, .ref a24, .int 0, .ref a26, .ref a27, .int 0, .ref a29, .ref a30, .ref a31, .ref a32, .ref a33, .int 0, .ref a35, .ref a36, .int 0, .ref a38, .int 0, .int 0, .int 0, .int 0, .int 0, .long 0, .int 0, .int 0, .int (-1), .int (-1), .int 0, .ref a50, .ref a51, .int 0, .int 0, .ref a54, .ref a55, .int (-1), .ref a57, .ref a58, .ref a59, .ref a60, .int 0, .int 0, .int 0, .ref a64]))]) [0] rfl
  have hDc := hD.sub (ws' := [(h0, .inr (12, [.int 0, .ref a1, .ref a2, .ref a3, .ref a4, .ref a5, .int 0, .ref a7, .ref a8, .int 0, .ref a10, .ref a11, .ref a12, .ref a13, .int 0, .ref a15, .ref a16, .ref a17, .ref a18, .ref a19, .ref a20, .ref a21, .ref a22, .int 0, .ref a24, .int 0, .ref a26, .ref a27, .int 0, .ref a29, .ref a30, .ref a31, .ref a32, .ref a33, .int 0, .ref a35, .ref a36, .int 0, .ref a38, .int 0, .int 0, .int 0, .int 0, .int 0, .long 0, .int 0, .int 0, .int (-1), .int (-1), .int 0, .ref a50, .ref a51, .int 0, .int 0, .ref a54, .ref a55, .int (-1), .ref a57, .ref a58, .ref a59, .ref a60, .int 0, .int 0, .int 0, .ref a64]))]) [0] (by decide) rfl
  have hKc := hK.sub (tys' := []) [] rfl
  have hFc := va_free (wc := [(h0, .inr (12, [.int 0, .ref a1, .ref a2, .ref a3, .ref a4, .ref a5, .int 0, .ref a7, .ref a8, .int 0, .ref a10, .ref a11, .ref a12, .ref a13, .int 0, .ref a15, .ref a16, .ref a17, .ref a18, .ref a19, .ref a20, .ref a21, .ref a22, .int 0, .ref a24, .int 0, .ref a26, .ref a27, .int 0, .ref a29, .ref a30, .ref a31, .ref a32, .ref a33, .int 0, .ref a35, .ref a36, .int 0, .ref a38, .int 0, .int 0, .int 0, .int 0, .int 0, .long 0, .int 0, .int 0, .int (-1), .int (-1), .int 0, .ref a50, .ref a51, .int 0, .int 0, .ref a54, .ref a55, .int (-1), .ref a57, .ref a58, .ref a59, .ref a60, .int 0, .int 0, .int 0, .ref a64]))]) hD hS hA [0] rfl
  refine va_calli (va_runV (As := [.int v1]) (rest := []) ⟨hx, hb, hml, hown, hts⟩ (m_isLens l dC dI H.size h0 v1 a1 a2 a3 a4 a5 a7 a8 a10 a11 a12 a13 a15 a16 a17 a18 a19 a20 a21 a22 a24 a26 a27 a29 a30 a31 a32 a33 a35 a36 a38 a50 a51 a54 a55 a57 a58 a59 a60 a64) (cwV 1 hts gm_compare_520 rfl rfl rfl (by decide +kernel) ⟨Nat.le_of_ble_eq_true rfl, Nat.le_of_ble_eq_true rfl⟩) ⟨fun a U g mk q => by obtain ⟨q0, q1, qP, qK, qD⟩ := q; exact ⟨q0, q1, qP, va_K.moved (u := U) (U := U.calling g mk a) (Vm.Alike.refl U.vm) qK, qD⟩, va_recv hK hP (ci := 12) (q0 := 0) rfl rfl, fun U hU hW => ⟨rfl, by rw [hU], by rw [hU]; exact hPc, va_K.moved hW.alike hKc, hDc.weaken (fun _ _ _ _ => trivial)⟩⟩ rfl rfl hl.1 rfl (lv_room (Nat.le_of_ble_eq_true rfl)) dX12_compare_7 ⟨Nat.le_of_ble_eq_true rfl, Nat.le_of_ble_eq_true rfl⟩) hS (fun q _ h => hFc q h) hFc (fun r_2 u t H1 locs ht hvm hw hB hz1 hk1 hS => ?_)
  obtain ⟨hP1, hK1, hD1⟩ := hB
  rw [ht] at hP1
  try dsimp only at hw
  obtain ⟨hP, hD⟩ := va_join (wr := []) (w1 := [(h0, .inr (12, [.int 0, .ref a1, .ref a2, .ref a3, .ref a4, .ref a5, .int 0, .ref a7, .ref a8, .int 0, .ref a10, .ref a11, .ref a12, .ref a13, .int 0, .ref a15, .ref a16, .ref a17, .ref a18, .ref a19, .ref a20, .ref a21, .ref a22, .int 0, .ref a24, .int 0, .ref a26, .ref a27, .int 0, .ref a29, .ref a30, .ref a31, .ref a32, .ref a33, .int 0, .ref a35, .ref a36, .int 0, .ref a38, .int 0, .int 0, .int 0, .int 0, .int 0, .long 0, .int 0, .int 0, .int (-1), .int (-1), .int 0, .ref a50, .ref a51, .int 0, .int 0, .ref a54, .ref a55, .int (-1), .ref a57, .ref a58, .ref a59, .ref a60, .int 0, .int 0, .int 0, .ref a64]))]) hP hD [0] [] rfl rfl (by decide) (by decide) hk1 hFc hP1 hD1
  clear hk1 hz1 hPc hDc hFc hP1 hD1 hK1 hKc
  generalize H1 = H at hP hS ⊢
  have hP : va_P (dC, dI) cls [(h0, .inr (12, [.int 0, .ref a1, .ref a2, .ref a3, .ref a4, .ref a5, .int 0, .ref a7, .ref a8, .int 0, .ref a10, .ref a11, .ref a12, .ref a13, .int 0, .ref a15, .ref a16, .ref a17, .ref a18, .ref a19, .ref a20, .ref a21, .ref a22, .int 0, .ref a24, .int 0, .ref a26, .ref a27, .int 0, .ref a29, .ref a30, .ref a31, .ref a32, .ref a33, .int 0, .ref a35, .ref a36, .int 0, .ref a38, .int 0, .int 0, .int 0, .int 0, .int 0, .long 0, .int 0, .int 0, .int (-1), .int (-1), .int 0, .ref a50, .ref a51, .int 0, .int 0, .ref a54, .ref a55, .int (-1), .ref a57, .ref a58, .ref a59, .ref a60, .int 0, .int 0, .int 0, .ref a64]))] H := hP
  have hD : va_D A [(h0, .inr (12, [.int 0, .ref a1, .ref a2, .ref a3, .ref a4, .ref a5, .int 0, .ref a7, .ref a8, .int 0, .ref a10, .ref a11, .ref a12, .ref a13, .int 0, .ref a15, .ref a16, .ref a17, .ref a18, .ref a19, .ref a20, .ref a21, .ref a22, .int 0, .ref a24, .int 0, .ref a26, .ref a27, .int 0, .ref a29, .ref a30, .ref a31, .ref a32, .ref a33, .int 0, .ref a35, .ref a36, .int 0, .ref a38, .int 0, .int 0, .int 0, .int 0, .int 0, .long 0, .int 0, .int 0, .int (-1), .int (-1), .int 0, .ref a50, .ref a51, .int 0, .int 0, .ref a54, .ref a55, .int (-1), .ref a57, .ref a58, .ref a59, .ref a60, .int 0, .int 0, .int 0, .ref a64]))] := hD
  obtain rfl := hw
  refine lv_if_eq (tgt := 38) hx hb dX12_compare_10 (by decide) (fun c_3 => ?_) (fun c_3 => ?_)
  rotate_left
  · exact absurd (by decide) c_3
  refine lv_iconst (v := (-1)) hx hb dX12_compare_38 (by decide) ?_
  have hP9 := hP.sub (ws' := []) [] rfl
  have hD9 := hD.sub (ws' := []) [] (by decide) rfl
  exact W.iret (v := (-1)) hx hb hr (fun t ht hW => ⟨⟨(-1), (), rfl, rfl, by rw [ht]; exact hP9, va_K.moved hW.alike hK, hD9⟩, hS.F ht⟩) hS.2.2 dX12_compare_39
def wm_set : List Cond := .code yX12_set cX12_set 5 (some .int) :: ([.fieldLink RX12 142 "PutBackModel" "told" "I", .methodLink RX12 520 yX12_isLens, .instanceMethod yX12_isLens, .selects RX12 yX12_isLens yX12_isLens, .initialized RX12, .code yX12_isLens cX12_isLens 2 (some .boolean), .fieldLink RX12 506 "PutBackModel" "lenses" "I", .methodLink RX12 153 yX12_isIn, .instanceMethod yX12_isIn, .selects RX12 yX12_isIn yX12_isIn, .code yX12_isIn cX12_isIn 7 (some .boolean)] ++ wsX120)
theorem im_set_RX12 : ∀ w ∈ u_ws RX12 TX12 65, w ∈ wm_set := fun w h => List.mem_cons_of_mem _ (List.mem_append_right _ h)
theorem gm_set_520g : GoodIn wm_set wm_isLens := goodIn_r _ [6, 7, 8, 9, 10, 5, 11, 12, 13, 14, 15, 16, 17, 18, 19, 20, 21, 22, 23, 24, 25, 26, 27, 28, 29, 30, 31, 32, 33, 34, 35, 36, 37, 38, 39, 40, 41, 42, 43, 44, 45, 46, 47, 48, 49, 50, 51, 52, 53, 54, 55, 56, 57, 58, 59, 60, 61, 62, 63, 64, 65, 66, 67, 68, 69, 70, 71, 72, 73, 74, 75, 76] (by decide +kernel) (by decide +kernel)
theorem gm_set_520 : GoodIn wm_set (wsV RX12 520 RX12 yX12_isLens wm_isLens) := goodIn_app (goodIn_of _ (by decide +kernel)) gm_set_520g
set_option maxHeartbeats 4000000 in
set_option maxRecDepth 100000 in
theorem m_set (l : Launch) (dC : Nat → ClassId) (dI : Nat → Nat → Nat) (sz : Nat) (h0 : Nat) (v1 : Int32) (v2 : Int32) (v3 : Int32) (a1 : Nat) (a2 : Nat) (a3 : Nat) (a4 : Nat) (a5 : Nat) (a7 : Nat) (a8 : Nat) (a10 : Nat) (a11 : Nat) (a12 : Nat) (a13 : Nat) (a15 : Nat) (a16 : Nat) (a17 : Nat) (a18 : Nat) (a19 : Nat) (a20 : Nat) (a21 : Nat) (a22 : Nat) (a24 : Nat) (a26 : Nat) (a27 : Nat) (a29 : Nat) (a30 : Nat) (a31 : Nat) (a32 : Nat) (a33 : Nat) (a35 : Nat) (a36 : Nat) (a38 : Nat) (a50 : Nat) (a51 : Nat) (a54 : Nat) (a55 : Nat) (a57 : Nat) (a58 : Nat) (a59 : Nat) (a60 : Nat) (a64 : Nat) : Met l yX12_set wm_set ({ frames := 2, cells := 0, slots := 0, locals := 47 } : Room) (va_Pc [.ref h0, .int v1, .int v2, .int v3] (fun U => U.heap.size = sz ∧ va_P (dC, dI) cls [(h0, .inr (12, [.int 0, .ref a1, .ref a2, .ref a3, .ref a4, .ref a5, .int 0, .ref a7, .ref a8, .int 0, .ref a10, .ref a11, .ref a12, .ref a13, .int 0, .ref a15, .ref a16, .ref a17, .ref a18, .ref a19, .ref a20, .ref a21, .ref a22, .int 0, .ref a24, .int 0, .ref a26, .ref a27, .int 0, .ref a29, .ref a30, .ref a31, .ref a32, .ref a33, .int 0, .ref a35, .ref a36, .int 0, .ref a38, .int 0, .int 0, .int 0, .int 0, .int 0, .long 0, .int 0, .int 0, .int (-1), .int (-1), .int 0, .ref a50, .ref a51, .int 0, .int 0, .ref a54, .ref a55, .int (-1), .ref a57, .ref a58, .ref a59, .ref a60, .int 0, .int 0, .int 0, .ref a64]))] U.heap ∧ va_K (dC, dI) cls [] U ∧ va_D (fun _ => True) [(h0, .inr (12, [.int 0, .ref a1, .ref a2, .ref a3, .ref a4, .ref a5, .int 0, .ref a7, .ref a8, .int 0, .ref a10, .ref a11, .ref a12, .ref a13, .int 0, .ref a15, .ref a16, .ref a17, .ref a18, .ref a19, .ref a20, .ref a21, .ref a22, .int 0, .ref a24, .int 0, .ref a26, .ref a27, .int 0, .ref a29, .ref a30, .ref a31, .ref a32, .ref a33, .int 0, .ref a35, .ref a36, .int 0, .ref a38, .int 0, .int 0, .int 0, .int 0, .int 0, .long 0, .int 0, .int 0, .int (-1), .int (-1), .int 0, .ref a50, .ref a51, .int 0, .int 0, .ref a54, .ref a55, .int (-1), .ref a57, .ref a58, .ref a59, .ref a60, .int 0, .int 0, .int 0, .ref a64]))])) (va_Qi (fun (r : Int32) (_ : Unit) => r = -1) (fun (_ : Unit) t => va_P (dC, dI) cls [] t.heap ∧ va_K (dC, dI) cls [] t ∧ va_D (va_A [(h0, .inr (12, [.int 0, .ref a1, .ref a2, .ref a3, .ref a4, .ref a5, .int 0, .ref a7, .ref a8, .int 0, .ref a10, .ref a11, .ref a12, .ref a13, .int 0, .ref a15, .ref a16, .ref a17, .ref a18, .ref a19, .ref a20, .ref a21, .ref a22, .int 0, .ref a24, .int 0, .ref a26, .ref a27, .int 0, .ref a29, .ref a30, .ref a31, .ref a32, .ref a33, .int 0, .ref a35, .ref a36, .int 0, .ref a38, .int 0, .int 0, .int 0, .int 0, .int 0, .long 0, .int 0, .int 0, .int (-1), .int (-1), .int 0, .ref a50, .ref a51, .int 0, .int 0, .ref a54, .ref a55, .int (-1), .ref a57, .ref a58, .ref a59, .ref a60, .int 0, .int 0, .int 0, .ref a64]))] sz) []) (va_A [(h0, .inr (12, [.int 0, .ref a1, .ref a2, .ref a3, .ref a4, .ref a5, .int 0, .ref a7, .ref a8, .int 0, .ref a10, .ref a11, .ref a12, .ref a13, .int 0, .ref a15, .ref a16, .ref a17, .ref a18, .ref a19, .ref a20, .ref a21, .ref a22, .int 0, .ref a24, .int 0, .ref a26, .ref a27, .int 0, .ref a29, .ref a30, .ref a31, .ref a32, .ref a33, .int 0, .ref a35, .ref a36, .int 0, .ref a38, .int 0, .int 0, .int 0, .int 0, .int 0, .long 0, .int 0, .int 0, .int (-1), .int (-1), .int 0, .ref a50, .ref a51, .int 0, .int 0, .ref a54, .ref a55, .int (-1), .ref a57, .ref a58, .ref a59, .ref a60, .int 0, .int 0, .int 0, .ref a64]))] sz)) 0 0 (va_A [(h0, .inr (12, [.int 0, .ref a1, .ref a2, .ref a3, .ref a4, .ref a5, .int 0, .ref a7, .ref a8, .int 0, .ref a10, .ref a11, .ref a12, .ref a13, .int 0, .ref a15, .ref a16, .ref a17, .ref a18, .ref a19, .ref a20, .ref a21, .ref a22, .int 0, .ref a24, .int 0, .ref a26, .ref a27, .int 0, .ref a29, .ref a30, .ref a31, .ref a32, .ref a33, .int 0, .ref a35, .ref a36, .int 0, .ref a38, .int 0, .int 0, .int 0, .int 0, .int 0, .long 0, .int 0, .int 0, .int (-1), .int (-1), .int 0, .ref a50, .ref a51, .int 0, .int 0, .ref a54, .ref a55, .int (-1), .ref a57, .ref a58, .ref a59, .ref a60, .int 0, .int 0, .int 0, .ref a64]))] sz) := by
  refine Met.ofW (cc := cX12_set) (maxL := 5) (ret := (some .int)) (by decide) rfl ?_
  intro p e s m args below meth c s₁ B hml hv
  obtain ⟨rfl, hsz, hP, hK, hD0⟩ := hv
  have hx := B.exec
  have hb := B.bytes
  have hr := B.returns
  have hts := atoms_spec (ws := wm_set) B.pre
  have hown : s.vm.findClass RX12 = some m.cls := findClass_of_methodNamed B.named
  have hlocks := B.notSynchronized
  subst hsz
  have hD := hD0.self (sz := s.heap.size)
  generalize hAe : va_A [(h0, .inr (12, [.int 0, .ref a1, .ref a2, .ref a3, .ref a4, .ref a5, .int 0, .ref a7, .ref a8, .int 0, .ref a10, .ref a11, .ref a12, .ref a13, .int 0, .ref a15, .ref a16, .ref a17, .ref a18, .ref a19, .ref a20, .ref a21, .ref a22, .int 0, .ref a24, .int 0, .ref a26, .ref a27, .int 0, .ref a29, .ref a30, .ref a31, .ref a32, .ref a33, .int 0, .ref a35, .ref a36, .int 0, .ref a38, .int 0, .int 0, .int 0, .int 0, .int 0, .long 0, .int 0, .int 0, .int (-1), .int (-1), .int 0, .ref a50, .ref a51, .int 0, .int 0, .ref a54, .ref a55, .int (-1), .ref a57, .ref a58, .ref a59, .ref a60, .int 0, .int 0, .int 0, .ref a64]))] s.heap.size = A at hD ⊢
  have hA : ∀ q : Nat, s.heap.size ≤ q → A q := fun q h => by rw [← hAe]; exact Or.inr h
  have hP : va_P (dC, dI) cls [(h0, .inr (12, [.int 0, .ref a1, .ref a2, .ref a3, .ref a4, .ref a5, .int 0, .ref a7, .ref a8, .int 0, .ref a10, .ref a11, .ref a12, .ref a13, .int 0, .ref a15, .ref a16, .ref a17, .ref a18, .ref a19, .ref a20, .ref a21, .ref a22, .int 0, .ref a24, .int 0, .ref a26, .ref a27, .int 0, .ref a29, .ref a30, .ref a31, .ref a32, .ref a33, .int 0, .ref a35, .ref a36, .int 0, .ref a38, .int 0, .int 0, .int 0, .int 0, .int 0, .long 0, .int 0, .int 0, .int (-1), .int (-1), .int 0, .ref a50, .ref a51, .int 0, .int 0, .ref a54, .ref a55, .int (-1), .ref a57, .ref a58, .ref a59, .ref a60, .int 0, .int 0, .int 0, .ref a64]))] s.heap := hP
  have hl := lv_entry ([.ref h0, .int v1, .int v2, .int v3]) (n := 5) (Nat.le_of_ble_eq_true rfl)
  rw [lg_entry_eq]
  generalize (lg_sl ([.ref h0, .int v1, .int v2, .int v3]) ++ List.replicate (5 - (lg_sl ([.ref h0, .int v1, .int v2, .int v3])).length) Slot.unset).toArray = ls at hl ⊢
  have hl : lv_has ls 5 [(0, .ref h0), (1, .int v1), (2, .int v2), (3, .int v3)] := hl
  obtain ⟨H, hH⟩ : ∃ H : Heap, s.heap = H := ⟨_, rfl⟩
  rw [hH] at hP ⊢
  have hS : va_S A s.heap H [] := by rw [← hH]; exact va_S.rf
  refine lv_aload_n hx hb dX12_set_0 rfl (lv_at hl 0 rfl) ?_
  refine lv_iconst (v := 0) hx hb dX12_set_1 (by decide) ?_
  refine va_put (D := (dC, dI)) (ci := 12) (v := .int 0) (ty := .int) (C := RX12) (T := TX12) (N := 65) hx hb hts im_set_RX12 tyX12 tyX12_ok nmX12 hown hK hP hD hS 0 rfl rfl 0 (by decide) (hts (.fieldLink RX12 142 "PutBackModel" "told" "I") (by decide +kernel)) (fun _ h9 => h9) rfl (by decide +kernel) rfl rfl (Nat.le_of_ble_eq_true rfl) dX12_set_2 (fun H locs hP hD hS => ?_)
  have hP : va_P (dC, dI) cls [(h0, .inr (12, [.int 0, .ref a1, .ref a2, .ref a3, .ref a4, .ref a5, .int 0, .ref a7, .ref a8, .int 0, .ref a10, .ref a11, .ref a12, .ref a13, .int 0, .ref a15, .ref a16, .ref a17, .ref a18, .ref a19, .ref a20, .ref a21, .ref a22, .int 0, .ref a24, .int 0, .ref a26, .ref a27, .int 0, .ref a29, .ref a30, .ref a31, .ref a32, .ref a33, .int 0, .ref a35, .ref a36, .int 0, .ref a38, .int 0, .int 0, .int 0, .int 0, .int 0, .long 0, .int 0, .int 0, .int (-1), .int (-1), .int 0, .ref a50, .ref a51, .int 0, .int 0, .ref a54, .ref a55, .int (-1), .ref a57, .ref a58, .ref a59, .ref a60, .int 0, .int 0, .int 0, .ref a64]))] H := hP
  have hD : va_D A [(h0, .inr (12, [.int 0, .ref a1, .ref a2, .ref a3, .ref a4, .ref a5, .int 0, .ref a7, .ref a8, .int 0, .ref a10, .ref a11, .ref a12, .ref a13, .int 0, .ref a15, .ref a16, .ref a17, .ref a18, .ref a19, .ref a20, .ref a21, .ref a22, .int 0, .ref a24, .int 0, .ref a26, .ref a27, .int 0, .ref a29, .ref a30, .ref a31, .ref a32, .ref a33, .int 0, .ref a35, .ref a36, .int 0, .ref a38, .int 0, .int 0, .int 0, .int 0, .int 0, .long 0, .int 0, .int 0, .int (-1), .int (-1), .int 0, .ref a50, .ref a51, .int 0, .int 0, .ref a54, .ref a55, .int (-1), .ref a57, .ref a58, .ref a59, .ref a60, .int 0, .int 0, .int 0, .ref a64]))] := hD
  refine lv_aload_n hx hb dX12_set_5 rfl (lv_at hl 0 rfl) ?_
  refine lv_iload_n hx hb dX12_set_6 rfl (lv_at hl 1 rfl) ?_
  have hPc := hP.sub (ws' := [(h0, .inr (12, [.int 0, .ref a1, .ref a2, .ref a3, .ref a4, .ref a5, .int 0, .ref a7, .ref a8, .int 0, .ref a10, .ref a11, .ref a12, .ref a13, .int 0, .ref a15, .ref a16, .ref a17, .ref a18, .ref a19, .ref a20, .ref a21, .ref a22, .int 0, .ref a24, .int 0, .ref a26, .ref a27, .int 0, .ref a29, .ref a30, .ref a31, .ref a32, .ref a33, .int 0, .ref a35, .ref a36, .int 0, .ref a38, .int 0, .int 0, .int 0, .int 0, .int 0, .long 0, .int 0, .int 0, .int (-1), .int (-1), .int 0, .ref a50, .ref a51, .int 0, .int 0, .ref a54, .ref a55, .int (-1), .ref a57, .ref a58, .ref a59, .ref a60, .int 0, .int 0, .int 0, .ref a64]))]) [0] rfl
  have hDc := hD.sub (ws' := [(h0, .inr (12, [.int 0, .ref a1, .ref a2, .ref a3, .ref a4, .ref a5, .int 0, .ref a7, .ref a8, .int 0, .ref a10, .ref a11, .ref a12, .ref a13, .int 0, .ref a15, .ref a16, .ref a17, .ref a18, .ref a19, .ref a20, .ref a21, .ref a22, .int 0, .ref a24, .int 0, .ref a26, .ref a27, .int 0, .ref a29, .ref a30, .ref a31, .ref a32, .ref a33, .int 0, .ref a35, .ref a36, .int 0, .ref a38, .int 0, .int 0, .int 0, .int 0, .int 0, .long 0, .int 0, .int 0, .int (-1), .int (-1), .int 0, .ref a50, .ref a51, .int 0, .int 0, .ref a54, .ref a55, .int (-1), .ref a57, .ref a58, .ref a59, .ref a60, .int 0, .int 0, .int 0, .ref a64]))]) [0] (by decide) rfl
  have hKc := hK.sub (tys' := []) [] rfl
  have hFc := va_free (wc := [(h0, .inr (12, [.int 0, .ref a1, .ref a2, .ref a3, .ref a4, .ref a5, .int 0, .ref a7, .ref a8, .int 0, .ref a10, .ref a11, .ref a12, .ref a13, .int 0, .ref a15, .ref a16, .ref a17, .ref a18, .ref a19, .ref a20, .ref a21, .ref a22, .int 0, .ref a24, .int 0, .ref a26, .ref a27, .int 0, .ref a29, .ref a30, .ref a31, .ref a32, .ref a33, .int 0, .ref a35, .ref a36, .int 0, .ref a38, .int 0, .int 0, .int 0, .int 0, .int 0, .long 0, .int 0, .int 0, .int (-1), .int (-1), .int 0, .ref a50, .ref a51, .int 0, .int 0, .ref a54, .ref a55, .int (-1), .ref a57, .ref a58, .ref a59, .ref a60, .int 0, .int 0, .int 0, .ref a64]))]) hD hS hA [0] rfl
  refine va_calli (va_runV (As := [.int v1]) (rest := []) ⟨hx, hb, hml, hown, hts⟩ (m_isLens l dC dI H.size h0 v1 a1 a2 a3 a4 a5 a7 a8 a10 a11 a12 a13 a15 a16 a17 a18 a19 a20 a21 a22 a24 a26 a27 a29 a30 a31 a32 a33 a35 a36 a38 a50 a51 a54 a55 a57 a58 a59 a60 a64) (cwV 1 hts gm_set_520 rfl rfl rfl (by decide +kernel) ⟨Nat.le_of_ble_eq_true rfl, Nat.le_of_ble_eq_true rfl⟩) ⟨fun a U g mk q => by obtain ⟨q0, q1, qP, qK, qD⟩ := q; exact ⟨q0, q1, qP, va_K.moved (u := U) (U := U.calling g mk a) (Vm.Alike.refl U.vm) qK, qD⟩, va_recv hK hP (ci := 12) (q0 := 0) rfl rfl, fun U hU hW => ⟨rfl, by rw [hU], by rw [hU]; exact hPc, va_K.moved hW.alike hKc, hDc.weaken (fun _ _ _ _ => trivial)⟩⟩ rfl rfl hl.1 rfl (lv_room (Nat.le_of_ble_eq_true rfl)) dX12_set_7 ⟨Nat.le_of_ble_eq_true rfl, Nat.le_of_ble_eq_true rfl⟩) hS (fun q _ h => hFc q h) hFc (fun r_2 u t H1 locs ht hvm hw hB hz1 hk1 hS => ?_)
  obtain ⟨hP1, hK1, hD1⟩ := hB
  rw [ht] at hP1
  try dsimp only at hw
  obtain ⟨hP, hD⟩ := va_join (wr := []) (w1 := [(h0, .inr (12, [.int 0, .ref a1, .ref a2, .ref a3, .ref a4, .ref a5, .int 0, .ref a7, .ref a8, .int 0, .ref a10, .ref a11, .ref a12, .ref a13, .int 0, .ref a15, .ref a16, .ref a17, .ref a18, .ref a19, .ref a20, .ref a21, .ref a22, .int 0, .ref a24, .int 0, .ref a26, .ref a27, .int 0, .ref a29, .ref a30, .ref a31, .ref a32, .ref a33, .int 0, .ref a35, .ref a36, .int 0, .ref a38, .int 0, .int 0, .int 0, .int 0, .int 0, .long 0, .int 0, .int 0, .int (-1), .int (-1), .int 0, .ref a50, .ref a51, .int 0, .int 0, .ref a54, .ref a55, .int (-1), .ref a57, .ref a58, .ref a59, .ref a60, .int 0, .int 0, .int 0, .ref a64]))]) hP hD [0] [] rfl rfl (by decide) (by decide) hk1 hFc hP1 hD1
  clear hk1 hz1 hPc hDc hFc hP1 hD1 hK1 hKc
  generalize H1 = H at hP hS ⊢
  have hP : va_P (dC, dI) cls [(h0, .inr (12, [.int 0, .ref a1, .ref a2, .ref a3, .ref a4, .ref a5, .int 0, .ref a7, .ref a8, .int 0, .ref a10, .ref a11, .ref a12, .ref a13, .int 0, .ref a15, .ref a16, .ref a17, .ref a18, .ref a19, .ref a20, .ref a21, .ref a22, .int 0, .ref a24, .int 0, .ref a26, .ref a27, .int 0, .ref a29, .ref a30, .ref a31, .ref a32, .ref a33, .int 0, .ref a35, .ref a36, .int 0, .ref a38, .int 0, .int 0, .int 0, .int 0, .int 0, .long 0, .int 0, .int 0, .int (-1), .int (-1), .int 0, .ref a50, .ref a51, .int 0, .int 0, .ref a54, .ref a55, .int (-1), .ref a57, .ref a58, .ref a59, .ref a60, .int 0, .int 0, .int 0, .ref a64]))] H := hP
  have hD : va_D A [(h0, .inr (12, [.int 0, .ref a1, .ref a2, .ref a3, .ref a4, .ref a5, .int 0, .ref a7, .ref a8, .int 0, .ref a10, .ref a11, .ref a12, .ref a13, .int 0, .ref a15, .ref a16, .ref a17, .ref a18, .ref a19, .ref a20, .ref a21, .ref a22, .int 0, .ref a24, .int 0, .ref a26, .ref a27, .int 0, .ref a29, .ref a30, .ref a31, .ref a32, .ref a33, .int 0, .ref a35, .ref a36, .int 0, .ref a38, .int 0, .int 0, .int 0, .int 0, .int 0, .long 0, .int 0, .int 0, .int (-1), .int (-1), .int 0, .ref a50, .ref a51, .int 0, .int 0, .ref a54, .ref a55, .int (-1), .ref a57, .ref a58, .ref a59, .ref a60, .int 0, .int 0, .int 0, .ref a64]))] := hD
  obtain rfl := hw
  refine lv_if_eq (tgt := 21) hx hb dX12_set_10 (by decide) (fun c_3 => ?_) (fun c_3 => ?_)
  rotate_left
  · exact absurd (by decide) c_3
  refine lv_iconst (v := (-1)) hx hb dX12_set_21 (by decide) ?_
  have hP9 := hP.sub (ws' := []) [] rfl
  have hD9 := hD.sub (ws' := []) [] (by decide) rfl
  exact W.iret (v := (-1)) hx hb hr (fun t ht hW => ⟨⟨(-1), (), rfl, rfl, by rw [ht]; exact hP9, va_K.moved hW.alike hK, hD9⟩, hS.F ht⟩) hS.2.2 dX12_set_22
def wm_goesOn : List Cond := .code yX12_goesOn cX12_goesOn 12 (some .int) :: ([.fieldLink RX12 142 "PutBackModel" "told" "I", .methodLink RX12 520 yX12_isLens, .instanceMethod yX12_isLens, .selects RX12 yX12_isLens yX12_isLens, .initialized RX12, .code yX12_isLens cX12_isLens 2 (some .boolean), .fieldLink RX12 506 "PutBackModel" "lenses" "I", .methodLink RX12 153 yX12_isIn, .instanceMethod yX12_isIn, .selects RX12 yX12_isIn yX12_isIn, .code yX12_isIn cX12_isIn 7 (some .boolean)] ++ wsX120)
theorem im_goesOn_RX12 : ∀ w ∈ u_ws RX12 TX12 65, w ∈ wm_goesOn := fun w h => List.mem_cons_of_mem _ (List.mem_append_right _ h)
theorem gm_goesOn_520g : GoodIn wm_goesOn wm_isLens := goodIn_r _ [6, 7, 8, 9, 10, 5, 11, 12, 13, 14, 15, 16, 17, 18, 19, 20, 21, 22, 23, 24, 25, 26, 27, 28, 29, 30, 31, 32, 33, 34, 35, 36, 37, 38, 39, 40, 41, 42, 43, 44, 45, 46, 47, 48, 49, 50, 51, 52, 53, 54, 55, 56, 57, 58, 59, 60, 61, 62, 63, 64, 65, 66, 67, 68, 69, 70, 71, 72, 73, 74, 75, 76] (by decide +kernel) (by decide +kernel)
theorem gm_goesOn_520 : GoodIn wm_goesOn (wsV RX12 520 RX12 yX12_isLens wm_isLens) := goodIn_app (goodIn_of _ (by decide +kernel)) gm_goesOn_520g
set_option maxHeartbeats 4000000 in
set_option maxRecDepth 100000 in
theorem m_goesOn (l : Launch) (dC : Nat → ClassId) (dI : Nat → Nat → Nat) (sz : Nat) (h0 : Nat) (v1 : Int32) (v2 : Int32) (v3 : Int32) (v4 : Int32) (a1 : Nat) (a2 : Nat) (a3 : Nat) (a4 : Nat) (a5 : Nat) (a7 : Nat) (a8 : Nat) (a10 : Nat) (a11 : Nat) (a12 : Nat) (a13 : Nat) (a15 : Nat) (a16 : Nat) (a17 : Nat) (a18 : Nat) (a19 : Nat) (a20 : Nat) (a21 : Nat) (a22 : Nat) (a24 : Nat) (a26 : Nat) (a27 : Nat) (a29 : Nat) (a30 : Nat) (a31 : Nat) (a32 : Nat) (a33 : Nat) (a35 : Nat) (a36 : Nat) (a38 : Nat) (a50 : Nat) (a51 : Nat) (a54 : Nat) (a55 : Nat) (a57 : Nat) (a58 : Nat) (a59 : Nat) (a60 : Nat) (a64 : Nat) : Met l yX12_goesOn wm_goesOn ({ frames := 2, cells := 0, slots := 0, locals := 47 } : Room) (va_Pc [.ref h0, .int v1, .int v2, .int v3, .int v4] (fun U => U.heap.size = sz ∧ va_P (dC, dI) cls [(h0, .inr (12, [.int 0, .ref a1, .ref a2, .ref a3, .ref a4, .ref a5, .int 0, .ref a7, .ref a8, .int 0, .ref a10, .ref a11, .ref a12, .ref a13, .int 0, .ref a15, .ref a16, .ref a17, .ref a18, .ref a19, .ref a20, .ref a21, .ref a22, .int 0, .ref a24, .int 0, .ref a26, .ref a27, .int 0, .ref a29, .ref a30, .ref a31, .ref a32, .ref a33, .int 0, .ref a35, .ref a36, .int 0, .ref a38, .int 0, .int 0, .int 0, .int 0, .int 0, .long 0, .int 0, .int 0, .int (-1), .int (-1), .int 0, .ref a50, .ref a51, .int 0, .int 0, .ref a54, .ref a55, .int (-1), .ref a57, .ref a58, .ref a59, .ref a60, .int 0, .int 0, .int 0, .ref a64]))] U.heap ∧ va_K (dC, dI) cls [] U ∧ va_D (fun _ => True) [(h0, .inr (12, [.int 0, .ref a1, .ref a2, .ref a3, .ref a4, .ref a5, .int 0, .ref a7, .ref a8, .int 0, .ref a10, .ref a11, .ref a12, .ref a13, .int 0, .ref a15, .ref a16, .ref a17, .ref a18, .ref a19, .ref a20, .ref a21, .ref a22, .int 0, .ref a24, .int 0, .ref a26, .ref a27, .int 0, .ref a29, .ref a30, .ref a31, .ref a32, .ref a33, .int 0, .ref a35, .ref a36, .int 0, .ref a38, .int 0, .int 0, .int 0, .int 0, .int 0, .long 0, .int 0, .int 0, .int (-1), .int (-1), .int 0, .ref a50, .ref a51, .int 0, .int 0, .ref a54, .ref a55, .int (-1), .ref a57, .ref a58, .ref a59, .ref a60, .int 0, .int 0, .int 0, .ref a64]))])) (va_Qi (fun (r : Int32) (_ : Unit) => r = -1) (fun (_ : Unit) t => va_P (dC, dI) cls [] t.heap ∧ va_K (dC, dI) cls [] t ∧ va_D (va_A [(h0, .inr (12, [.int 0, .ref a1, .ref a2, .ref a3, .ref a4, .ref a5, .int 0, .ref a7, .ref a8, .int 0, .ref a10, .ref a11, .ref a12, .ref a13, .int 0, .ref a15, .ref a16, .ref a17, .ref a18, .ref a19, .ref a20, .ref a21, .ref a22, .int 0, .ref a24, .int 0, .ref a26, .ref a27, .int 0, .ref a29, .ref a30, .ref a31, .ref a32, .ref a33, .int 0, .ref a35, .ref a36, .int 0, .ref a38, .int 0, .int 0, .int 0, .int 0, .int 0, .long 0, .int 0, .int 0, .int (-1), .int (-1), .int 0, .ref a50, .ref a51, .int 0, .int 0, .ref a54, .ref a55, .int (-1), .ref a57, .ref a58, .ref a59, .ref a60, .int 0, .int 0, .int 0, .ref a64]))] sz) []) (va_A [(h0, .inr (12, [.int 0, .ref a1, .ref a2, .ref a3, .ref a4, .ref a5, .int 0, .ref a7, .ref a8, .int 0, .ref a10, .ref a11, .ref a12, .ref a13, .int 0, .ref a15, .ref a16, .ref a17, .ref a18, .ref a19, .ref a20, .ref a21, .ref a22, .int 0, .ref a24, .int 0, .ref a26, .ref a27, .int 0, .ref a29, .ref a30, .ref a31, .ref a32, .ref a33, .int 0, .ref a35, .ref a36, .int 0, .ref a38, .int 0, .int 0, .int 0, .int 0, .int 0, .long 0, .int 0, .int 0, .int (-1), .int (-1), .int 0, .ref a50, .ref a51, .int 0, .int 0, .ref a54, .ref a55, .int (-1), .ref a57, .ref a58, .ref a59, .ref a60, .int 0, .int 0, .int 0, .ref a64]))] sz)) 0 0 (va_A [(h0, .inr (12, [.int 0, .ref a1, .ref a2, .ref a3, .ref a4, .ref a5, .int 0, .ref a7, .ref a8, .int 0, .ref a10, .ref a11, .ref a12, .ref a13, .int 0, .ref a15, .ref a16, .ref a17, .ref a18, .ref a19, .ref a20, .ref a21, .ref a22, .int 0, .ref a24, .int 0, .ref a26, .ref a27, .int 0, .ref a29, .ref a30, .ref a31, .ref a32, .ref a33, .int 0, .ref a35, .ref a36, .int 0, .ref a38, .int 0, .int 0, .int 0, .int 0, .int 0, .long 0, .int 0, .int 0, .int (-1), .int (-1), .int 0, .ref a50, .ref a51, .int 0, .int 0, .ref a54, .ref a55, .int (-1), .ref a57, .ref a58, .ref a59, .ref a60, .int 0, .int 0, .int 0, .ref a64]))] sz) := by
  refine Met.ofW (cc := cX12_goesOn) (maxL := 12) (ret := (some .int)) (by decide) rfl ?_
  intro p e s m args below meth c s₁ B hml hv
  obtain ⟨rfl, hsz, hP, hK, hD0⟩ := hv
  have hx := B.exec
  have hb := B.bytes
  have hr := B.returns
  have hts := atoms_spec (ws := wm_goesOn) B.pre
  have hown : s.vm.findClass RX12 = some m.cls := findClass_of_methodNamed B.named
  have hlocks := B.notSynchronized
  subst hsz
  have hD := hD0.self (sz := s.heap.size)
  generalize hAe : va_A [(h0, .inr (12, [.int 0, .ref a1, .ref a2, .ref a3, .ref a4, .ref a5, .int 0, .ref a7, .ref a8, .int 0, .ref a10, .ref a11, .ref a12, .ref a13, .int 0, .ref a15, .ref a16, .ref a17, .ref a18, .ref a19, .ref a20, .ref a21, .ref a22, .int 0, .ref a24, .int 0, .ref a26, .ref a27, .int 0, .ref a29, .ref a30, .ref a31, .ref a32, .ref a33, .int 0, .ref a35, .ref a36, .int 0, .ref a38, .int 0, .int 0, .int 0, .int 0, .int 0, .long 0, .int 0, .int 0, .int (-1), .int (-1), .int 0, .ref a50, .ref a51, .int 0, .int 0, .ref a54, .ref a55, .int (-1), .ref a57, .ref a58, .ref a59, .ref a60, .int 0, .int 0, .int 0, .ref a64]))] s.heap.size = A at hD ⊢
  have hA : ∀ q : Nat, s.heap.size ≤ q → A q := fun q h => by rw [← hAe]; exact Or.inr h
  have hP : va_P (dC, dI) cls [(h0, .inr (12, [.int 0, .ref a1, .ref a2, .ref a3, .ref a4, .ref a5, .int 0, .ref a7, .ref a8, .int 0, .ref a10, .ref a11, .ref a12, .ref a13, .int 0, .ref a15, .ref a16, .ref a17, .ref a18, .ref a19, .ref a20, .ref a21, .ref a22, .int 0, .ref a24, .int 0, .ref a26, .ref a27, .int 0, .ref a29, .ref a30, .ref a31, .ref a32, .ref a33, .int 0, .ref a35, .ref a36, .int 0, .ref a38, .int 0, .int 0, .int 0, .int 0, .int 0, .long 0, .int 0, .int 0, .int (-1), .int (-1), .int 0, .ref a50, .ref a51, .int 0, .int 0, .ref a54, .ref a55, .int (-1), .ref a57, .ref a58, .ref a59, .ref a60, .int 0, .int 0, .int 0, .ref a64]))] s.heap := hP
  have hl := lv_entry ([.ref h0, .int v1, .int v2, .int v3, .int v4]) (n := 12) (Nat.le_of_ble_eq_true rfl)
  rw [lg_entry_eq]
  generalize (lg_sl ([.ref h0, .int v1, .int v2, .int v3, .int v4]) ++ List.replicate (12 - (lg_sl ([.ref h0, .int v1, .int v2, .int v3, .int v4])).length) Slot.unset).toArray = ls at hl ⊢
  have hl : lv_has ls 12 [(0, .ref h0), (1, .int v1), (2, .int v2), (3, .int v3), (4, .int v4)] := hl
  obtain ⟨H, hH⟩ : ∃ H : Heap, s.heap = H := ⟨_, rfl⟩
  rw [hH] at hP ⊢
  have hS : va_S A s.heap H [] := by rw [← hH]; exact va_S.rf
  refine lv_aload_n hx hb dX12_goesOn_0 rfl (lv_at hl 0 rfl) ?_
  refine lv_iconst (v := 0) hx hb dX12_goesOn_1 (by decide) ?_
  refine va_put (D := (dC, dI)) (ci := 12) (v := .int 0) (ty := .int) (C := RX12) (T := TX12) (N := 65) hx hb hts im_goesOn_RX12 tyX12 tyX12_ok nmX12 hown hK hP hD hS 0 rfl rfl 0 (by decide) (hts (.fieldLink RX12 142 "PutBackModel" "told" "I") (by decide +kernel)) (fun _ h9 => h9) rfl (by decide +kernel) rfl rfl (Nat.le_of_ble_eq_true rfl) dX12_goesOn_2 (fun H locs hP hD hS => ?_)
  have hP : va_P (dC, dI) cls [(h0, .inr (12, [.int 0, .ref a1, .ref a2, .ref a3, .ref a4, .ref a5, .int 0, .ref a7, .ref a8, .int 0, .ref a10, .ref a11, .ref a12, .ref a13, .int 0, .ref a15, .ref a16, .ref a17, .ref a18, .ref a19, .ref a20, .ref a21, .ref a22, .int 0, .ref a24, .int 0, .ref a26, .ref a27, .int 0, .ref a29, .ref a30, .ref a31, .ref a32, .ref a33, .int 0, .ref a35, .ref a36, .int 0, .ref a38, .int 0, .int 0, .int 0, .int 0, .int 0, .long 0, .int 0, .int 0, .int (-1), .int (-1), .int 0, .ref a50, .ref a51, .int 0, .int 0, .ref a54, .ref a55, .int (-1), .ref a57, .ref a58, .ref a59, .ref a60, .int 0, .int 0, .int 0, .ref a64]))] H := hP
  have hD : va_D A [(h0, .inr (12, [.int 0, .ref a1, .ref a2, .ref a3, .ref a4, .ref a5, .int 0, .ref a7, .ref a8, .int 0, .ref a10, .ref a11, .ref a12, .ref a13, .int 0, .ref a15, .ref a16, .ref a17, .ref a18, .ref a19, .ref a20, .ref a21, .ref a22, .int 0, .ref a24, .int 0, .ref a26, .ref a27, .int 0, .ref a29, .ref a30, .ref a31, .ref a32, .ref a33, .int 0, .ref a35, .ref a36, .int 0, .ref a38, .int 0, .int 0, .int 0, .int 0, .int 0, .long 0, .int 0, .int 0, .int (-1), .int (-1), .int 0, .ref a50, .ref a51, .int 0, .int 0, .ref a54, .ref a55, .int (-1), .ref a57, .ref a58, .ref a59, .ref a60, .int 0, .int 0, .int 0, .ref a64]))] := hD
  refine lv_aload_n hx hb dX12_goesOn_5 rfl (lv_at hl 0 rfl) ?_
  refine lv_iload_n hx hb dX12_goesOn_6 rfl (lv_at hl 1 rfl) ?_
  have hPc := hP.sub (ws' := [(h0, .inr (12, [.int 0, .ref a1, .ref a2, .ref a3, .ref a4, .ref a5, .int 0, .ref a7, .ref a8, .int 0, .ref a10, .ref a11, .ref a12, .ref a13, .int 0, .ref a15, .ref a16, .ref a17, .ref a18, .ref a19, .ref a20, .ref a21, .ref a22, .int 0, .ref a24, .int 0, .ref a26, .ref a27, .int 0, .ref a29, .ref a30, .ref a31, .ref a32, .ref a33, .int 0, .ref a35, .ref a36, .int 0, .ref a38, .int 0, .int 0, .int 0, .int 0, .int 0, .long 0, .int 0, .int 0, .int (-1), .int (-1), .int 0, .ref a50, .ref a51, .int 0, .int 0, .ref a54, .ref a55, .int (-1), .ref a57, .ref a58, .ref a59, .ref a60, .int 0, .int 0, .int 0, .ref a64]))]) [0] rfl
  have hDc := hD.sub (ws' := [(h0, .inr (12, [.int 0, .ref a1, .ref a2, .ref a3, .ref a4, .ref a5, .int 0, .ref a7, .ref a8, .int 0, .ref a10, .ref a11, .ref a12, .ref a13, .int 0, .ref a15, .ref a16, .ref a17, .ref a18, .ref a19, .ref a20, .ref a21, .ref a22, .int 0, .ref a24, .int 0, .ref a26, .ref a27, .int 0, .ref a29, .ref a30, .ref a31, .ref a32, .ref a33, .int 0, .ref a35, .ref a36, .int 0, .ref a38, .int 0, .int 0, .int 0, .int 0, .int 0, .long 0, .int 0, .int 0, .int (-1), .int (-1), .int 0, .ref a50, .ref a51, .int 0, .int 0, .ref a54, .ref a55, .int (-1), .ref a57, .ref a58, .ref a59, .ref a60, .int 0, .int 0, .int 0, .ref a64]))]) [0] (by decide) rfl
  have hKc := hK.sub (tys' := []) [] rfl
  have hFc := va_free (wc := [(h0, .inr (12, [.int 0, .ref a1, .ref a2, .ref a3, .ref a4, .ref a5, .int 0, .ref a7, .ref a8, .int 0, .ref a10, .ref a11, .ref a12, .ref a13, .int 0, .ref a15, .ref a16, .ref a17, .ref a18, .ref a19, .ref a20, .ref a21, .ref a22, .int 0, .ref a24, .int 0, .ref a26, .ref a27, .int 0, .ref a29, .ref a30, .ref a31, .ref a32, .ref a33, .int 0, .ref a35, .ref a36, .int 0, .ref a38, .int 0, .int 0, .int 0, .int 0, .int 0, .long 0, .int 0, .int 0, .int (-1), .int (-1), .int 0, .ref a50, .ref a51, .int 0, .int 0, .ref a54, .ref a55, .int (-1), .ref a57, .ref a58, .ref a59, .ref a60, .int 0, .int 0, .int 0, .ref a64]))]) hD hS hA [0] rfl
  refine va_calli (va_runV (As := [.int v1]) (rest := []) ⟨hx, hb, hml, hown, hts⟩ (m_isLens l dC dI H.size h0 v1 a1 a2 a3 a4 a5 a7 a8 a10 a11 a12 a13 a15 a16 a17 a18 a19 a20 a21 a22 a24 a26 a27 a29 a30 a31 a32 a33 a35 a36 a38 a50 a51 a54 a55 a57 a58 a59 a60 a64) (cwV 1 hts gm_goesOn_520 rfl rfl rfl (by decide +kernel) ⟨Nat.le_of_ble_eq_true rfl, Nat.le_of_ble_eq_true rfl⟩) ⟨fun a U g mk q => by obtain ⟨q0, q1, qP, qK, qD⟩ := q; exact ⟨q0, q1, qP, va_K.moved (u := U) (U := U.calling g mk a) (Vm.Alike.refl U.vm) qK, qD⟩, va_recv hK hP (ci := 12) (q0 := 0) rfl rfl, fun U hU hW => ⟨rfl, by rw [hU], by rw [hU]; exact hPc, va_K.moved hW.alike hKc, hDc.weaken (fun _ _ _ _ => trivial)⟩⟩ rfl rfl hl.1 rfl (lv_room (Nat.le_of_ble_eq_true rfl)) dX12_goesOn_7 ⟨Nat.le_of_ble_eq_true rfl, Nat.le_of_ble_eq_true rfl⟩) hS (fun q _ h => hFc q h) hFc (fun r_2 u t H1 locs ht hvm hw hB hz1 hk1 hS => ?_)
  obtain ⟨hP1, hK1, hD1⟩ := hB
  rw [ht] at hP1
  try dsimp only at hw
  obtain ⟨hP, hD⟩ := va_join (wr := []) (w1 := [(h0, .inr (12, [.int 0, .ref a1, .ref a2, .ref a3, .ref a4, .ref a5, .int 0, .ref a7, .ref a8, .int 0, .ref a10, .ref a11, .ref a12, .ref a13, .int 0, .ref a15, .ref a16, .ref a17, .ref a18, .ref a19, .ref a20, .ref a21, .ref a22, .int 0, .ref a24, .int 0, .ref a26, .ref a27, .int 0, .ref a29, .ref a30, .ref a31, .ref a32, .ref a33, .int 0, .ref a35, .ref a36, .int 0, .ref a38, .int 0, .int 0, .int 0, .int 0, .int 0, .long 0, .int 0, .int 0, .int (-1), .int (-1), .int 0, .ref a50, .ref a51, .int 0, .int 0, .ref a54, .ref a55, .int (-1), .ref a57, .ref a58, .ref a59, .ref a60, .int 0, .int 0, .int 0, .ref a64]))]) hP hD [0] [] rfl rfl (by decide) (by decide) hk1 hFc hP1 hD1
  clear hk1 hz1 hPc hDc hFc hP1 hD1 hK1 hKc
  generalize H1 = H at hP hS ⊢
  have hP : va_P (dC, dI) cls [(h0, .inr (12, [.int 0, .ref a1, .ref a2, .ref a3, .ref a4, .ref a5, .int 0, .ref a7, .ref a8, .int 0, .ref a10, .ref a11, .ref a12, .ref a13, .int 0, .ref a15, .ref a16, .ref a17, .ref a18, .ref a19, .ref a20, .ref a21, .ref a22, .int 0, .ref a24, .int 0, .ref a26, .ref a27, .int 0, .ref a29, .ref a30, .ref a31, .ref a32, .ref a33, .int 0, .ref a35, .ref a36, .int 0, .ref a38, .int 0, .int 0, .int 0, .int 0, .int 0, .long 0, .int 0, .int 0, .int (-1), .int (-1), .int 0, .ref a50, .ref a51, .int 0, .int 0, .ref a54, .ref a55, .int (-1), .ref a57, .ref a58, .ref a59, .ref a60, .int 0, .int 0, .int 0, .ref a64]))] H := hP
  have hD : va_D A [(h0, .inr (12, [.int 0, .ref a1, .ref a2, .ref a3, .ref a4, .ref a5, .int 0, .ref a7, .ref a8, .int 0, .ref a10, .ref a11, .ref a12, .ref a13, .int 0, .ref a15, .ref a16, .ref a17, .ref a18, .ref a19, .ref a20, .ref a21, .ref a22, .int 0, .ref a24, .int 0, .ref a26, .ref a27, .int 0, .ref a29, .ref a30, .ref a31, .ref a32, .ref a33, .int 0, .ref a35, .ref a36, .int 0, .ref a38, .int 0, .int 0, .int 0, .int 0, .int 0, .long 0, .int 0, .int 0, .int (-1), .int (-1), .int 0, .ref a50, .ref a51, .int 0, .int 0, .ref a54, .ref a55, .int (-1), .ref a57, .ref a58, .ref a59, .ref a60, .int 0, .int 0, .int 0, .ref a64]))] := hD
  obtain rfl := hw
  refine lv_if_eq (tgt := 29) hx hb dX12_goesOn_10 (by decide) (fun c_3 => ?_) (fun c_3 => ?_)
  rotate_left
  · exact absurd (by decide) c_3
  refine lv_iconst (v := (-1)) hx hb dX12_goesOn_29 (by decide) ?_
  have hP9 := hP.sub (ws' := []) [] rfl
  have hD9 := hD.sub (ws' := []) [] (by decide) rfl
  exact W.iret (v := (-1)) hx hb hr (fun t ht hW => ⟨⟨(-1), (), rfl, rfl, by rw [ht]; exact hP9, va_K.moved hW.alike hK, hD9⟩, hS.F ht⟩) hS.2.2 dX12_goesOn_30
def wm_parts : List Cond := .code yX12_parts cX12_parts 4 (some .int) :: ([.fieldLink RX12 142 "PutBackModel" "told" "I", .methodLink RX12 556 yX12_isRepeated, .instanceMethod yX12_isRepeated, .selects RX12 yX12_isRepeated yX12_isRepeated, .initialized RX12, .code yX12_isRepeated cX12_isRepeated 4 (some .boolean), .methodLink RX12 520 yX12_isLens, .instanceMethod yX12_isLens, .selects RX12 yX12_isLens yX12_isLens, .code yX12_isLens cX12_isLens 2 (some .boolean), .fieldLink RX12 506 "PutBackModel" "lenses" "I", .methodLink RX12 153 yX12_isIn, .instanceMethod yX12_isIn, .selects RX12 yX12_isIn yX12_isIn, .code yX12_isIn cX12_isIn 7 (some .boolean)] ++ wsX120)
theorem im_parts_RX12 : ∀ w ∈ u_ws RX12 TX12 65, w ∈ wm_parts := fun w h => List.mem_cons_of_mem _ (List.mem_append_right _ h)
theorem gm_parts_556g : GoodIn wm_parts wm_isRepeated := goodIn_r _ [6, 7, 8, 9, 5, 10, 11, 12, 13, 14, 15, 16, 17, 18, 19, 20, 21, 22, 23, 24, 25, 26, 27, 28, 29, 30, 31, 32, 33, 34, 35, 36, 37, 38, 39, 40, 41, 42, 43, 44, 45, 46, 47, 48, 49, 50, 51, 52, 53, 54, 55, 56, 57, 58, 59, 60, 61, 62, 63, 64, 65, 66, 67, 68, 69, 70, 71, 72, 73, 74, 75, 76, 77, 78, 79, 80] (by decide +kernel) (by decide +kernel)
theorem gm_parts_556 : GoodIn wm_parts (wsV RX12 556 RX12 yX12_isRepeated wm_isRepeated) := goodIn_app (goodIn_of _ (by decide +kernel)) gm_parts_556g
set_option maxHeartbeats 4000000 in
set_option maxRecDepth 100000 in
theorem m_parts (l : Launch) (dC : Nat → ClassId) (dI : Nat → Nat → Nat) (sz : Nat) (h0 : Nat) (v1 : Int32) (v2 : Int32) (a1 : Nat) (a2 : Nat) (a3 : Nat) (a4 : Nat) (a5 : Nat) (a7 : Nat) (a8 : Nat) (a10 : Nat) (a11 : Nat) (a12 : Nat) (a13 : Nat) (a15 : Nat) (a16 : Nat) (a17 : Nat) (a18 : Nat) (a19 : Nat) (a20 : Nat) (a21 : Nat) (a22 : Nat) (a24 : Nat) (a26 : Nat) (a27 : Nat) (a29 : Nat) (a30 : Nat) (a31 : Nat) (a32 : Nat) (a33 : Nat) (a35 : Nat) (a36 : Nat) (a38 : Nat) (a50 : Nat) (a51 : Nat) (a54 : Nat) (a55 : Nat) (a57 : Nat) (a58 : Nat) (a59 : Nat) (a60 : Nat) (a64 : Nat) : Met l yX12_parts wm_parts ({ frames := 3, cells := 0, slots := 0, locals := 70 } : Room) (va_Pc [.ref h0, .int v1, .int v2] (fun U => U.heap.size = sz ∧ va_P (dC, dI) cls [(h0, .inr (12, [.int 0, .ref a1, .ref a2, .ref a3, .ref a4, .ref a5, .int 0, .ref a7, .ref a8, .int 0, .ref a10, .ref a11, .ref a12, .ref a13, .int 0, .ref a15, .ref a16, .ref a17, .ref a18, .ref a19, .ref a20, .ref a21, .ref a22, .int 0, .ref a24, .int 0, .ref a26, .ref a27, .int 0, .ref a29, .ref a30, .ref a31, .ref a32, .ref a33, .int 0, .ref a35, .ref a36, .int 0, .ref a38, .int 0, .int 0, .int 0, .int 0, .int 0, .long 0, .int 0, .int 0, .int (-1), .int (-1), .int 0, .ref a50, .ref a51, .int 0, .int 0, .ref a54, .ref a55, .int (-1), .ref a57, .ref a58, .ref a59, .ref a60, .int 0, .int 0, .int 0, .ref a64]))] U.heap ∧ va_K (dC, dI) cls [] U ∧ va_D (fun _ => True) [(h0, .inr (12, [.int 0, .ref a1, .ref a2, .ref a3, .ref a4, .ref a5, .int 0, .ref a7, .ref a8, .int 0, .ref a10, .ref a11, .ref a12, .ref a13, .int 0, .ref a15, .ref a16, .ref a17, .ref a18, .ref a19, .ref a20, .ref a21, .ref a22, .int 0, .ref a24, .int 0, .ref a26, .ref a27, .int 0, .ref a29, .ref a30, .ref a31, .ref a32, .ref a33, .int 0, .ref a35, .ref a36, .int 0, .ref a38, .int 0, .int 0, .int 0, .int 0, .int 0, .long 0, .int 0, .int 0, .int (-1), .int (-1), .int 0, .ref a50, .ref a51, .int 0, .int 0, .ref a54, .ref a55, .int (-1), .ref a57, .ref a58, .ref a59, .ref a60, .int 0, .int 0, .int 0, .ref a64]))])) (va_Qi (fun (r : Int32) (_ : Unit) => r = -1) (fun (_ : Unit) t => va_P (dC, dI) cls [] t.heap ∧ va_K (dC, dI) cls [] t ∧ va_D (va_A [(h0, .inr (12, [.int 0, .ref a1, .ref a2, .ref a3, .ref a4, .ref a5, .int 0, .ref a7, .ref a8, .int 0, .ref a10, .ref a11, .ref a12, .ref a13, .int 0, .ref a15, .ref a16, .ref a17, .ref a18, .ref a19, .ref a20, .ref a21, .ref a22, .int 0, .ref a24, .int 0, .ref a26, .ref a27, .int 0, .ref a29, .ref a30, .ref a31, .ref a32, .ref a33, .int 0, .ref a35, .ref a36, .int 0, .ref a38, .int 0, .int 0, .int 0, .int 0, .int 0, .long 0, .int 0, .int 0, .int (-1), .int (-1), .int 0, .ref a50, .ref a51, .int 0, .int 0, .ref a54, .ref a55, .int (-1), .ref a57, .ref a58, .ref a59, .ref a60, .int 0, .int 0, .int 0, .ref a64]))] sz) []) (va_A [(h0, .inr (12, [.int 0, .ref a1, .ref a2, .ref a3, .ref a4, .ref a5, .int 0, .ref a7, .ref a8, .int 0, .ref a10, .ref a11, .ref a12, .ref a13, .int 0, .ref a15, .ref a16, .ref a17, .ref a18, .ref a19, .ref a20, .ref a21, .ref a22, .int 0, .ref a24, .int 0, .ref a26, .ref a27, .int 0, .ref a29, .ref a30, .ref a31, .ref a32, .ref a33, .int 0, .ref a35, .ref a36, .int 0, .ref a38, .int 0, .int 0, .int 0, .int 0, .int 0, .long 0, .int 0, .int 0, .int (-1), .int (-1), .int 0, .ref a50, .ref a51, .int 0, .int 0, .ref a54, .ref a55, .int (-1), .ref a57, .ref a58, .ref a59, .ref a60, .int 0, .int 0, .int 0, .ref a64]))] sz)) 0 0 (va_A [(h0, .inr (12, [.int 0, .ref a1, .ref a2, .ref a3, .ref a4, .ref a5, .int 0, .ref a7, .ref a8, .int 0, .ref a10, .ref a11, .ref a12, .ref a13, .int 0, .ref a15, .ref a16, .ref a17, .ref a18, .ref a19, .ref a20, .ref a21, .ref a22, .int 0, .ref a24, .int 0, .ref a26, .ref a27, .int 0, .ref a29, .ref a30, .ref a31, .ref a32, .ref a33, .int 0, .ref a35, .ref a36, .int 0, .ref a38, .int 0, .int 0, .int 0, .int 0, .int 0, .long 0, .int 0, .int 0, .int (-1), .int (-1), .int 0, .ref a50, .ref a51, .int 0, .int 0, .ref a54, .ref a55, .int (-1), .ref a57, .ref a58, .ref a59, .ref a60, .int 0, .int 0, .int 0, .ref a64]))] sz) := by
  refine Met.ofW (cc := cX12_parts) (maxL := 4) (ret := (some .int)) (by decide) rfl ?_
  intro p e s m args below meth c s₁ B hml hv
  obtain ⟨rfl, hsz, hP, hK, hD0⟩ := hv
  have hx := B.exec
  have hb := B.bytes
  have hr := B.returns
  have hts := atoms_spec (ws := wm_parts) B.pre
  have hown : s.vm.findClass RX12 = some m.cls := findClass_of_methodNamed B.named
  have hlocks := B.notSynchronized
  subst hsz
  have hD := hD0.self (sz := s.heap.size)
  generalize hAe : va_A [(h0, .inr (12, [.int 0, .ref a1, .ref a2, .ref a3, .ref a4, .ref a5, .int 0, .ref a7, .ref a8, .int 0, .ref a10, .ref a11, .ref a12, .ref a13, .int 0, .ref a15, .ref a16, .ref a17, .ref a18, .ref a19, .ref a20, .ref a21, .ref a22, .int 0, .ref a24, .int 0, .ref a26, .ref a27, .int 0, .ref a29, .ref a30, .ref a31, .ref a32, .ref a33, .int 0, .ref a35, .ref a36, .int 0, .ref a38, .int 0, .int 0, .int 0, .int 0, .int 0, .long 0, .int 0, .int 0, .int (-1), .int (-1), .int 0, .ref a50, .ref a51, .int 0, .int 0, .ref a54, .ref a55, .int (-1), .ref a57, .ref a58, .ref a59, .ref a60, .int 0, .int 0, .int 0, .ref a64]))] s.heap.size = A at hD ⊢
  have hA : ∀ q : Nat, s.heap.size ≤ q → A q := fun q h => by rw [← hAe]; exact Or.inr h
  have hP : va_P (dC, dI) cls [(h0, .inr (12, [.int 0, .ref a1, .ref a2, .ref a3, .ref a4, .ref a5, .int 0, .ref a7, .ref a8, .int 0, .ref a10, .ref a11, .ref a12, .ref a13, .int 0, .ref a15, .ref a16, .ref a17, .ref a18, .ref a19, .ref a20, .ref a21, .ref a22, .int 0, .ref a24, .int 0, .ref a26, .ref a27, .int 0, .ref a29, .ref a30, .ref a31, .ref a32, .ref a33, .int 0, .ref a35, .ref a36, .int 0, .ref a38, .int 0, .int 0, .int 0, .int 0, .int 0, .long 0, .int 0, .int 0, .int (-1), .int (-1), .int 0, .ref a50, .ref a51, .int 0, .int 0, .ref a54, .ref a55, .int (-1), .ref a57, .ref a58, .ref a59, .ref a60, .int 0, .int 0, .int 0, .ref a64]))] s.heap := hP
  have hl := lv_entry ([.ref h0, .int v1, .int v2]) (n := 4) (Nat.le_of_ble_eq_true rfl)
  rw [lg_entry_eq]
  generalize (lg_sl ([.ref h0, .int v1, .int v2]) ++ List.replicate (4 - (lg_sl ([.ref h0, .int v1, .int v2])).length) Slot.unset).toArray = ls at hl ⊢
  have hl : lv_has ls 4 [(0, .ref h0), (1, .int v1), (2, .int v2)] := hl
  obtain ⟨H, hH⟩ : ∃ H : Heap, s.heap = H := ⟨_, rfl⟩
  rw [hH] at hP ⊢
  have hS : va_S A s.heap H [] := by rw [← hH]; exact va_S.rf
  refine lv_aload_n hx hb dX12_parts_0 rfl (lv_at hl 0 rfl) ?_
  refine lv_iconst (v := 0) hx hb dX12_parts_1 (by decide) ?_
  refine va_put (D := (dC, dI)) (ci := 12) (v := .int 0) (ty := .int) (C := RX12) (T := TX12) (N := 65) hx hb hts im_parts_RX12 tyX12 tyX12_ok nmX12 hown hK hP hD hS 0 rfl rfl 0 (by decide) (hts (.fieldLink RX12 142 "PutBackModel" "told" "I") (by decide +kernel)) (fun _ h9 => h9) rfl (by decide +kernel) rfl rfl (Nat.le_of_ble_eq_true rfl) dX12_parts_2 (fun H locs hP hD hS => ?_)
  have hP : va_P (dC, dI) cls [(h0, .inr (12, [.int 0, .ref a1, .ref a2, .ref a3, .ref a4, .ref a5, .int 0, .ref a7, .ref a8, .int 0, .ref a10, .ref a11, .ref a12, .ref a13, .int 0, .ref a15, .ref a16, .ref a17, .ref a18, .ref a19, .ref a20, .ref a21, .ref a22, .int 0, .ref a24, .int 0, .ref a26, .ref a27, .int 0, .ref a29, .ref a30, .ref a31, .ref a32, .ref a33, .int 0, .ref a35, .ref a36, .int 0, .ref a38, .int 0, .int 0, .int 0, .int 0, .int 0, .long 0, .int 0, .int 0, .int (-1), .int (-1), .int 0, .ref a50, .ref a51, .int 0, .int 0, .ref a54, .ref a55, .int (-1), .ref a57, .ref a58, .ref a59, .ref a60, .int 0, .int 0, .int 0, .ref a64]))] H := hP
  have hD : va_D A [(h0, .inr (12, [.int 0, .ref a1, .ref a2, .ref a3, .ref a4, .ref a5, .int 0, .ref a7, .ref a8, .int 0, .ref a10, .ref a11, .ref a12, .ref a13, .int 0, .ref a15, .ref a16, .ref a17, .ref a18, .ref a19, .ref a20, .ref a21, .ref a22, .int 0, .ref a24, .int 0, .ref a26, .ref a27, .int 0, .ref a29, .ref a30, .ref a31, .ref a32, .ref a33, .int 0, .ref a35, .ref a36, .int 0, .ref a38, .int 0, .int 0, .int 0, .int 0, .int 0, .long 0, .int 0, .int 0, .int (-1), .int (-1), .int 0, .ref a50, .ref a51, .int 0, .int 0, .ref a54, .ref a55, .int (-1), .ref a57, .ref a58, .ref a59, .ref a60, .int 0, .int 0, .int 0, .ref a64]))] := hD
  refine lv_aload_n hx hb dX12_parts_5 rfl (lv_at hl 0 rfl) ?_
  refine lv_iload_n hx hb dX12_parts_6 rfl (lv_at hl 1 rfl) ?_
  refine lv_iload_n hx hb dX12_parts_7 rfl (lv_at hl 2 rfl) ?_
  have hPc := hP.sub (ws' := [(h0, .inr (12, [.int 0, .ref a1, .ref a2, .ref a3, .ref a4, .ref a5, .int 0, .ref a7, .ref a8, .int 0, .ref a10, .ref a11, .ref a12, .ref a13, .int 0, .ref a15, .ref a16, .ref a17, .ref a18, .ref a19, .ref a20, .ref a21, .ref a22, .int 0, .ref a24, .int 0, .ref a26, .ref a27, .int 0, .ref a29, .ref a30, .ref a31, .ref a32, .ref a33, .int 0, .ref a35, .ref a36, .int 0, .ref a38, .int 0, .int 0, .int 0, .int 0, .int 0, .long 0, .int 0, .int 0, .int (-1), .int (-1), .int 0, .ref a50, .ref a51, .int 0, .int 0, .ref a54, .ref a55, .int (-1), .ref a57, .ref a58, .ref a59, .ref a60, .int 0, .int 0, .int 0, .ref a64]))]) [0] rfl
  have hDc := hD.sub (ws' := [(h0, .inr (12, [.int 0, .ref a1, .ref a2, .ref a3, .ref a4, .ref a5, .int 0, .ref a7, .ref a8, .int 0, .ref a10, .ref a11, .ref a12, .ref a13, .int 0, .ref a15, .ref a16, .ref a17, .ref a18, .ref a19, .ref a20, .ref a21, .ref a22, .int 0, .ref a24, .int 0, .ref a26, .ref a27, .int 0, .ref a29, .ref a30, .ref a31, .ref a32, .ref a33, .int 0, .ref a35, .ref a36, .int 0, .ref a38, .int 0, .int 0, .int 0, .int 0, .int 0, .long 0, .int 0, .int 0, .int (-1), .int (-1), .int 0, .ref a50, .ref a51, .int 0, .int 0, .ref a54, .ref a55, .int (-1), .ref a57, .ref a58, .ref a59, .ref a60, .int 0, .int 0, .int 0, .ref a64]))]) [0] (by decide) rfl
  have hKc := hK.sub (tys' := []) [] rfl
  have hFc := va_free (wc := [(h0, .inr (12, [.int 0, .ref a1, .ref a2, .ref a3, .ref a4, .ref a5, .int 0, .ref a7, .ref a8, .int 0, .ref a10, .ref a11, .ref a12, .ref a13, .int 0, .ref a15, .ref a16, .ref a17, .ref a18, .ref a19, .ref a20, .ref a21, .ref a22, .int 0, .ref a24, .int 0, .ref a26, .ref a27, .int 0, .ref a29, .ref a30, .ref a31, .ref a32, .ref a33, .int 0, .ref a35, .ref a36, .int 0, .ref a38, .int 0, .int 0, .int 0, .int 0, .int 0, .long 0, .int 0, .int 0, .int (-1), .int (-1), .int 0, .ref a50, .ref a51, .int 0, .int 0, .ref a54, .ref a55, .int (-1), .ref a57, .ref a58, .ref a59, .ref a60, .int 0, .int 0, .int 0, .ref a64]))]) hD hS hA [0] rfl
  refine va_calli (va_runV (As := [.int v1, .int v2]) (rest := []) ⟨hx, hb, hml, hown, hts⟩ (m_isRepeated l dC dI H.size h0 v1 v2 a1 a2 a3 a4 a5 a7 a8 a10 a11 a12 a13 a15 a16 a17 a18 a19 a20 a21 a22 a24 a26 a27 a29 a30 a31 a32 a33 a35 a36 a38 a50 a51 a54 a55 a57 a58 a59 a60 a64) (cwV 2 hts gm_parts_556 rfl rfl rfl (by decide +kernel) ⟨Nat.le_of_ble_eq_true rfl, Nat.le_of_ble_eq_true rfl⟩) ⟨fun a U g mk q => by obtain ⟨q0, q1, qP, qK, qD⟩ := q; exact ⟨q0, q1, qP, va_K.moved (u := U) (U := U.calling g mk a) (Vm.Alike.refl U.vm) qK, qD⟩, va_recv hK hP (ci := 12) (q0 := 0) rfl rfl, fun U hU hW => ⟨rfl, by rw [hU], by rw [hU]; exact hPc, va_K.moved hW.alike hKc, hDc.weaken (fun _ _ _ _ => trivial)⟩⟩ rfl rfl hl.1 rfl (lv_room (Nat.le_of_ble_eq_true rfl)) dX12_parts_8 ⟨Nat.le_of_ble_eq_true rfl, Nat.le_of_ble_eq_true rfl⟩) hS (fun q _ h => hFc q h) hFc (fun r_2 u t H1 locs ht hvm hw hB hz1 hk1 hS => ?_)
  obtain ⟨hP1, hK1, hD1⟩ := hB
  rw [ht] at hP1
  try dsimp only at hw
  obtain ⟨hP, hD⟩ := va_join (wr := []) (w1 := [(h0, .inr (12, [.int 0, .ref a1, .ref a2, .ref a3, .ref a4, .ref a5, .int 0, .ref a7, .ref a8, .int 0, .ref a10, .ref a11, .ref a12, .ref a13, .int 0, .ref a15, .ref a16, .ref a17, .ref a18, .ref a19, .ref a20, .ref a21, .ref a22, .int 0, .ref a24, .int 0, .ref a26, .ref a27, .int 0, .ref a29, .ref a30, .ref a31, .ref a32, .ref a33, .int 0, .ref a35, .ref a36, .int 0, .ref a38, .int 0, .int 0, .int 0, .int 0, .int 0, .long 0, .int 0, .int 0, .int (-1), .int (-1), .int 0, .ref a50, .ref a51, .int 0, .int 0, .ref a54, .ref a55, .int (-1), .ref a57, .ref a58, .ref a59, .ref a60, .int 0, .int 0, .int 0, .ref a64]))]) hP hD [0] [] rfl rfl (by decide) (by decide) hk1 hFc hP1 hD1
  clear hk1 hz1 hPc hDc hFc hP1 hD1 hK1 hKc
  generalize H1 = H at hP hS ⊢
  have hP : va_P (dC, dI) cls [(h0, .inr (12, [.int 0, .ref a1, .ref a2, .ref a3, .ref a4, .ref a5, .int 0, .ref a7, .ref a8, .int 0, .ref a10, .ref a11, .ref a12, .ref a13, .int 0, .ref a15, .ref a16, .ref a17, .ref a18, .ref a19, .ref a20, .ref a21, .ref a22, .int 0, .ref a24, .int 0, .ref a26, .ref a27, .int 0, .ref a29, .ref a30, .ref a31, .ref a32, .ref a33, .int 0, .ref a35, .ref a36, .int 0, .ref a38, .int 0, .int 0, .int 0, .int 0, .int 0, .long 0, .int 0, .int 0, .int (-1), .int (-1), .int 0, .ref a50, .ref a51, .int 0, .int 0, .ref a54, .ref a55, .int (-1), .ref a57, .ref a58, .ref a59, .ref a60, .int 0, .int 0, .int 0, .ref a64]))] H := hP
  have hD : va_D A [(h0, .inr (12, [.int 0, .ref a1, .ref a2, .ref a3, .ref a4, .ref a5, .int 0, .ref a7, .ref a8, .int 0, .ref a10, .ref a11, .ref a12, .ref a13, .int 0, .ref a15, .ref a16, .ref a17, .ref a18, .ref a19, .ref a20, .ref a21, .ref a22, .int 0, .ref a24, .int 0, .ref a26, .ref a27, .int 0, .ref a29, .ref a30, .ref a31, .ref a32, .ref a33, .int 0, .ref a35, .ref a36, .int 0, .ref a38, .int 0, .int 0, .int 0, .int 0, .int 0, .long 0, .int 0, .int 0, .int (-1), .int (-1), .int 0, .ref a50, .ref a51, .int 0, .int 0, .ref a54, .ref a55, .int (-1), .ref a57, .ref a58, .ref a59, .ref a60, .int 0, .int 0, .int 0, .ref a64]))] := hD
  obtain rfl := hw
  refine lv_if_ne (tgt := 16) hx hb dX12_parts_11 (by decide) (fun c_3 => ?_) (fun c_3 => ?_)
  · exact absurd c_3 (by decide)
  refine lv_iconst (v := (-1)) hx hb dX12_parts_14 (by decide) ?_
  have hP9 := hP.sub (ws' := []) [] rfl
  have hD9 := hD.sub (ws' := []) [] (by decide) rfl
  exact W.iret (v := (-1)) hx hb hr (fun t ht hW => ⟨⟨(-1), (), rfl, rfl, by rw [ht]; exact hP9, va_K.moved hW.alike hK, hD9⟩, hS.F ht⟩) hS.2.2 dX12_parts_15
def wm_aligned : List Cond := .code yX12_aligned cX12_aligned 8 (some .int) :: ([.fieldLink RX12 142 "PutBackModel" "told" "I", .methodLink RX12 556 yX12_isRepeated, .instanceMethod yX12_isRepeated, .selects RX12 yX12_isRepeated yX12_isRepeated, .initialized RX12, .code yX12_isRepeated cX12_isRepeated 4 (some .boolean), .methodLink RX12 520 yX12_isLens, .instanceMethod yX12_isLens, .selects RX12 yX12_isLens yX12_isLens, .code yX12_isLens cX12_isLens 2 (some .boolean), .fieldLink RX12 506 "PutBackModel" "lenses" "I", .methodLink RX12 153 yX12_isIn, .instanceMethod yX12_isIn, .selects RX12 yX12_isIn yX12_isIn, .code yX12_isIn cX12_isIn 7 (some .boolean)] ++ wsX120)
theorem im_aligned_RX12 : ∀ w ∈ u_ws RX12 TX12 65, w ∈ wm_aligned := fun w h => List.mem_cons_of_mem _ (List.mem_append_right _ h)
theorem gm_aligned_556g : GoodIn wm_aligned wm_isRepeated := goodIn_r _ [6, 7, 8, 9, 5, 10, 11, 12, 13, 14, 15, 16, 17, 18, 19, 20, 21, 22, 23, 24, 25, 26, 27, 28, 29, 30, 31, 32, 33, 34, 35, 36, 37, 38, 39, 40, 41, 42, 43, 44, 45, 46, 47, 48, 49, 50, 51, 52, 53, 54, 55, 56, 57, 58, 59, 60, 61, 62, 63, 64, 65, 66, 67, 68, 69, 70, 71, 72, 73, 74, 75, 76, 77, 78, 79, 80] (by decide +kernel) (by decide +kernel)
theorem gm_aligned_556 : GoodIn wm_aligned (wsV RX12 556 RX12 yX12_isRepeated wm_isRepeated) := goodIn_app (goodIn_of _ (by decide +kernel)) gm_aligned_556g
set_option maxHeartbeats 4000000 in
set_option maxRecDepth 100000 in
theorem m_aligned (l : Launch) (dC : Nat → ClassId) (dI : Nat → Nat → Nat) (sz : Nat) (h0 : Nat) (v1 : Int32) (v2 : Int32) (v3 : Int32) (v4 : Int32) (a1 : Nat) (a2 : Nat) (a3 : Nat) (a4 : Nat) (a5 : Nat) (a7 : Nat) (a8 : Nat) (a10 : Nat) (a11 : Nat) (a12 : Nat) (a13 : Nat) (a15 : Nat) (a16 : Nat) (a17 : Nat) (a18 : Nat) (a19 : Nat) (a20 : Nat) (a21 : Nat) (a22 : Nat) (a24 : Nat) (a26 : Nat) (a27 : Nat) (a29 : Nat) (a30 : Nat) (a31 : Nat) (a32 : Nat) (a33 : Nat) (a35 : Nat) (a36 : Nat) (a38 : Nat) (a50 : Nat) (a51 : Nat) (a54 : Nat) (a55 : Nat) (a57 : Nat) (a58 : Nat) (a59 : Nat) (a60 : Nat) (a64 : Nat) : Met l yX12_aligned wm_aligned ({ frames := 3, cells := 0, slots := 0, locals := 70 } : Room) (va_Pc [.ref h0, .int v1, .int v2, .int v3, .int v4] (fun U => U.heap.size = sz ∧ va_P (dC, dI) cls [(h0, .inr (12, [.int 0, .ref a1, .ref a2, .ref a3, .ref a4, .ref a5, .int 0, .ref a7, .ref a8, .int 0, .ref a10, .ref a11, .ref a12, .ref a13, .int 0, .ref a15, .ref a16, .ref a17, .ref a18, .ref a19, .ref a20, .ref a21, .ref a22, .int 0, .ref a24, .int 0, .ref a26, .ref a27, .int 0, .ref a29, .ref a30, .ref a31, .ref a32, .ref a33, .int 0, .ref a35, .ref a36, .int 0, .ref a38, .int 0, .int 0, .int 0, .int 0, .int 0, .long 0, .int 0, .int 0, .int (-1), .int (-1), .int 0, .ref a50, .ref a51, .int 0, .int 0, .ref a54, .ref a55, .int (-1), .ref a57, .ref a58, .ref a59, .ref a60, .int 0, .int 0, .int 0, .ref a64]))] U.heap ∧ va_K (dC, dI) cls [] U ∧ va_D (fun _ => True) [(h0, .inr (12, [.int 0, .ref a1, .ref a2, .ref a3, .ref a4, .ref a5, .int 0, .ref a7, .ref a8, .int 0, .ref a10, .ref a11, .ref a12, .ref a13, .int 0, .ref a15, .ref a16, .ref a17, .ref a18, .ref a19, .ref a20, .ref a21, .ref a22, .int 0, .ref a24, .int 0, .ref a26, .ref a27, .int 0, .ref a29, .ref a30, .ref a31, .ref a32, .ref a33, .int 0, .ref a35, .ref a36, .int 0, .ref a38, .int 0, .int 0, .int 0, .int 0, .int 0, .long 0, .int 0, .int 0, .int (-1), .int (-1), .int 0, .ref a50, .ref a51, .int 0, .int 0, .ref a54, .ref a55, .int (-1), .ref a57, .ref a58, .ref a59, .ref a60, .int 0, .int 0, .int 0, .ref a64]))])) (va_Qi (fun (r : Int32) (_ : Unit) => r = -1) (fun (_ : Unit) t => va_P (dC, dI) cls [] t.heap ∧ va_K (dC, dI) cls [] t ∧ va_D (va_A [(h0, .inr (12, [.int 0, .ref a1, .ref a2, .ref a3, .ref a4, .ref a5, .int 0, .ref a7, .ref a8, .int 0, .ref a10, .ref a11, .ref a12, .ref a13, .int 0, .ref a15, .ref a16, .ref a17, .ref a18, .ref a19, .ref a20, .ref a21, .ref a22, .int 0, .ref a24, .int 0, .ref a26, .ref a27, .int 0, .ref a29, .ref a30, .ref a31, .ref a32, .ref a33, .int 0, .ref a35, .ref a36, .int 0, .ref a38, .int 0, .int 0, .int 0, .int 0, .int 0, .long 0, .int 0, .int 0, .int (-1), .int (-1), .int 0, .ref a50, .ref a51, .int 0, .int 0, .ref a54, .ref a55, .int (-1), .ref a57, .ref a58, .ref a59, .ref a60, .int 0, .int 0, .int 0, .ref a64]))] sz) []) (va_A [(h0, .inr (12, [.int 0, .ref a1, .ref a2, .ref a3, .ref a4, .ref a5, .int 0, .ref a7, .ref a8, .int 0, .ref a10, .ref a11, .ref a12, .ref a13, .int 0, .ref a15, .ref a16, .ref a17, .ref a18, .ref a19, .ref a20, .ref a21, .ref a22, .int 0, .ref a24, .int 0, .ref a26, .ref a27, .int 0, .ref a29, .ref a30, .ref a31, .ref a32, .ref a33, .int 0, .ref a35, .ref a36, .int 0, .ref a38, .int 0, .int 0, .int 0, .int 0, .int 0, .long 0, .int 0, .int 0, .int (-1), .int (-1), .int 0, .ref a50, .ref a51, .int 0, .int 0, .ref a54, .ref a55, .int (-1), .ref a57, .ref a58, .ref a59, .ref a60, .int 0, .int 0, .int 0, .ref a64]))] sz)) 0 0 (va_A [(h0, .inr (12, [.int 0, .ref a1, .ref a2, .ref a3, .ref a4, .ref a5, .int 0, .ref a7, .ref a8, .int 0, .ref a10, .ref a11, .ref a12, .ref a13, .int 0, .ref a15, .ref a16, .ref a17, .ref a18, .ref a19, .ref a20, .ref a21, .ref a22, .int 0, .ref a24, .int 0, .ref a26, .ref a27, .int 0, .ref a29, .ref a30, .ref a31, .ref a32, .ref a33, .int 0, .ref a35, .ref a36, .int 0, .ref a38, .int 0, .int 0, .int 0, .int 0, .int 0, .long 0, .int 0, .int 0, .int (-1), .int (-1), .int 0, .ref a50, .ref a51, .int 0, .int 0, .ref a54, .ref a55, .int (-1), .ref a57, .ref a58, .ref a59, .ref a60, .int 0, .int 0, .int 0, .ref a64]))] sz) := by
  refine Met.ofW (cc := cX12_aligned) (maxL := 8) (ret := (some .int)) (by decide) rfl ?_
  intro p e s m args below meth c s₁ B hml hv
  obtain ⟨rfl, hsz, hP, hK, hD0⟩ := hv
  have hx := B.exec
  have hb := B.bytes
  have hr := B.returns
  have hts := atoms_spec (ws := wm_aligned) B.pre
  have hown : s.vm.findClass RX12 = some m.cls := findClass_of_methodNamed B.named
  have hlocks := B.notSynchronized
  subst hsz
  have hD := hD0.self (sz := s.heap.size)
  generalize hAe : va_A [(h0, .inr (12, [.int 0, .ref a1, .ref a2, .ref a3, .ref a4, .ref a5, .int 0, .ref a7, .ref a8, .int 0, .ref a10, .ref a11, .ref a12, .ref a13, .int 0, .ref a15, .ref a16, .ref a17, .ref a18, .ref a19, .ref a20, .ref a21, .ref a22, .int 0, .ref a24, .int 0, .ref a26, .ref a27, .int 0, .ref a29, .ref a30, .ref a31, .ref a32, .ref a33, .int 0, .ref a35, .ref a36, .int 0, .ref a38, .int 0, .int 0, .int 0, .int 0, .int 0, .long 0, .int 0, .int 0, .int (-1), .int (-1), .int 0, .ref a50, .ref a51, .int 0, .int 0, .ref a54, .ref a55, .int (-1), .ref a57, .ref a58, .ref a59, .ref a60, .int 0, .int 0, .int 0, .ref a64]))] s.heap.size = A at hD ⊢
  have hA : ∀ q : Nat, s.heap.size ≤ q → A q := fun q h => by rw [← hAe]; exact Or.inr h
  have hP : va_P (dC, dI) cls [(h0, .inr (12, [.int 0, .ref a1, .ref a2, .ref a3, .ref a4, .ref a5, .int 0, .ref a7, .ref a8, .int 0, .ref a10, .ref a11, .ref a12, .ref a13, .int 0, .ref a15, .ref a16, .ref a17, .ref a18, .ref a19, .ref a20, .ref a21, .ref a22, .int 0, .ref a24, .int 0, .ref a26, .ref a27, .int 0, .ref a29, .ref a30, .ref a31, .ref a32, .ref a33, .int 0, .ref a35, .ref a36, .int 0, .ref a38, .int 0, .int 0, .int 0, .int 0, .int 0, .long 0, .int 0, .int 0, .int (-1), .int (-1), .int 0, .ref a50, .ref a51, .int 0, .int 0, .ref a54, .ref a55, .int (-1), .ref a57, .ref a58, .ref a59, .ref a60, .int 0, .int 0, .int 0, .ref a64]))] s.heap := hP
  have hl := lv_entry ([.ref h0, .int v1, .int v2, .int v3, .int v4]) (n := 8) (Nat.le_of_ble_eq_true rfl)
  rw [lg_entry_eq]
  generalize (lg_sl ([.ref h0, .int v1, .int v2, .int v3, .int v4]) ++ List.replicate (8 - (lg_sl ([.ref h0, .int v1, .int v2, .int v3, .int v4])).length) Slot.unset).toArray = ls at hl ⊢
  have hl : lv_has ls 8 [(0, .ref h0), (1, .int v1), (2, .int v2), (3, .int v3), (4, .int v4)] := hl
  obtain ⟨H, hH⟩ : ∃ H : Heap, s.heap = H := ⟨_, rfl⟩
  rw [hH] at hP ⊢
  have hS : va_S A s.heap H [] := by rw [← hH]; exact va_S.rf
  refine lv_aload_n hx hb dX12_aligned_0 rfl (lv_at hl 0 rfl) ?_
  refine lv_iconst (v := 0) hx hb dX12_aligned_1 (by decide) ?_
  refine va_put (D := (dC, dI)) (ci := 12) (v := .int 0) (ty := .int) (C := RX12) (T := TX12) (N := 65) hx hb hts im_aligned_RX12 tyX12 tyX12_ok nmX12 hown hK hP hD hS 0 rfl rfl 0 (by decide) (hts (.fieldLink RX12 142 "PutBackModel" "told" "I") (by decide +kernel)) (fun _ h9 => h9) rfl (by decide +kernel) rfl rfl (Nat.le_of_ble_eq_true rfl) dX12_aligned_2 (fun H locs hP hD hS => ?_)
  have hP : va_P (dC, dI) cls [(h0, .inr (12, [.int 0, .ref a1, .ref a2, .ref a3, .ref a4, .ref a5, .int 0, .ref a7, .ref a8, .int 0, .ref a10, .ref a11, .ref a12, .ref a13, .int 0, .ref a15, .ref a16, .ref a17, .ref a18, .ref a19, .ref a20, .ref a21, .ref a22, .int 0, .ref a24, .int 0, .ref a26, .ref a27, .int 0, .ref a29, .ref a30, .ref a31, .ref a32, .ref a33, .int 0, .ref a35, .ref a36, .int 0, .ref a38, .int 0, .int 0, .int 0, .int 0, .int 0, .long 0, .int 0, .int 0, .int (-1), .int (-1), .int 0, .ref a50, .ref a51, .int 0, .int 0, .ref a54, .ref a55, .int (-1), .ref a57, .ref a58, .ref a59, .ref a60, .int 0, .int 0, .int 0, .ref a64]))] H := hP
  have hD : va_D A [(h0, .inr (12, [.int 0, .ref a1, .ref a2, .ref a3, .ref a4, .ref a5, .int 0, .ref a7, .ref a8, .int 0, .ref a10, .ref a11, .ref a12, .ref a13, .int 0, .ref a15, .ref a16, .ref a17, .ref a18, .ref a19, .ref a20, .ref a21, .ref a22, .int 0, .ref a24, .int 0, .ref a26, .ref a27, .int 0, .ref a29, .ref a30, .ref a31, .ref a32, .ref a33, .int 0, .ref a35, .ref a36, .int 0, .ref a38, .int 0, .int 0, .int 0, .int 0, .int 0, .long 0, .int 0, .int 0, .int (-1), .int (-1), .int 0, .ref a50, .ref a51, .int 0, .int 0, .ref a54, .ref a55, .int (-1), .ref a57, .ref a58, .ref a59, .ref a60, .int 0, .int 0, .int 0, .ref a64]))] := hD
  refine lv_aload_n hx hb dX12_aligned_5 rfl (lv_at hl 0 rfl) ?_
  refine lv_iload_n hx hb dX12_aligned_6 rfl (lv_at hl 1 rfl) ?_
  refine lv_iload_n hx hb dX12_aligned_7 rfl (lv_at hl 2 rfl) ?_
  have hPc := hP.sub (ws' := [(h0, .inr (12, [.int 0, .ref a1, .ref a2, .ref a3, .ref a4, .ref a5, .int 0, .ref a7, .ref a8, .int 0, .ref a10, .ref a11, .ref a12, .ref a13, .int 0, .ref a15, .ref a16, .ref a17, .ref a18, .ref a19, .ref a20, .ref a21, .ref a22, .int 0, .ref a24, .int 0, .ref a26, .ref a27, .int 0, .ref a29, .ref a30, .ref a31, .ref a32, .ref a33, .int 0, .ref a35, .ref a36, .int 0, .ref a38, .int 0, .int 0, .int 0, .int 0, .int 0, .long 0, .int 0, .int 0, .int (-1), .int (-1), .int 0, .ref a50, .ref a51, .int 0, .int 0, .ref a54, .ref a55, .int (-1), .ref a57, .ref a58, .ref a59, .ref a60, .int 0, .int 0, .int 0, .ref a64]))]) [0] rfl
  have hDc := hD.sub (ws' := [(h0, .inr (12, [.int 0, .ref a1, .ref a2, .ref a3, .ref a4, .ref a5, .int 0, .ref a7, .ref a8, .int 0, .ref a10, .ref a11, .ref a12, .ref a13, .int 0, .ref a15, .ref a16, .ref a17, .ref a18, .ref a19, .ref a20, .ref a21, .ref a22, .int 0, .ref a24, .int 0, .ref a26, .ref a27, .int 0, .ref a29, .ref a30, .ref a31, .ref a32, .ref a33, .int 0, .ref a35, .ref a36, .int 0, .ref a38, .int 0, .int 0, .int 0, .int 0, .int 0, .long 0, .int 0, .int 0, .int (-1), .int (-1), .int 0, .ref a50, .ref a51, .int 0, .int 0, .ref a54, .ref a55, .int (-1), .ref a57, .ref a58, .ref a59, .ref a60, .int 0, .int 0, .int 0, .ref a64]))]) [0] (by decide) rfl
  have hKc := hK.sub (tys' := []) [] rfl
  have hFc := va_free (wc := [(h0, .inr (12, [.int 0, .ref a1, .ref a2, .ref a3, .ref a4, .ref a5, .int 0, .ref a7, .ref a8, .int 0, .ref a10, .ref a11, .ref a12, .ref a13, .int 0, .ref a15, .ref a16, .ref a17, .ref a18, .ref a19, .ref a20, .ref a21, .ref a22, .int 0, .ref a24, .int 0, .ref a26, .ref a27, .int 0, .ref a29, .ref a30, .ref a31, .ref a32, .ref a33, .int 0, .ref a35, .ref a36, .int 0, .ref a38, .int 0, .int 0, .int 0, .int 0, .int 0, .long 0, .int 0, .int 0, .int (-1), .int (-1), .int 0, .ref a50, .ref a51, .int 0, .int 0, .ref a54, .ref a55, .int (-1), .ref a57, .ref a58, .ref a59, .ref a60, .int 0, .int 0, .int 0, .ref a64]))]) hD hS hA [0] rfl
  refine va_calli (va_runV (As := [.int v1, .int v2]) (rest := []) ⟨hx, hb, hml, hown, hts⟩ (m_isRepeated l dC dI H.size h0 v1 v2 a1 a2 a3 a4 a5 a7 a8 a10 a11 a12 a13 a15 a16 a17 a18 a19 a20 a21 a22 a24 a26 a27 a29 a30 a31 a32 a33 a35 a36 a38 a50 a51 a54 a55 a57 a58 a59 a60 a64) (cwV 2 hts gm_aligned_556 rfl rfl rfl (by decide +kernel) ⟨Nat.le_of_ble_eq_true rfl, Nat.le_of_ble_eq_true rfl⟩) ⟨fun a U g mk q => by obtain ⟨q0, q1, qP, qK, qD⟩ := q; exact ⟨q0, q1, qP, va_K.moved (u := U) (U := U.calling g mk a) (Vm.Alike.refl U.vm) qK, qD⟩, va_recv hK hP (ci := 12) (q0 := 0) rfl rfl, fun U hU hW => ⟨rfl, by rw [hU], by rw [hU]; exact hPc, va_K.moved hW.alike hKc, hDc.weaken (fun _ _ _ _ => trivial)⟩⟩ rfl rfl hl.1 rfl (lv_room (Nat.le_of_ble_eq_true rfl)) dX12_aligned_8 ⟨Nat.le_of_ble_eq_true rfl, Nat.le_of_ble_eq_true rfl⟩) hS (fun q _ h => hFc q h) hFc (fun r_2 u t H1 locs ht hvm hw hB hz1 hk1 hS => ?_)
  obtain ⟨hP1, hK1, hD1⟩ := hB
  rw [ht] at hP1
  try dsimp only at hw
  obtain ⟨hP, hD⟩ := va_join (wr := []) (w1 := [(h0, .inr (12, [.int 0, .ref a1, .ref a2, .ref a3, .ref a4, .ref a5, .int 0, .ref a7, .ref a8, .int 0, .ref a10, .ref a11, .ref a12, .ref a13, .int 0, .ref a15, .ref a16, .ref a17, .ref a18, .ref a19, .ref a20, .ref a21, .ref a22, .int 0, .ref a24, .int 0, .ref a26, .ref a27, .int 0, .ref a29, .ref a30, .ref a31, .ref a32, .ref a33, .int 0, .ref a35, .ref a36, .int 0, .ref a38, .int 0, .int 0, .int 0, .int 0, .int 0, .long 0, .int 0, .int 0, .int (-1), .int (-1), .int 0, .ref a50, .ref a51, .int 0, .int 0, .ref a54, .ref a55, .int (-1), .ref a57, .ref a58, .ref a59, .ref a60, .int 0, .int 0, .int 0, .ref a64]))]) hP hD [0] [] rfl rfl (by decide) (by decide) hk1 hFc hP1 hD1
  clear hk1 hz1 hPc hDc hFc hP1 hD1 hK1 hKc
  generalize H1 = H at hP hS ⊢
  have hP : va_P (dC, dI) cls [(h0, .inr (12, [.int 0, .ref a1, .ref a2, .ref a3, .ref a4, .ref a5, .int 0, .ref a7, .ref a8, .int 0, .ref a10, .ref a11, .ref a12, .ref a13, .int 0, .ref a15, .ref a16, .ref a17, .ref a18, .ref a19, .ref a20, .ref a21, .ref a22, .int 0, .ref a24, .int 0, .ref a26, .ref a27, .int 0, .ref a29, .ref a30, .ref a31, .ref a32, .ref a33, .int 0, .ref a35, .ref a36, .int 0, .ref a38, .int 0, .int 0, .int 0, .int 0, .int 0, .long 0, .int 0, .int 0, .int (-1), .int (-1), .int 0, .ref a50, .ref a51, .int 0, .int 0, .ref a54, .ref a55, .int (-1), .ref a57, .ref a58, .ref a59, .ref a60, .int 0, .int 0, .int 0, .ref a64]))] H := hP
  have hD : va_D A [(h0, .inr (12, [.int 0, .ref a1, .ref a2, .ref a3, .ref a4, .ref a5, .int 0, .ref a7, .ref a8, .int 0, .ref a10, .ref a11, .ref a12, .ref a13, .int 0, .ref a15, .ref a16, .ref a17, .ref a18, .ref a19, .ref a20, .ref a21, .ref a22, .int 0, .ref a24, .int 0, .ref a26, .ref a27, .int 0, .ref a29, .ref a30, .ref a31, .ref a32, .ref a33, .int 0, .ref a35, .ref a36, .int 0, .ref a38, .int 0, .int 0, .int 0, .int 0, .int 0, .long 0, .int 0, .int 0, .int (-1), .int (-1), .int 0, .ref a50, .ref a51, .int 0, .int 0, .ref a54, .ref a55, .int (-1), .ref a57, .ref a58, .ref a59, .ref a60, .int 0, .int 0, .int 0, .ref a64]))] := hD
  obtain rfl := hw
  refine lv_if_eq (tgt := 43) hx hb dX12_aligned_11 (by decide) (fun c_3 => ?_) (fun c_3 => ?_)
  rotate_left
  · exact absurd (by decide) c_3
  refine lv_iconst (v := (-1)) hx hb dX12_aligned_43 (by decide) ?_
  have hP9 := hP.sub (ws' := []) [] rfl
  have hD9 := hD.sub (ws' := []) [] (by decide) rfl
  exact W.iret (v := (-1)) hx hb hr (fun t ht hW => ⟨⟨(-1), (), rfl, rfl, by rw [ht]; exact hP9, va_K.moved hW.alike hK, hD9⟩, hS.F ht⟩) hS.2.2 dX12_aligned_44
def wm_key : List Cond := .code yX12_key cX12_key 7 (some .int) :: ([.fieldLink RX12 142 "PutBackModel" "told" "I", .methodLink RX12 556 yX12_isRepeated, .instanceMethod yX12_isRepeated, .selects RX12 yX12_isRepeated yX12_isRepeated, .initialized RX12, .code yX12_isRepeated cX12_isRepeated 4 (some .boolean), .methodLink RX12 520 yX12_isLens, .instanceMethod yX12_isLens, .selects RX12 yX12_isLens yX12_isLens, .code yX12_isLens cX12_isLens 2 (some .boolean), .fieldLink RX12 506 "PutBackModel" "lenses" "I", .methodLink RX12 153 yX12_isIn, .instanceMethod yX12_isIn, .selects RX12 yX12_isIn yX12_isIn, .code yX12_isIn cX12_isIn 7 (some .boolean)] ++ wsX120)
theorem im_key_RX12 : ∀ w ∈ u_ws RX12 TX12 65, w ∈ wm_key := fun w h => List.mem_cons_of_mem _ (List.mem_append_right _ h)
theorem gm_key_556g : GoodIn wm_key wm_isRepeated := goodIn_r _ [6, 7, 8, 9, 5, 10, 11, 12, 13, 14, 15, 16, 17, 18, 19, 20, 21, 22, 23, 24, 25, 26, 27, 28, 29, 30, 31, 32, 33, 34, 35, 36, 37, 38, 39, 40, 41, 42, 43, 44, 45, 46, 47, 48, 49, 50, 51, 52, 53, 54, 55, 56, 57, 58, 59, 60, 61, 62, 63, 64, 65, 66, 67, 68, 69, 70, 71, 72, 73, 74, 75, 76, 77, 78, 79, 80] (by decide +kernel) (by decide +kernel)
theorem gm_key_556 : GoodIn wm_key (wsV RX12 556 RX12 yX12_isRepeated wm_isRepeated) := goodIn_app (goodIn_of _ (by decide +kernel)) gm_key_556g
set_option maxHeartbeats 4000000 in
set_option maxRecDepth 100000 in
theorem m_key (l : Launch) (dC : Nat → ClassId) (dI : Nat → Nat → Nat) (sz : Nat) (h0 : Nat) (v1 : Int32) (v2 : Int32) (v3 : Int32) (v4 : Int32) (a1 : Nat) (a2 : Nat) (a3 : Nat) (a4 : Nat) (a5 : Nat) (a7 : Nat) (a8 : Nat) (a10 : Nat) (a11 : Nat) (a12 : Nat) (a13 : Nat) (a15 : Nat) (a16 : Nat) (a17 : Nat) (a18 : Nat) (a19 : Nat) (a20 : Nat) (a21 : Nat) (a22 : Nat) (a24 : Nat) (a26 : Nat) (a27 : Nat) (a29 : Nat) (a30 : Nat) (a31 : Nat) (a32 : Nat) (a33 : Nat) (a35 : Nat) (a36 : Nat) (a38 : Nat) (a50 : Nat) (a51 : Nat) (a54 : Nat) (a55 : Nat) (a57 : Nat) (a58 : Nat) (a59 : Nat) (a60 : Nat) (a64 : Nat) : Met l yX12_key wm_key ({ frames := 3, cells := 0, slots := 0, locals := 70 } : Room) (va_Pc [.ref h0, .int v1, .int v2, .int v3, .int v4] (fun U => U.heap.size = sz ∧ va_P (dC, dI) cls [(h0, .inr (12, [.int 0, .ref a1, .ref a2, .ref a3, .ref a4, .ref a5, .int 0, .ref a7, .ref a8, .int 0, .ref a10, .ref a11, .ref a12, .ref a13, .int 0, .ref a15, .ref a16, .ref a17, .ref a18, .ref a19, .ref a20, .ref a21, .ref a22, .int 0, .ref a24, .int 0, .ref a26, .ref a27, .int 0, .ref a29, .ref a30, .ref a31, .ref a32, .ref a33, .int 0, .ref a35, .ref a36, .int 0, .ref a38, .int 0, .int 0, .int 0, .int 0, .int 0, .long 0, .int 0, .int 0, .int (-1), .int (-1), .int 0, .ref a50, .ref a51, .int 0, .int 0, .ref a54, .ref a55, .int (-1), .ref a57, .ref a58, .ref a59, .ref a60, .int 0, .int 0, .int 0, .ref a64]))] U.heap ∧ va_K (dC, dI) cls [] U ∧ va_D (fun _ => True) [(h0, .inr (12, [.int 0, .ref a1, .ref a2, .ref a3, .ref a4, .ref a5, .int 0, .ref a7, .ref a8, .int 0, .ref a10, .ref a11, .ref a12, .ref a13, .int 0, .ref a15, .ref a16, .ref a17, .ref a18, .ref a19, .ref a20, .ref a21, .ref a22, .int 0, .ref a24, .int 0, .ref a26, .ref a27, .int 0, .ref a29, .ref a30, .ref a31, .ref a32, .ref a33, .int 0, .ref a35, .ref a36, .int 0, .ref a38, .int 0, .int 0, .int 0, .int 0, .int 0, .long 0, .int 0, .int 0, .int (-1), .int (-1), .int 0, .ref a50, .ref a51, .int 0, .int 0, .ref a54, .ref a55, .int (-1), .ref a57, .ref a58, .ref a59, .ref a60, .int 0, .int 0, .int 0, .ref a64]))])) (va_Qi (fun (r : Int32) (_ : Unit) => r = -1) (fun (_ : Unit) t => va_P (dC, dI) cls [] t.heap ∧ va_K (dC, dI) cls [] t ∧ va_D (va_A [(h0, .inr (12, [.int 0, .ref a1, .ref a2, .ref a3, .ref a4, .ref a5, .int 0, .ref a7, .ref a8, .int 0, .ref a10, .ref a11, .ref a12, .ref a13, .int 0, .ref a15, .ref a16, .ref a17, .ref a18, .ref a19, .ref a20, .ref a21, .ref a22, .int 0, .ref a24, .int 0, .ref a26, .ref a27, .int 0, .ref a29, .ref a30, .ref a31, .ref a32, .ref a33, .int 0, .ref a35, .ref a36, .int 0, .ref a38, .int 0, .int 0, .int 0, .int 0, .int 0, .long 0, .int 0, .int 0, .int (-1), .int (-1), .int 0, .ref a50, .ref a51, .int 0, .int 0, .ref a54, .ref a55, .int (-1), .ref a57, .ref a58, .ref a59, .ref a60, .int 0, .int 0, .int 0, .ref a64]))] sz) []) (va_A [(h0, .inr (12, [.int 0, .ref a1, .ref a2, .ref a3, .ref a4, .ref a5, .int 0, .ref a7, .ref a8, .int 0, .ref a10, .ref a11, .ref a12, .ref a13, .int 0, .ref a15, .ref a16, .ref a17, .ref a18, .ref a19, .ref a20, .ref a21, .ref a22, .int 0, .ref a24, .int 0, .ref a26, .ref a27, .int 0, .ref a29, .ref a30, .ref a31, .ref a32, .ref a33, .int 0, .ref a35, .ref a36, .int 0, .ref a38, .int 0, .int 0, .int 0, .int 0, .int 0, .long 0, .int 0, .int 0, .int (-1), .int (-1), .int 0, .ref a50, .ref a51, .int 0, .int 0, .ref a54, .ref a55, .int (-1), .ref a57, .ref a58, .ref a59, .ref a60, .int 0, .int 0, .int 0, .ref a64]))] sz)) 0 0 (va_A [(h0, .inr (12, [.int 0, .ref a1, .ref a2, .ref a3, .ref a4, .ref a5, .int 0, .ref a7, .ref a8, .int 0, .ref a10, .ref a11, .ref a12, .ref a13, .int 0, .ref a15, .ref a16, .ref a17, .ref a18, .ref a19, .ref a20, .ref a21, .ref a22, .int 0, .ref a24, .int 0, .ref a26, .ref a27, .int 0, .ref a29, .ref a30, .ref a31, .ref a32, .ref a33, .int 0, .ref a35, .ref a36, .int 0, .ref a38, .int 0, .int 0, .int 0, .int 0, .int 0, .long 0, .int 0, .int 0, .int (-1), .int (-1), .int 0, .ref a50, .ref a51, .int 0, .int 0, .ref a54, .ref a55, .int (-1), .ref a57, .ref a58, .ref a59, .ref a60, .int 0, .int 0, .int 0, .ref a64]))] sz) := by
  refine Met.ofW (cc := cX12_key) (maxL := 7) (ret := (some .int)) (by decide) rfl ?_
  intro p e s m args below meth c s₁ B hml hv
  obtain ⟨rfl, hsz, hP, hK, hD0⟩ := hv
  have hx := B.exec
  have hb := B.bytes
  have hr := B.returns
  have hts := atoms_spec (ws := wm_key) B.pre
  have hown : s.vm.findClass RX12 = some m.cls := findClass_of_methodNamed B.named
  have hlocks := B.notSynchronized
  subst hsz
  have hD := hD0.self (sz := s.heap.size)
  generalize hAe : va_A [(h0, .inr (12, [.int 0, .ref a1, .ref a2, .ref a3, .ref a4, .ref a5, .int 0, .ref a7, .ref a8, .int 0, .ref a10, .ref a11, .ref a12, .ref a13, .int 0, .ref a15, .ref a16, .ref a17, .ref a18, .ref a19, .ref a20, .ref a21, .ref a22, .int 0, .ref a24, .int 0, .ref a26, .ref a27, .int 0, .ref a29, .ref a30, .ref a31, .ref a32, .ref a33, .int 0, .ref a35, .ref a36, .int 0, .ref a38, .int 0, .int 0, .int 0, .int 0, .int 0, .long 0, .int 0, .int 0, .int (-1), .int (-1), .int 0, .ref a50, .ref a51, .int 0, .int 0, .ref a54, .ref a55, .int (-1), .ref a57, .ref a58, .ref a59, .ref a60, .int 0, .int 0, .int 0, .ref a64]))] s.heap.size = A at hD ⊢
  have hA : ∀ q : Nat, s.heap.size ≤ q → A q := fun q h => by rw [← hAe]; exact Or.inr h
  have hP : va_P (dC, dI) cls [(h0, .inr (12, [.int 0, .ref a1, .ref a2, .ref a3, .ref a4, .ref a5, .int 0, .ref a7, .ref a8, .int 0, .ref a10, .ref a11, .ref a12, .ref a13, .int 0, .ref a15, .ref a16, .ref a17, .ref a18, .ref a19, .ref a20, .ref a21, .ref a22, .int 0, .ref a24, .int 0, .ref a26, .ref a27, .int 0, .ref a29, .ref a30, .ref a31, .ref a32, .ref a33, .int 0, .ref a35, .ref a36, .int 0, .ref a38, .int 0, .int 0, .int 0, .int 0, .int 0, .long 0, .int 0, .int 0, .int (-1), .int (-1), .int 0, .ref a50, .ref a51, .int 0, .int 0, .ref a54, .ref a55, .int (-1), .ref a57, .ref a58, .ref a59, .ref a60, .int 0, .int 0, .int 0, .ref a64]))] s.heap := hP
  have hl := lv_entry ([.ref h0, .int v1, .int v2, .int v3, .int v4]) (n := 7) (Nat.le_of_ble_eq_true rfl)
  rw [lg_entry_eq]
  generalize (lg_sl ([.ref h0, .int v1, .int v2, .int v3, .int v4]) ++ List.replicate (7 - (lg_sl ([.ref h0, .int v1, .int v2, .int v3, .int v4])).length) Slot.unset).toArray = ls at hl ⊢
  have hl : lv_has ls 7 [(0, .ref h0), (1, .int v1), (2, .int v2), (3, .int v3), (4, .int v4)] := hl
  obtain ⟨H, hH⟩ : ∃ H : Heap, s.heap = H := ⟨_, rfl⟩
  rw [hH] at hP ⊢
  have hS : va_S A s.heap H [] := by rw [← hH]; exact va_S.rf
  refine lv_aload_n hx hb dX12_key_0 rfl (lv_at hl 0 rfl) ?_
  refine lv_iconst (v := 0) hx hb dX12_key_1 (by decide) ?_
  refine va_put (D := (dC, dI)) (ci := 12) (v := .int 0) (ty := .int) (C := RX12) (T := TX12) (N := 65) hx hb hts im_key_RX12 tyX12 tyX12_ok nmX12 hown hK hP hD hS 0 rfl rfl 0 (by decide) (hts (.fieldLink RX12 142 "PutBackModel" "told" "I") (by decide +kernel)) (fun _ h9 => h9) rfl (by decide +kernel) rfl rfl (Nat.le_of_ble_eq_true rfl) dX12_key_2 (fun H locs hP hD hS => ?_)
  have hP : va_P (dC, dI) cls [(h0, .inr (12, [.int 0, .ref a1, .ref a2, .ref a3, .ref a4, .ref a5, .int 0, .ref a7, .ref a8, .int 0, .ref a10, .ref a11, .ref a12, .ref a13, .int 0, .ref a15, .ref a16, .ref a17, .ref a18, .ref a19, .ref a20, .ref a21, .ref a22, .int 0, .ref a24, .int 0, .ref a26, .ref a27, .int 0, .ref a29, .ref a30, .ref a31, .ref a32, .ref a33, .int 0, .ref a35, .ref a36, .int 0, .ref a38, .int 0, .int 0, .int 0, .int 0, .int 0, .long 0, .int 0, .int 0, .int (-1), .int (-1), .int 0, .ref a50, .ref a51, .int 0, .int 0, .ref a54, .ref a55, .int (-1), .ref a57, .ref a58, .ref a59, .ref a60, .int 0, .int 0, .int 0, .ref a64]))] H := hP
  have hD : va_D A [(h0, .inr (12, [.int 0, .ref a1, .ref a2, .ref a3, .ref a4, .ref a5, .int 0, .ref a7, .ref a8, .int 0, .ref a10, .ref a11, .ref a12, .ref a13, .int 0, .ref a15, .ref a16, .ref a17, .ref a18, .ref a19, .ref a20, .ref a21, .ref a22, .int 0, .ref a24, .int 0, .ref a26, .ref a27, .int 0, .ref a29, .ref a30, .ref a31, .ref a32, .ref a33, .int 0, .ref a35, .ref a36, .int 0, .ref a38, .int 0, .int 0, .int 0, .int 0, .int 0, .long 0, .int 0, .int 0, .int (-1), .int (-1), .int 0, .ref a50, .ref a51, .int 0, .int 0, .ref a54, .ref a55, .int (-1), .ref a57, .ref a58, .ref a59, .ref a60, .int 0, .int 0, .int 0, .ref a64]))] := hD
  refine lv_aload_n hx hb dX12_key_5 rfl (lv_at hl 0 rfl) ?_
  refine lv_iload_n hx hb dX12_key_6 rfl (lv_at hl 1 rfl) ?_
  refine lv_iload_n hx hb dX12_key_7 rfl (lv_at hl 2 rfl) ?_
  have hPc := hP.sub (ws' := [(h0, .inr (12, [.int 0, .ref a1, .ref a2, .ref a3, .ref a4, .ref a5, .int 0, .ref a7, .ref a8, .int 0, .ref a10, .ref a11, .ref a12, .ref a13, .int 0, .ref a15, .ref a16, .ref a17, .ref a18, .ref a19, .ref a20, .ref a21, .ref a22, .int 0, .ref a24, .int 0, .ref a26, .ref a27, .int 0, .ref a29, .ref a30, .ref a31, .ref a32, .ref a33, .int 0, .ref a35, .ref a36, .int 0, .ref a38, .int 0, .int 0, .int 0, .int 0, .int 0, .long 0, .int 0, .int 0, .int (-1), .int (-1), .int 0, .ref a50, .ref a51, .int 0, .int 0, .ref a54, .ref a55, .int (-1), .ref a57, .ref a58, .ref a59, .ref a60, .int 0, .int 0, .int 0, .ref a64]))]) [0] rfl
  have hDc := hD.sub (ws' := [(h0, .inr (12, [.int 0, .ref a1, .ref a2, .ref a3, .ref a4, .ref a5, .int 0, .ref a7, .ref a8, .int 0, .ref a10, .ref a11, .ref a12, .ref a13, .int 0, .ref a15, .ref a16, .ref a17, .ref a18, .ref a19, .ref a20, .ref a21, .ref a22, .int 0, .ref a24, .int 0, .ref a26, .ref a27, .int 0, .ref a29, .ref a30, .ref a31, .ref a32, .ref a33, .int 0, .ref a35, .ref a36, .int 0, .ref a38, .int 0, .int 0, .int 0, .int 0, .int 0, .long 0, .int 0, .int 0, .int (-1), .int (-1), .int 0, .ref a50, .ref a51, .int 0, .int 0, .ref a54, .ref a55, .int (-1), .ref a57, .ref a58, .ref a59, .ref a60, .int 0, .int 0, .int 0, .ref a64]))]) [0] (by decide) rfl
  have hKc := hK.sub (tys' := []) [] rfl
  have hFc := va_free (wc := [(h0, .inr (12, [.int 0, .ref a1, .ref a2, .ref a3, .ref a4, .ref a5, .int 0, .ref a7, .ref a8, .int 0, .ref a10, .ref a11, .ref a12, .ref a13, .int 0, .ref a15, .ref a16, .ref a17, .ref a18, .ref a19, .ref a20, .ref a21, .ref a22, .int 0, .ref a24, .int 0, .ref a26, .ref a27, .int 0, .ref a29, .ref a30, .ref a31, .ref a32, .ref a33, .int 0, .ref a35, .ref a36, .int 0, .ref a38, .int 0, .int 0, .int 0, .int 0, .int 0, .long 0, .int 0, .int 0, .int (-1), .int (-1), .int 0, .ref a50, .ref a51, .int 0, .int 0, .ref a54, .ref a55, .int (-1), .ref a57, .ref a58, .ref a59, .ref a60, .int 0, .int 0, .int 0, .ref a64]))]) hD hS hA [0] rfl
  refine va_calli (va_runV (As := [.int v1, .int v2]) (rest := []) ⟨hx, hb, hml, hown, hts⟩ (m_isRepeated l dC dI H.size h0 v1 v2 a1 a2 a3 a4 a5 a7 a8 a10 a11 a12 a13 a15 a16 a17 a18 a19 a20 a21 a22 a24 a26 a27 a29 a30 a31 a32 a33 a35 a36 a38 a50 a51 a54 a55 a57 a58 a59 a60 a64) (cwV 2 hts gm_key_556 rfl rfl rfl (by decide +kernel) ⟨Nat.le_of_ble_eq_true rfl, Nat.le_of_ble_eq_true rfl⟩) ⟨fun a U g mk q => by obtain ⟨q0, q1, qP, qK, qD⟩ := q; exact ⟨q0, q1, qP, va_K.moved (u := U) (U := U.calling g mk a) (Vm.Alike.refl U.vm) qK, qD⟩, va_recv hK hP (ci := 12) (q0 := 0) rfl rfl, fun U hU hW => ⟨rfl, by rw [hU], by rw [hU]; exact hPc, va_K.moved hW.alike hKc, hDc.weaken (fun _ _ _ _ => trivial)⟩⟩ rfl rfl hl.1 rfl (lv_room (Nat.le_of_ble_eq_true rfl)) dX12_key_8 ⟨Nat.le_of_ble_eq_true rfl, Nat.le_of_ble_eq_true rfl⟩) hS (fun q _ h => hFc q h) hFc (fun r_2 u t H1 locs ht hvm hw hB hz1 hk1 hS => ?_)
  obtain ⟨hP1, hK1, hD1⟩ := hB
  rw [ht] at hP1
  try dsimp only at hw
  obtain ⟨hP, hD⟩ := va_join (wr := []) (w1 := [(h0, .inr (12, [.int 0, .ref a1, .ref a2, .ref a3, .ref a4, .ref a5, .int 0, .ref a7, .ref a8, .int 0, .ref a10, .ref a11, .ref a12, .ref a13, .int 0, .ref a15, .ref a16, .ref a17, .ref a18, .ref a19, .ref a20, .ref a21, .ref a22, .int 0, .ref a24, .int 0, .ref a26, .ref a27, .int 0, .ref a29, .ref a30, .ref a31, .ref a32, .ref a33, .int 0, .ref a35, .ref a36, .int 0, .ref a38, .int 0, .int 0, .int 0, .int 0, .int 0, .long 0, .int 0, .int 0, .int (-1), .int (-1), .int 0, .ref a50, .ref a51, .int 0, .int 0, .ref a54, .ref a55, .int (-1), .ref a57, .ref a58, .ref a59, .ref a60, .int 0, .int 0, .int 0, .ref a64]))]) hP hD [0] [] rfl rfl (by decide) (by decide) hk1 hFc hP1 hD1
  clear hk1 hz1 hPc hDc hFc hP1 hD1 hK1 hKc
  generalize H1 = H at hP hS ⊢
  have hP : va_P (dC, dI) cls [(h0, .inr (12, [.int 0, .ref a1, .ref a2, .ref a3, .ref a4, .ref a5, .int 0, .ref a7, .ref a8, .int 0, .ref a10, .ref a11, .ref a12, .ref a13, .int 0, .ref a15, .ref a16, .ref a17, .ref a18, .ref a19, .ref a20, .ref a21, .ref a22, .int 0, .ref a24, .int 0, .ref a26, .ref a27, .int 0, .ref a29, .ref a30, .ref a31, .ref a32, .ref a33, .int 0, .ref a35, .ref a36, .int 0, .ref a38, .int 0, .int 0, .int 0, .int 0, .int 0, .long 0, .int 0, .int 0, .int (-1), .int (-1), .int 0, .ref a50, .ref a51, .int 0, .int 0, .ref a54, .ref a55, .int (-1), .ref a57, .ref a58, .ref a59, .ref a60, .int 0, .int 0, .int 0, .ref a64]))] H := hP
  have hD : va_D A [(h0, .inr (12, [.int 0, .ref a1, .ref a2, .ref a3, .ref a4, .ref a5, .int 0, .ref a7, .ref a8, .int 0, .ref a10, .ref a11, .ref a12, .ref a13, .int 0, .ref a15, .ref a16, .ref a17, .ref a18, .ref a19, .ref a20, .ref a21, .ref a22, .int 0, .ref a24, .int 0, .ref a26, .ref a27, .int 0, .ref a29, .ref a30, .ref a31, .ref a32, .ref a33, .int 0, .ref a35, .ref a36, .int 0, .ref a38, .int 0, .int 0, .int 0, .int 0, .int 0, .long 0, .int 0, .int 0, .int (-1), .int (-1), .int 0, .ref a50, .ref a51, .int 0, .int 0, .ref a54, .ref a55, .int (-1), .ref a57, .ref a58, .ref a59, .ref a60, .int 0, .int 0, .int 0, .ref a64]))] := hD
  obtain rfl := hw
  refine lv_if_eq (tgt := 27) hx hb dX12_key_11 (by decide) (fun c_3 => ?_) (fun c_3 => ?_)
  rotate_left
  · exact absurd (by decide) c_3
  refine lv_iconst (v := (-1)) hx hb dX12_key_27 (by decide) ?_
  have hP9 := hP.sub (ws' := []) [] rfl
  have hD9 := hD.sub (ws' := []) [] (by decide) rfl
  exact W.iret (v := (-1)) hx hb hr (fun t ht hW => ⟨⟨(-1), (), rfl, rfl, by rw [ht]; exact hP9, va_K.moved hW.alike hK, hD9⟩, hS.F ht⟩) hS.2.2 dX12_key_28
def wm_laws : List Cond := .code yX12_laws cX12_laws 10 (some .int) :: ([.fieldLink RX12 142 "PutBackModel" "told" "I", .methodLink RX12 520 yX12_isLens, .instanceMethod yX12_isLens, .selects RX12 yX12_isLens yX12_isLens, .initialized RX12, .code yX12_isLens cX12_isLens 2 (some .boolean), .fieldLink RX12 506 "PutBackModel" "lenses" "I", .methodLink RX12 153 yX12_isIn, .instanceMethod yX12_isIn, .selects RX12 yX12_isIn yX12_isIn, .code yX12_isIn cX12_isIn 7 (some .boolean)] ++ wsX120)
theorem im_laws_RX12 : ∀ w ∈ u_ws RX12 TX12 65, w ∈ wm_laws := fun w h => List.mem_cons_of_mem _ (List.mem_append_right _ h)
theorem gm_laws_520g : GoodIn wm_laws wm_isLens := goodIn_r _ [6, 7, 8, 9, 10, 5, 11, 12, 13, 14, 15, 16, 17, 18, 19, 20, 21, 22, 23, 24, 25, 26, 27, 28, 29, 30, 31, 32, 33, 34, 35, 36, 37, 38, 39, 40, 41, 42, 43, 44, 45, 46, 47, 48, 49, 50, 51, 52, 53, 54, 55, 56, 57, 58, 59, 60, 61, 62, 63, 64, 65, 66, 67, 68, 69, 70, 71, 72, 73, 74, 75, 76] (by decide +kernel) (by decide +kernel)
theorem gm_laws_520 : GoodIn wm_laws (wsV RX12 520 RX12 yX12_isLens wm_isLens) := goodIn_app (goodIn_of _ (by decide +kernel)) gm_laws_520g
set_option maxHeartbeats 4000000 in
set_option maxRecDepth 100000 in
theorem m_laws (l : Launch) (dC : Nat → ClassId) (dI : Nat → Nat → Nat) (sz : Nat) (h0 : Nat) (v1 : Int32) (v2 : Int32) (v3 : Int32) (a1 : Nat) (a2 : Nat) (a3 : Nat) (a4 : Nat) (a5 : Nat) (a7 : Nat) (a8 : Nat) (a10 : Nat) (a11 : Nat) (a12 : Nat) (a13 : Nat) (a15 : Nat) (a16 : Nat) (a17 : Nat) (a18 : Nat) (a19 : Nat) (a20 : Nat) (a21 : Nat) (a22 : Nat) (a24 : Nat) (a26 : Nat) (a27 : Nat) (a29 : Nat) (a30 : Nat) (a31 : Nat) (a32 : Nat) (a33 : Nat) (a35 : Nat) (a36 : Nat) (a38 : Nat) (a50 : Nat) (a51 : Nat) (a54 : Nat) (a55 : Nat) (a57 : Nat) (a58 : Nat) (a59 : Nat) (a60 : Nat) (a64 : Nat) : Met l yX12_laws wm_laws ({ frames := 2, cells := 0, slots := 0, locals := 47 } : Room) (va_Pc [.ref h0, .int v1, .int v2, .int v3] (fun U => U.heap.size = sz ∧ va_P (dC, dI) cls [(h0, .inr (12, [.int 0, .ref a1, .ref a2, .ref a3, .ref a4, .ref a5, .int 0, .ref a7, .ref a8, .int 0, .ref a10, .ref a11, .ref a12, .ref a13, .int 0, .ref a15, .ref a16, .ref a17, .ref a18, .ref a19, .ref a20, .ref a21, .ref a22, .int 0, .ref a24, .int 0, .ref a26, .ref a27, .int 0, .ref a29, .ref a30, .ref a31, .ref a32, .ref a33, .int 0, .ref a35, .ref a36, .int 0, .ref a38, .int 0, .int 0, .int 0, .int 0, .int 0, .long 0, .int 0, .int 0, .int (-1), .int (-1), .int 0, .ref a50, .ref a51, .int 0, .int 0, .ref a54, .ref a55, .int (-1), .ref a57, .ref a58, .ref a59, .ref a60, .int 0, .int 0, .int 0, .ref a64]))] U.heap ∧ va_K (dC, dI) cls [] U ∧ va_D (fun _ => True) [(h0, .inr (12, [.int 0, .ref a1, .ref a2, .ref a3, .ref a4, .ref a5, .int 0, .ref a7, .ref a8, .int 0, .ref a10, .ref a11, .ref a12, .ref a13, .int 0, .ref a15, .ref a16, .ref a17, .ref a18, .ref a19, .ref a20, .ref a21, .ref a22, .int 0, .ref a24, .int 0, .ref a26, .ref a27, .int 0, .ref a29, .ref a30, .ref a31, .ref a32, .ref a33, .int 0, .ref a35, .ref a36, .int 0, .ref a38, .int 0, .int 0, .int 0, .int 0, .int 0, .long 0, .int 0, .int 0, .int (-1), .int (-1), .int 0, .ref a50, .ref a51, .int 0, .int 0, .ref a54, .ref a55, .int (-1), .ref a57, .ref a58, .ref a59, .ref a60, .int 0, .int 0, .int 0, .ref a64]))])) (va_Qi (fun (r : Int32) (_ : Unit) => r = -1) (fun (_ : Unit) t => va_P (dC, dI) cls [] t.heap ∧ va_K (dC, dI) cls [] t ∧ va_D (va_A [(h0, .inr (12, [.int 0, .ref a1, .ref a2, .ref a3, .ref a4, .ref a5, .int 0, .ref a7, .ref a8, .int 0, .ref a10, .ref a11, .ref a12, .ref a13, .int 0, .ref a15, .ref a16, .ref a17, .ref a18, .ref a19, .ref a20, .ref a21, .ref a22, .int 0, .ref a24, .int 0, .ref a26, .ref a27, .int 0, .ref a29, .ref a30, .ref a31, .ref a32, .ref a33, .int 0, .ref a35, .ref a36, .int 0, .ref a38, .int 0, .int 0, .int 0, .int 0, .int 0, .long 0, .int 0, .int 0, .int (-1), .int (-1), .int 0, .ref a50, .ref a51, .int 0, .int 0, .ref a54, .ref a55, .int (-1), .ref a57, .ref a58, .ref a59, .ref a60, .int 0, .int 0, .int 0, .ref a64]))] sz) []) (va_A [(h0, .inr (12, [.int 0, .ref a1, .ref a2, .ref a3, .ref a4, .ref a5, .int 0, .ref a7, .ref a8, .int 0, .ref a10, .ref a11, .ref a12, .ref a13, .int 0, .ref a15, .ref a16, .ref a17, .ref a18, .ref a19, .ref a20, .ref a21, .ref a22, .int 0, .ref a24, .int 0, .ref a26, .ref a27, .int 0, .ref a29, .ref a30, .ref a31, .ref a32, .ref a33, .int 0, .ref a35, .ref a36, .int 0, .ref a38, .int 0, .int 0, .int 0, .int 0, .int 0, .long 0, .int 0, .int 0, .int (-1), .int (-1), .int 0, .ref a50, .ref a51, .int 0, .int 0, .ref a54, .ref a55, .int (-1), .ref a57, .ref a58, .ref a59, .ref a60, .int 0, .int 0, .int 0, .ref a64]))] sz)) 0 0 (va_A [(h0, .inr (12, [.int 0, .ref a1, .ref a2, .ref a3, .ref a4, .ref a5, .int 0, .ref a7, .ref a8, .int 0, .ref a10, .ref a11, .ref a12, .ref a13, .int 0, .ref a15, .ref a16, .ref a17, .ref a18, .ref a19, .ref a20, .ref a21, .ref a22, .int 0, .ref a24, .int 0, .ref a26, .ref a27, .int 0, .ref a29, .ref a30, .ref a31, .ref a32, .ref a33, .int 0, .ref a35, .ref a36, .int 0, .ref a38, .int 0, .int 0, .int 0, .int 0, .int 0, .long 0, .int 0, .int 0, .int (-1), .int (-1), .int 0, .ref a50, .ref a51, .int 0, .int 0, .ref a54, .ref a55, .int (-1), .ref a57, .ref a58, .ref a59, .ref a60, .int 0, .int 0, .int 0, .ref a64]))] sz) := by
  refine Met.ofW (cc := cX12_laws) (maxL := 10) (ret := (some .int)) (by decide) rfl ?_
  intro p e s m args below meth c s₁ B hml hv
  obtain ⟨rfl, hsz, hP, hK, hD0⟩ := hv
  have hx := B.exec
  have hb := B.bytes
  have hr := B.returns
  have hts := atoms_spec (ws := wm_laws) B.pre
  have hown : s.vm.findClass RX12 = some m.cls := findClass_of_methodNamed B.named
  have hlocks := B.notSynchronized
  subst hsz
  have hD := hD0.self (sz := s.heap.size)
  generalize hAe : va_A [(h0, .inr (12, [.int 0, .ref a1, .ref a2, .ref a3, .ref a4, .ref a5, .int 0, .ref a7, .ref a8, .int 0, .ref a10, .ref a11, .ref a12, .ref a13, .int 0, .ref a15, .ref a16, .ref a17, .ref a18, .ref a19, .ref a20, .ref a21, .ref a22, .int 0, .ref a24, .int 0, .ref a26, .ref a27, .int 0, .ref a29, .ref a30, .ref a31, .ref a32, .ref a33, .int 0, .ref a35, .ref a36, .int 0, .ref a38, .int 0, .int 0, .int 0, .int 0, .int 0, .long 0, .int 0, .int 0, .int (-1), .int (-1), .int 0, .ref a50, .ref a51, .int 0, .int 0, .ref a54, .ref a55, .int (-1), .ref a57, .ref a58, .ref a59, .ref a60, .int 0, .int 0, .int 0, .ref a64]))] s.heap.size = A at hD ⊢
  have hA : ∀ q : Nat, s.heap.size ≤ q → A q := fun q h => by rw [← hAe]; exact Or.inr h
  have hP : va_P (dC, dI) cls [(h0, .inr (12, [.int 0, .ref a1, .ref a2, .ref a3, .ref a4, .ref a5, .int 0, .ref a7, .ref a8, .int 0, .ref a10, .ref a11, .ref a12, .ref a13, .int 0, .ref a15, .ref a16, .ref a17, .ref a18, .ref a19, .ref a20, .ref a21, .ref a22, .int 0, .ref a24, .int 0, .ref a26, .ref a27, .int 0, .ref a29, .ref a30, .ref a31, .ref a32, .ref a33, .int 0, .ref a35, .ref a36, .int 0, .ref a38, .int 0, .int 0, .int 0, .int 0, .int 0, .long 0, .int 0, .int 0, .int (-1), .int (-1), .int 0, .ref a50, .ref a51, .int 0, .int 0, .ref a54, .ref a55, .int (-1), .ref a57, .ref a58, .ref a59, .ref a60, .int 0, .int 0, .int 0, .ref a64]))] s.heap := hP
  have hl := lv_entry ([.ref h0, .int v1, .int v2, .int v3]) (n := 10) (Nat.le_of_ble_eq_true rfl)
  rw [lg_entry_eq]
  generalize (lg_sl ([.ref h0, .int v1, .int v2, .int v3]) ++ List.replicate (10 - (lg_sl ([.ref h0, .int v1, .int v2, .int v3])).length) Slot.unset).toArray = ls at hl ⊢
  have hl : lv_has ls 10 [(0, .ref h0), (1, .int v1), (2, .int v2), (3, .int v3)] := hl
  obtain ⟨H, hH⟩ : ∃ H : Heap, s.heap = H := ⟨_, rfl⟩
  rw [hH] at hP ⊢
  have hS : va_S A s.heap H [] := by rw [← hH]; exact va_S.rf
  refine lv_aload_n hx hb dX12_laws_0 rfl (lv_at hl 0 rfl) ?_
  refine lv_iconst (v := 0) hx hb dX12_laws_1 (by decide) ?_
  refine va_put (D := (dC, dI)) (ci := 12) (v := .int 0) (ty := .int) (C := RX12) (T := TX12) (N := 65) hx hb hts im_laws_RX12 tyX12 tyX12_ok nmX12 hown hK hP hD hS 0 rfl rfl 0 (by decide) (hts (.fieldLink RX12 142 "PutBackModel" "told" "I") (by decide +kernel)) (fun _ h9 => h9) rfl (by decide +kernel) rfl rfl (Nat.le_of_ble_eq_true rfl) dX12_laws_2 (fun H locs hP hD hS => ?_)
  have hP : va_P (dC, dI) cls [(h0, .inr (12, [.int 0, .ref a1, .ref a2, .ref a3, .ref a4, .ref a5, .int 0, .ref a7, .ref a8, .int 0, .ref a10, .ref a11, .ref a12, .ref a13, .int 0, .ref a15, .ref a16, .ref a17, .ref a18, .ref a19, .ref a20, .ref a21, .ref a22, .int 0, .ref a24, .int 0, .ref a26, .ref a27, .int 0, .ref a29, .ref a30, .ref a31, .ref a32, .ref a33, .int 0, .ref a35, .ref a36, .int 0, .ref a38, .int 0, .int 0, .int 0, .int 0, .int 0, .long 0, .int 0, .int 0, .int (-1), .int (-1), .int 0, .ref a50, .ref a51, .int 0, .int 0, .ref a54, .ref a55, .int (-1), .ref a57, .ref a58, .ref a59, .ref a60, .int 0, .int 0, .int 0, .ref a64]))] H := hP
  have hD : va_D A [(h0, .inr (12, [.int 0, .ref a1, .ref a2, .ref a3, .ref a4, .ref a5, .int 0, .ref a7, .ref a8, .int 0, .ref a10, .ref a11, .ref a12, .ref a13, .int 0, .ref a15, .ref a16, .ref a17, .ref a18, .ref a19, .ref a20, .ref a21, .ref a22, .int 0, .ref a24, .int 0, .ref a26, .ref a27, .int 0, .ref a29, .ref a30, .ref a31, .ref a32, .ref a33, .int 0, .ref a35, .ref a36, .int 0, .ref a38, .int 0, .int 0, .int 0, .int 0, .int 0, .long 0, .int 0, .int 0, .int (-1), .int (-1), .int 0, .ref a50, .ref a51, .int 0, .int 0, .ref a54, .ref a55, .int (-1), .ref a57, .ref a58, .ref a59, .ref a60, .int 0, .int 0, .int 0, .ref a64]))] := hD
  refine lv_aload_n hx hb dX12_laws_5 rfl (lv_at hl 0 rfl) ?_
  refine lv_iload_n hx hb dX12_laws_6 rfl (lv_at hl 1 rfl) ?_
  have hPc := hP.sub (ws' := [(h0, .inr (12, [.int 0, .ref a1, .ref a2, .ref a3, .ref a4, .ref a5, .int 0, .ref a7, .ref a8, .int 0, .ref a10, .ref a11, .ref a12, .ref a13, .int 0, .ref a15, .ref a16, .ref a17, .ref a18, .ref a19, .ref a20, .ref a21, .ref a22, .int 0, .ref a24, .int 0, .ref a26, .ref a27, .int 0, .ref a29, .ref a30, .ref a31, .ref a32, .ref a33, .int 0, .ref a35, .ref a36, .int 0, .ref a38, .int 0, .int 0, .int 0, .int 0, .int 0, .long 0, .int 0, .int 0, .int (-1), .int (-1), .int 0, .ref a50, .ref a51, .int 0, .int 0, .ref a54, .ref a55, .int (-1), .ref a57, .ref a58, .ref a59, .ref a60, .int 0, .int 0, .int 0, .ref a64]))]) [0] rfl
  have hDc := hD.sub (ws' := [(h0, .inr (12, [.int 0, .ref a1, .ref a2, .ref a3, .ref a4, .ref a5, .int 0, .ref a7, .ref a8, .int 0, .ref a10, .ref a11, .ref a12, .ref a13, .int 0, .ref a15, .ref a16, .ref a17, .ref a18, .ref a19, .ref a20, .ref a21, .ref a22, .int 0, .ref a24, .int 0, .ref a26, .ref a27, .int 0, .ref a29, .ref a30, .ref a31, .ref a32, .ref a33, .int 0, .ref a35, .ref a36, .int 0, .ref a38, .int 0, .int 0, .int 0, .int 0, .int 0, .long 0, .int 0, .int 0, .int (-1), .int (-1), .int 0, .ref a50, .ref a51, .int 0, .int 0, .ref a54, .ref a55, .int (-1), .ref a57, .ref a58, .ref a59, .ref a60, .int 0, .int 0, .int 0, .ref a64]))]) [0] (by decide) rfl
  have hKc := hK.sub (tys' := []) [] rfl
  have hFc := va_free (wc := [(h0, .inr (12, [.int 0, .ref a1, .ref a2, .ref a3, .ref a4, .ref a5, .int 0, .ref a7, .ref a8, .int 0, .ref a10, .ref a11, .ref a12, .ref a13, .int 0, .ref a15, .ref a16, .ref a17, .ref a18, .ref a19, .ref a20, .ref a21, .ref a22, .int 0, .ref a24, .int 0, .ref a26, .ref a27, .int 0, .ref a29, .ref a30, .ref a31, .ref a32, .ref a33, .int 0, .ref a35, .ref a36, .int 0, .ref a38, .int 0, .int 0, .int 0, .int 0, .int 0, .long 0, .int 0, .int 0, .int (-1), .int (-1), .int 0, .ref a50, .ref a51, .int 0, .int 0, .ref a54, .ref a55, .int (-1), .ref a57, .ref a58, .ref a59, .ref a60, .int 0, .int 0, .int 0, .ref a64]))]) hD hS hA [0] rfl
  refine va_calli (va_runV (As := [.int v1]) (rest := []) ⟨hx, hb, hml, hown, hts⟩ (m_isLens l dC dI H.size h0 v1 a1 a2 a3 a4 a5 a7 a8 a10 a11 a12 a13 a15 a16 a17 a18 a19 a20 a21 a22 a24 a26 a27 a29 a30 a31 a32 a33 a35 a36 a38 a50 a51 a54 a55 a57 a58 a59 a60 a64) (cwV 1 hts gm_laws_520 rfl rfl rfl (by decide +kernel) ⟨Nat.le_of_ble_eq_true rfl, Nat.le_of_ble_eq_true rfl⟩) ⟨fun a U g mk q => by obtain ⟨q0, q1, qP, qK, qD⟩ := q; exact ⟨q0, q1, qP, va_K.moved (u := U) (U := U.calling g mk a) (Vm.Alike.refl U.vm) qK, qD⟩, va_recv hK hP (ci := 12) (q0 := 0) rfl rfl, fun U hU hW => ⟨rfl, by rw [hU], by rw [hU]; exact hPc, va_K.moved hW.alike hKc, hDc.weaken (fun _ _ _ _ => trivial)⟩⟩ rfl rfl hl.1 rfl (lv_room (Nat.le_of_ble_eq_true rfl)) dX12_laws_7 ⟨Nat.le_of_ble_eq_true rfl, Nat.le_of_ble_eq_true rfl⟩) hS (fun q _ h => hFc q h) hFc (fun r_2 u t H1 locs ht hvm hw hB hz1 hk1 hS => ?_)
  obtain ⟨hP1, hK1, hD1⟩ := hB
  rw [ht] at hP1
  try dsimp only at hw
  obtain ⟨hP, hD⟩ := va_join (wr := []) (w1 := [(h0, .inr (12, [.int 0, .ref a1, .ref a2, .ref a3, .ref a4, .ref a5, .int 0, .ref a7, .ref a8, .int 0, .ref a10, .ref a11, .ref a12, .ref a13, .int 0, .ref a15, .ref a16, .ref a17, .ref a18, .ref a19, .ref a20, .ref a21, .ref a22, .int 0, .ref a24, .int 0, .ref a26, .ref a27, .int 0, .ref a29, .ref a30, .ref a31, .ref a32, .ref a33, .int 0, .ref a35, .ref a36, .int 0, .ref a38, .int 0, .int 0, .int 0, .int 0, .int 0, .long 0, .int 0, .int 0, .int (-1), .int (-1), .int 0, .ref a50, .ref a51, .int 0, .int 0, .ref a54, .ref a55, .int (-1), .ref a57, .ref a58, .ref a59, .ref a60, .int 0, .int 0, .int 0, .ref a64]))]) hP hD [0] [] rfl rfl (by decide) (by decide) hk1 hFc hP1 hD1
  clear hk1 hz1 hPc hDc hFc hP1 hD1 hK1 hKc
  generalize H1 = H at hP hS ⊢
  have hP : va_P (dC, dI) cls [(h0, .inr (12, [.int 0, .ref a1, .ref a2, .ref a3, .ref a4, .ref a5, .int 0, .ref a7, .ref a8, .int 0, .ref a10, .ref a11, .ref a12, .ref a13, .int 0, .ref a15, .ref a16, .ref a17, .ref a18, .ref a19, .ref a20, .ref a21, .ref a22, .int 0, .ref a24, .int 0, .ref a26, .ref a27, .int 0, .ref a29, .ref a30, .ref a31, .ref a32, .ref a33, .int 0, .ref a35, .ref a36, .int 0, .ref a38, .int 0, .int 0, .int 0, .int 0, .int 0, .long 0, .int 0, .int 0, .int (-1), .int (-1), .int 0, .ref a50, .ref a51, .int 0, .int 0, .ref a54, .ref a55, .int (-1), .ref a57, .ref a58, .ref a59, .ref a60, .int 0, .int 0, .int 0, .ref a64]))] H := hP
  have hD : va_D A [(h0, .inr (12, [.int 0, .ref a1, .ref a2, .ref a3, .ref a4, .ref a5, .int 0, .ref a7, .ref a8, .int 0, .ref a10, .ref a11, .ref a12, .ref a13, .int 0, .ref a15, .ref a16, .ref a17, .ref a18, .ref a19, .ref a20, .ref a21, .ref a22, .int 0, .ref a24, .int 0, .ref a26, .ref a27, .int 0, .ref a29, .ref a30, .ref a31, .ref a32, .ref a33, .int 0, .ref a35, .ref a36, .int 0, .ref a38, .int 0, .int 0, .int 0, .int 0, .int 0, .long 0, .int 0, .int 0, .int (-1), .int (-1), .int 0, .ref a50, .ref a51, .int 0, .int 0, .ref a54, .ref a55, .int (-1), .ref a57, .ref a58, .ref a59, .ref a60, .int 0, .int 0, .int 0, .ref a64]))] := hD
  obtain rfl := hw
  refine lv_if_eq (tgt := 39) hx hb dX12_laws_10 (by decide) (fun c_3 => ?_) (fun c_3 => ?_)
  rotate_left
  · exact absurd (by decide) c_3
  refine lv_iconst (v := (-1)) hx hb dX12_laws_39 (by decide) ?_
  have hP9 := hP.sub (ws' := []) [] rfl
  have hD9 := hD.sub (ws' := []) [] (by decide) rfl
  exact W.iret (v := (-1)) hx hb hr (fun t ht hW => ⟨⟨(-1), (), rfl, rfl, by rw [ht]; exact hP9, va_K.moved hW.alike hK, hD9⟩, hS.F ht⟩) hS.2.2 dX12_laws_40
def wm_open : List Cond := .code yX12_open cX12_open 5 (some .int) :: ([.fieldLink RX12 142 "PutBackModel" "told" "I", .methodLink RX12 520 yX12_isLens, .instanceMethod yX12_isLens, .selects RX12 yX12_isLens yX12_isLens, .initialized RX12, .code yX12_isLens cX12_isLens 2 (some .boolean), .fieldLink RX12 506 "PutBackModel" "lenses" "I", .methodLink RX12 153 yX12_isIn, .instanceMethod yX12_isIn, .selects RX12 yX12_isIn yX12_isIn, .code yX12_isIn cX12_isIn 7 (some .boolean)] ++ wsX120)
theorem im_open_RX12 : ∀ w ∈ u_ws RX12 TX12 65, w ∈ wm_open := fun w h => List.mem_cons_of_mem _ (List.mem_append_right _ h)
theorem gm_open_520g : GoodIn wm_open wm_isLens := goodIn_r _ [6, 7, 8, 9, 10, 5, 11, 12, 13, 14, 15, 16, 17, 18, 19, 20, 21, 22, 23, 24, 25, 26, 27, 28, 29, 30, 31, 32, 33, 34, 35, 36, 37, 38, 39, 40, 41, 42, 43, 44, 45, 46, 47, 48, 49, 50, 51, 52, 53, 54, 55, 56, 57, 58, 59, 60, 61, 62, 63, 64, 65, 66, 67, 68, 69, 70, 71, 72, 73, 74, 75, 76] (by decide +kernel) (by decide +kernel)
theorem gm_open_520 : GoodIn wm_open (wsV RX12 520 RX12 yX12_isLens wm_isLens) := goodIn_app (goodIn_of _ (by decide +kernel)) gm_open_520g
set_option maxHeartbeats 4000000 in
set_option maxRecDepth 100000 in
theorem m_open (l : Launch) (dC : Nat → ClassId) (dI : Nat → Nat → Nat) (sz : Nat) (h0 : Nat) (v1 : Int32) (v2 : Int32) (a1 : Nat) (a2 : Nat) (a3 : Nat) (a4 : Nat) (a5 : Nat) (a7 : Nat) (a8 : Nat) (a10 : Nat) (a11 : Nat) (a12 : Nat) (a13 : Nat) (a15 : Nat) (a16 : Nat) (a17 : Nat) (a18 : Nat) (a19 : Nat) (a20 : Nat) (a21 : Nat) (a22 : Nat) (a24 : Nat) (a26 : Nat) (a27 : Nat) (a29 : Nat) (a30 : Nat) (a31 : Nat) (a32 : Nat) (a33 : Nat) (a35 : Nat) (a36 : Nat) (a38 : Nat) (a50 : Nat) (a51 : Nat) (a54 : Nat) (a55 : Nat) (a57 : Nat) (a58 : Nat) (a59 : Nat) (a60 : Nat) (a64 : Nat) : Met l yX12_open wm_open ({ frames := 2, cells := 0, slots := 0, locals := 47 } : Room) (va_Pc [.ref h0, .int v1, .int v2] (fun U => U.heap.size = sz ∧ va_P (dC, dI) cls [(h0, .inr (12, [.int 0, .ref a1, .ref a2, .ref a3, .ref a4, .ref a5, .int 0, .ref a7, .ref a8, .int 0, .ref a10, .ref a11, .ref a12, .ref a13, .int 0, .ref a15, .ref a16, .ref a17, .ref a18, .ref a19, .ref a20, .ref a21, .ref a22, .int 0, .ref a24, .int 0, .ref a26, .ref a27, .int 0, .ref a29, .ref a30, .ref a31, .ref a32, .ref a33, .int 0, .ref a35, .ref a36, .int 0, .ref a38, .int 0, .int 0, .int 0, .int 0, .int 0, .long 0, .int 0, .int 0, .int (-1), .int (-1), .int 0, .ref a50, .ref a51, .int 0, .int 0, .ref a54, .ref a55, .int (-1), .ref a57, .ref a58, .ref a59, .ref a60, .int 0, .int 0, .int 0, .ref a64]))] U.heap ∧ va_K (dC, dI) cls [] U ∧ va_D (fun _ => True) [(h0, .inr (12, [.int 0, .ref a1, .ref a2, .ref a3, .ref a4, .ref a5, .int 0, .ref a7, .ref a8, .int 0, .ref a10, .ref a11, .ref a12, .ref a13, .int 0, .ref a15, .ref a16, .ref a17, .ref a18, .ref a19, .ref a20, .ref a21, .ref a22, .int 0, .ref a24, .int 0, .ref a26, .ref a27, .int 0, .ref a29, .ref a30, .ref a31, .ref a32, .ref a33, .int 0, .ref a35, .ref a36, .int 0, .ref a38, .int 0, .int 0, .int 0, .int 0, .int 0, .long 0, .int 0, .int 0, .int (-1), .int (-1), .int 0, .ref a50, .ref a51, .int 0, .int 0, .ref a54, .ref a55, .int (-1), .ref a57, .ref a58, .ref a59, .ref a60, .int 0, .int 0, .int 0, .ref a64]))])) (va_Qi (fun (r : Int32) (_ : Unit) => r = -1) (fun (_ : Unit) t => va_P (dC, dI) cls [] t.heap ∧ va_K (dC, dI) cls [] t ∧ va_D (va_A [(h0, .inr (12, [.int 0, .ref a1, .ref a2, .ref a3, .ref a4, .ref a5, .int 0, .ref a7, .ref a8, .int 0, .ref a10, .ref a11, .ref a12, .ref a13, .int 0, .ref a15, .ref a16, .ref a17, .ref a18, .ref a19, .ref a20, .ref a21, .ref a22, .int 0, .ref a24, .int 0, .ref a26, .ref a27, .int 0, .ref a29, .ref a30, .ref a31, .ref a32, .ref a33, .int 0, .ref a35, .ref a36, .int 0, .ref a38, .int 0, .int 0, .int 0, .int 0, .int 0, .long 0, .int 0, .int 0, .int (-1), .int (-1), .int 0, .ref a50, .ref a51, .int 0, .int 0, .ref a54, .ref a55, .int (-1), .ref a57, .ref a58, .ref a59, .ref a60, .int 0, .int 0, .int 0, .ref a64]))] sz) []) (va_A [(h0, .inr (12, [.int 0, .ref a1, .ref a2, .ref a3, .ref a4, .ref a5, .int 0, .ref a7, .ref a8, .int 0, .ref a10, .ref a11, .ref a12, .ref a13, .int 0, .ref a15, .ref a16, .ref a17, .ref a18, .ref a19, .ref a20, .ref a21, .ref a22, .int 0, .ref a24, .int 0, .ref a26, .ref a27, .int 0, .ref a29, .ref a30, .ref a31, .ref a32, .ref a33, .int 0, .ref a35, .ref a36, .int 0, .ref a38, .int 0, .int 0, .int 0, .int 0, .int 0, .long 0, .int 0, .int 0, .int (-1), .int (-1), .int 0, .ref a50, .ref a51, .int 0, .int 0, .ref a54, .ref a55, .int (-1), .ref a57, .ref a58, .ref a59, .ref a60, .int 0, .int 0, .int 0, .ref a64]))] sz)) 0 0 (va_A [(h0, .inr (12, [.int 0, .ref a1, .ref a2, .ref a3, .ref a4, .ref a5, .int 0, .ref a7, .ref a8, .int 0, .ref a10, .ref a11, .ref a12, .ref a13, .int 0, .ref a15, .ref a16, .ref a17, .ref a18, .ref a19, .ref a20, .ref a21, .ref a22, .int 0, .ref a24, .int 0, .ref a26, .ref a27, .int 0, .ref a29, .ref a30, .ref a31, .ref a32, .ref a33, .int 0, .ref a35, .ref a36, .int 0, .ref a38, .int 0, .int 0, .int 0, .int 0, .int 0, .long 0, .int 0, .int 0, .int (-1), .int (-1), .int 0, .ref a50, .ref a51, .int 0, .int 0, .ref a54, .ref a55, .int (-1), .ref a57, .ref a58, .ref a59, .ref a60, .int 0, .int 0, .int 0, .ref a64]))] sz) := by
  refine Met.ofW (cc := cX12_open) (maxL := 5) (ret := (some .int)) (by decide) rfl ?_
  intro p e s m args below meth c s₁ B hml hv
  obtain ⟨rfl, hsz, hP, hK, hD0⟩ := hv
  have hx := B.exec
  have hb := B.bytes
  have hr := B.returns
  have hts := atoms_spec (ws := wm_open) B.pre
  have hown : s.vm.findClass RX12 = some m.cls := findClass_of_methodNamed B.named
  have hlocks := B.notSynchronized
  subst hsz
  have hD := hD0.self (sz := s.heap.size)
  generalize hAe : va_A [(h0, .inr (12, [.int 0, .ref a1, .ref a2, .ref a3, .ref a4, .ref a5, .int 0, .ref a7, .ref a8, .int 0, .ref a10, .ref a11, .ref a12, .ref a13, .int 0, .ref a15, .ref a16, .ref a17, .ref a18, .ref a19, .ref a20, .ref a21, .ref a22, .int 0, .ref a24, .int 0, .ref a26, .ref a27, .int 0, .ref a29, .ref a30, .ref a31, .ref a32, .ref a33, .int 0, .ref a35, .ref a36, .int 0, .ref a38, .int 0, .int 0, .int 0, .int 0, .int 0, .long 0, .int 0, .int 0, .int (-1), .int (-1), .int 0, .ref a50, .ref a51, .int 0, .int 0, .ref a54, .ref a55, .int (-1), .ref a57, .ref a58, .ref a59, .ref a60, .int 0, .int 0, .int 0, .ref a64]))] s.heap.size = A at hD ⊢
  have hA : ∀ q : Nat, s.heap.size ≤ q → A q := fun q h => by rw [← hAe]; exact Or.inr h
  have hP : va_P (dC, dI) cls [(h0, .inr (12, [.int 0, .ref a1, .ref a2, .ref a3, .ref a4, .ref a5, .int 0, .ref a7, .ref a8, .int 0, .ref a10, .ref a11, .ref a12, .ref a13, .int 0, .ref a15, .ref a16, .ref a17, .ref a18, .ref a19, .ref a20, .ref a21, .ref a22, .int 0, .ref a24, .int 0, .ref a26, .ref a27, .int 0, .ref a29, .ref a30, .ref a31, .ref a32, .ref a33, .int 0, .ref a35, .ref a36, .int 0, .ref a38, .int 0, .int 0, .int 0, .int 0, .int 0, .long 0, .int 0, .int 0, .int (-1), .int (-1), .int 0, .ref a50, .ref a51, .int 0, .int 0, .ref a54, .ref a55, .int (-1), .ref a57, .ref a58, .ref a59, .ref a60, .int 0, .int 0, .int 0, .ref a64]))] s.heap := hP
  have hl := lv_entry ([.ref h0, .int v1, .int v2]) (n := 5) (Nat.le_of_ble_eq_true rfl)
  rw [lg_entry_eq]
  generalize (lg_sl ([.ref h0, .int v1, .int v2]) ++ List.replicate (5 - (lg_sl ([.ref h0, .int v1, .int v2])).length) Slot.unset).toArray = ls at hl ⊢
  have hl : lv_has ls 5 [(0, .ref h0), (1, .int v1), (2, .int v2)] := hl
  obtain ⟨H, hH⟩ : ∃ H : Heap, s.heap = H := ⟨_, rfl⟩
  rw [hH] at hP ⊢
  have hS : va_S A s.heap H [] := by rw [← hH]; exact va_S.rf
  refine lv_aload_n hx hb dX12_open_0 rfl (lv_at hl 0 rfl) ?_
  refine lv_iconst (v := 0) hx hb dX12_open_1 (by decide) ?_
  refine va_put (D := (dC, dI)) (ci := 12) (v := .int 0) (ty := .int) (C := RX12) (T := TX12) (N := 65) hx hb hts im_open_RX12 tyX12 tyX12_ok nmX12 hown hK hP hD hS 0 rfl rfl 0 (by decide) (hts (.fieldLink RX12 142 "PutBackModel" "told" "I") (by decide +kernel)) (fun _ h9 => h9) rfl (by decide +kernel) rfl rfl (Nat.le_of_ble_eq_true rfl) dX12_open_2 (fun H locs hP hD hS => ?_)
  have hP : va_P (dC, dI) cls [(h0, .inr (12, [.int 0, .ref a1, .ref a2, .ref a3, .ref a4, .ref a5, .int 0, .ref a7, .ref a8, .int 0, .ref a10, .ref a11, .ref a12, .ref a13, .int 0, .ref a15, .ref a16, .ref a17, .ref a18, .ref a19, .ref a20, .ref a21, .ref a22, .int 0, .ref a24, .int 0, .ref a26, .ref a27, .int 0, .ref a29, .ref a30, .ref a31, .ref a32, .ref a33, .int 0, .ref a35, .ref a36, .int 0, .ref a38, .int 0, .int 0, .int 0, .int 0, .int 0, .long 0, .int 0, .int 0, .int (-1), .int (-1), .int 0, .ref a50, .ref a51, .int 0, .int 0, .ref a54, .ref a55, .int (-1), .ref a57, .ref a58, .ref a59, .ref a60, .int 0, .int 0, .int 0, .ref a64]))] H := hP
  have hD : va_D A [(h0, .inr (12, [.int 0, .ref a1, .ref a2, .ref a3, .ref a4, .ref a5, .int 0, .ref a7, .ref a8, .int 0, .ref a10, .ref a11, .ref a12, .ref a13, .int 0, .ref a15, .ref a16, .ref a17, .ref a18, .ref a19, .ref a20, .ref a21, .ref a22, .int 0, .ref a24, .int 0, .ref a26, .ref a27, .int 0, .ref a29, .ref a30, .ref a31, .ref a32, .ref a33, .int 0, .ref a35, .ref a36, .int 0, .ref a38, .int 0, .int 0, .int 0, .int 0, .int 0, .long 0, .int 0, .int 0, .int (-1), .int (-1), .int 0, .ref a50, .ref a51, .int 0, .int 0, .ref a54, .ref a55, .int (-1), .ref a57, .ref a58, .ref a59, .ref a60, .int 0, .int 0, .int 0, .ref a64]))] := hD
  refine lv_aload_n hx hb dX12_open_5 rfl (lv_at hl 0 rfl) ?_
  refine lv_iload_n hx hb dX12_open_6 rfl (lv_at hl 1 rfl) ?_
  have hPc := hP.sub (ws' := [(h0, .inr (12, [.int 0, .ref a1, .ref a2, .ref a3, .ref a4, .ref a5, .int 0, .ref a7, .ref a8, .int 0, .ref a10, .ref a11, .ref a12, .ref a13, .int 0, .ref a15, .ref a16, .ref a17, .ref a18, .ref a19, .ref a20, .ref a21, .ref a22, .int 0, .ref a24, .int 0, .ref a26, .ref a27, .int 0, .ref a29, .ref a30, .ref a31, .ref a32, .ref a33, .int 0, .ref a35, .ref a36, .int 0, .ref a38, .int 0, .int 0, .int 0, .int 0, .int 0, .long 0, .int 0, .int 0, .int (-1), .int (-1), .int 0, .ref a50, .ref a51, .int 0, .int 0, .ref a54, .ref a55, .int (-1), .ref a57, .ref a58, .ref a59, .ref a60, .int 0, .int 0, .int 0, .ref a64]))]) [0] rfl
  have hDc := hD.sub (ws' := [(h0, .inr (12, [.int 0, .ref a1, .ref a2, .ref a3, .ref a4, .ref a5, .int 0, .ref a7, .ref a8, .int 0, .ref a10, .ref a11, .ref a12, .ref a13, .int 0, .ref a15, .ref a16, .ref a17, .ref a18, .ref a19, .ref a20, .ref a21, .ref a22, .int 0, .ref a24, .int 0, .ref a26, .ref a27, .int 0, .ref a29, .ref a30, .ref a31, .ref a32, .ref a33, .int 0, .ref a35, .ref a36, .int 0, .ref a38, .int 0, .int 0, .int 0, .int 0, .int 0, .long 0, .int 0, .int 0, .int (-1), .int (-1), .int 0, .ref a50, .ref a51, .int 0, .int 0, .ref a54, .ref a55, .int (-1), .ref a57, .ref a58, .ref a59, .ref a60, .int 0, .int 0, .int 0, .ref a64]))]) [0] (by decide) rfl
  have hKc := hK.sub (tys' := []) [] rfl
  have hFc := va_free (wc := [(h0, .inr (12, [.int 0, .ref a1, .ref a2, .ref a3, .ref a4, .ref a5, .int 0, .ref a7, .ref a8, .int 0, .ref a10, .ref a11, .ref a12, .ref a13, .int 0, .ref a15, .ref a16, .ref a17, .ref a18, .ref a19, .ref a20, .ref a21, .ref a22, .int 0, .ref a24, .int 0, .ref a26, .ref a27, .int 0, .ref a29, .ref a30, .ref a31, .ref a32, .ref a33, .int 0, .ref a35, .ref a36, .int 0, .ref a38, .int 0, .int 0, .int 0, .int 0, .int 0, .long 0, .int 0, .int 0, .int (-1), .int (-1), .int 0, .ref a50, .ref a51, .int 0, .int 0, .ref a54, .ref a55, .int (-1), .ref a57, .ref a58, .ref a59, .ref a60, .int 0, .int 0, .int 0, .ref a64]))]) hD hS hA [0] rfl
  refine va_calli (va_runV (As := [.int v1]) (rest := []) ⟨hx, hb, hml, hown, hts⟩ (m_isLens l dC dI H.size h0 v1 a1 a2 a3 a4 a5 a7 a8 a10 a11 a12 a13 a15 a16 a17 a18 a19 a20 a21 a22 a24 a26 a27 a29 a30 a31 a32 a33 a35 a36 a38 a50 a51 a54 a55 a57 a58 a59 a60 a64) (cwV 1 hts gm_open_520 rfl rfl rfl (by decide +kernel) ⟨Nat.le_of_ble_eq_true rfl, Nat.le_of_ble_eq_true rfl⟩) ⟨fun a U g mk q => by obtain ⟨q0, q1, qP, qK, qD⟩ := q; exact ⟨q0, q1, qP, va_K.moved (u := U) (U := U.calling g mk a) (Vm.Alike.refl U.vm) qK, qD⟩, va_recv hK hP (ci := 12) (q0 := 0) rfl rfl, fun U hU hW => ⟨rfl, by rw [hU], by rw [hU]; exact hPc, va_K.moved hW.alike hKc, hDc.weaken (fun _ _ _ _ => trivial)⟩⟩ rfl rfl hl.1 rfl (lv_room (Nat.le_of_ble_eq_true rfl)) dX12_open_7 ⟨Nat.le_of_ble_eq_true rfl, Nat.le_of_ble_eq_true rfl⟩) hS (fun q _ h => hFc q h) hFc (fun r_2 u t H1 locs ht hvm hw hB hz1 hk1 hS => ?_)
  obtain ⟨hP1, hK1, hD1⟩ := hB
  rw [ht] at hP1
  try dsimp only at hw
  obtain ⟨hP, hD⟩ := va_join (wr := []) (w1 := [(h0, .inr (12, [.int 0, .ref a1, .ref a2, .ref a3, .ref a4, .ref a5, .int 0, .ref a7, .ref a8, .int 0, .ref a10, .ref a11, .ref a12, .ref a13, .int 0, .ref a15, .ref a16, .ref a17, .ref a18, .ref a19, .ref a20, .ref a21, .ref a22, .int 0, .ref a24, .int 0, .ref a26, .ref a27, .int 0, .ref a29, .ref a30, .ref a31, .ref a32, .ref a33, .int 0, .ref a35, .ref a36, .int 0, .ref a38, .int 0, .int 0, .int 0, .int 0, .int 0, .long 0, .int 0, .int 0, .int (-1), .int (-1), .int 0, .ref a50, .ref a51, .int 0, .int 0, .ref a54, .ref a55, .int (-1), .ref a57, .ref a58, .ref a59, .ref a60, .int 0, .int 0, .int 0, .ref a64]))]) hP hD [0] [] rfl rfl (by decide) (by decide) hk1 hFc hP1 hD1
  clear hk1 hz1 hPc hDc hFc hP1 hD1 hK1 hKc
  generalize H1 = H at hP hS ⊢
  have hP : va_P (dC, dI) cls [(h0, .inr (12, [.int 0, .ref a1, .ref a2, .ref a3, .ref a4, .ref a5, .int 0, .ref a7, .ref a8, .int 0, .ref a10, .ref a11, .ref a12, .ref a13, .int 0, .ref a15, .ref a16, .ref a17, .ref a18, .ref a19, .ref a20, .ref a21, .ref a22, .int 0, .ref a24, .int 0, .ref a26, .ref a27, .int 0, .ref a29, .ref a30, .ref a31, .ref a32, .ref a33, .int 0, .ref a35, .ref a36, .int 0, .ref a38, .int 0, .int 0, .int 0, .int 0, .int 0, .long 0, .int 0, .int 0, .int (-1), .int (-1), .int 0, .ref a50, .ref a51, .int 0, .int 0, .ref a54, .ref a55, .int (-1), .ref a57, .ref a58, .ref a59, .ref a60, .int 0, .int 0, .int 0, .ref a64]))] H := hP
  have hD : va_D A [(h0, .inr (12, [.int 0, .ref a1, .ref a2, .ref a3, .ref a4, .ref a5, .int 0, .ref a7, .ref a8, .int 0, .ref a10, .ref a11, .ref a12, .ref a13, .int 0, .ref a15, .ref a16, .ref a17, .ref a18, .ref a19, .ref a20, .ref a21, .ref a22, .int 0, .ref a24, .int 0, .ref a26, .ref a27, .int 0, .ref a29, .ref a30, .ref a31, .ref a32, .ref a33, .int 0, .ref a35, .ref a36, .int 0, .ref a38, .int 0, .int 0, .int 0, .int 0, .int 0, .long 0, .int 0, .int 0, .int (-1), .int (-1), .int 0, .ref a50, .ref a51, .int 0, .int 0, .ref a54, .ref a55, .int (-1), .ref a57, .ref a58, .ref a59, .ref a60, .int 0, .int 0, .int 0, .ref a64]))] := hD
  obtain rfl := hw
  refine lv_if_eq (tgt := 21) hx hb dX12_open_10 (by decide) (fun c_3 => ?_) (fun c_3 => ?_)
  rotate_left
  · exact absurd (by decide) c_3
  refine lv_iconst (v := (-1)) hx hb dX12_open_21 (by decide) ?_
  have hP9 := hP.sub (ws' := []) [] rfl
  have hD9 := hD.sub (ws' := []) [] (by decide) rfl
  exact W.iret (v := (-1)) hx hb hr (fun t ht hW => ⟨⟨(-1), (), rfl, rfl, by rw [ht]; exact hP9, va_K.moved hW.alike hK, hD9⟩, hS.F ht⟩) hS.2.2 dX12_open_22
def wm_edit : List Cond := .code yX12_edit cX12_edit 7 (some .int) :: ([.fieldLink RX12 142 "PutBackModel" "told" "I", .fieldLink RX12 124 "PutBackModel" "openLens" "I"] ++ wsX120)
theorem im_edit_RX12 : ∀ w ∈ u_ws RX12 TX12 65, w ∈ wm_edit := fun w h => List.mem_cons_of_mem _ (List.mem_append_right _ h)
set_option maxHeartbeats 4000000 in
set_option maxRecDepth 100000 in
theorem m_edit (l : Launch) (dC : Nat → ClassId) (dI : Nat → Nat → Nat) (sz : Nat) (h0 : Nat) (v1 : Int32) (v2 : Int32) (v3 : Int32) (v4 : Int32) (a1 : Nat) (a2 : Nat) (a3 : Nat) (a4 : Nat) (a5 : Nat) (a7 : Nat) (a8 : Nat) (a10 : Nat) (a11 : Nat) (a12 : Nat) (a13 : Nat) (a15 : Nat) (a16 : Nat) (a17 : Nat) (a18 : Nat) (a19 : Nat) (a20 : Nat) (a21 : Nat) (a22 : Nat) (a24 : Nat) (a26 : Nat) (a27 : Nat) (a29 : Nat) (a30 : Nat) (a31 : Nat) (a32 : Nat) (a33 : Nat) (a35 : Nat) (a36 : Nat) (a38 : Nat) (a50 : Nat) (a51 : Nat) (a54 : Nat) (a55 : Nat) (a57 : Nat) (a58 : Nat) (a59 : Nat) (a60 : Nat) (a64 : Nat) : Met l yX12_edit wm_edit ({ frames := 0, cells := 0, slots := 0, locals := 0 } : Room) (va_Pc [.ref h0, .int v1, .int v2, .int v3, .int v4] (fun U => U.heap.size = sz ∧ va_P (dC, dI) cls [(h0, .inr (12, [.int 0, .ref a1, .ref a2, .ref a3, .ref a4, .ref a5, .int 0, .ref a7, .ref a8, .int 0, .ref a10, .ref a11, .ref a12, .ref a13, .int 0, .ref a15, .ref a16, .ref a17, .ref a18, .ref a19, .ref a20, .ref a21, .ref a22, .int 0, .ref a24, .int 0, .ref a26, .ref a27, .int 0, .ref a29, .ref a30, .ref a31, .ref a32, .ref a33, .int 0, .ref a35, .ref a36, .int 0, .ref a38, .int 0, .int 0, .int 0, .int 0, .int 0, .long 0, .int 0, .int 0, .int (-1), .int (-1), .int 0, .ref a50, .ref a51, .int 0, .int 0, .ref a54, .ref a55, .int (-1), .ref a57, .ref a58, .ref a59, .ref a60, .int 0, .int 0, .int 0, .ref a64]))] U.heap ∧ va_K (dC, dI) cls [] U ∧ va_D (fun _ => True) [(h0, .inr (12, [.int 0, .ref a1, .ref a2, .ref a3, .ref a4, .ref a5, .int 0, .ref a7, .ref a8, .int 0, .ref a10, .ref a11, .ref a12, .ref a13, .int 0, .ref a15, .ref a16, .ref a17, .ref a18, .ref a19, .ref a20, .ref a21, .ref a22, .int 0, .ref a24, .int 0, .ref a26, .ref a27, .int 0, .ref a29, .ref a30, .ref a31, .ref a32, .ref a33, .int 0, .ref a35, .ref a36, .int 0, .ref a38, .int 0, .int 0, .int 0, .int 0, .int 0, .long 0, .int 0, .int 0, .int (-1), .int (-1), .int 0, .ref a50, .ref a51, .int 0, .int 0, .ref a54, .ref a55, .int (-1), .ref a57, .ref a58, .ref a59, .ref a60, .int 0, .int 0, .int 0, .ref a64]))])) (va_Qi (fun (r : Int32) (_ : Unit) => r = -1) (fun (_ : Unit) t => va_P (dC, dI) cls [] t.heap ∧ va_K (dC, dI) cls [] t ∧ va_D (va_A [(h0, .inr (12, [.int 0, .ref a1, .ref a2, .ref a3, .ref a4, .ref a5, .int 0, .ref a7, .ref a8, .int 0, .ref a10, .ref a11, .ref a12, .ref a13, .int 0, .ref a15, .ref a16, .ref a17, .ref a18, .ref a19, .ref a20, .ref a21, .ref a22, .int 0, .ref a24, .int 0, .ref a26, .ref a27, .int 0, .ref a29, .ref a30, .ref a31, .ref a32, .ref a33, .int 0, .ref a35, .ref a36, .int 0, .ref a38, .int 0, .int 0, .int 0, .int 0, .int 0, .long 0, .int 0, .int 0, .int (-1), .int (-1), .int 0, .ref a50, .ref a51, .int 0, .int 0, .ref a54, .ref a55, .int (-1), .ref a57, .ref a58, .ref a59, .ref a60, .int 0, .int 0, .int 0, .ref a64]))] sz) []) (va_A [(h0, .inr (12, [.int 0, .ref a1, .ref a2, .ref a3, .ref a4, .ref a5, .int 0, .ref a7, .ref a8, .int 0, .ref a10, .ref a11, .ref a12, .ref a13, .int 0, .ref a15, .ref a16, .ref a17, .ref a18, .ref a19, .ref a20, .ref a21, .ref a22, .int 0, .ref a24, .int 0, .ref a26, .ref a27, .int 0, .ref a29, .ref a30, .ref a31, .ref a32, .ref a33, .int 0, .ref a35, .ref a36, .int 0, .ref a38, .int 0, .int 0, .int 0, .int 0, .int 0, .long 0, .int 0, .int 0, .int (-1), .int (-1), .int 0, .ref a50, .ref a51, .int 0, .int 0, .ref a54, .ref a55, .int (-1), .ref a57, .ref a58, .ref a59, .ref a60, .int 0, .int 0, .int 0, .ref a64]))] sz)) 0 0 (va_A [(h0, .inr (12, [.int 0, .ref a1, .ref a2, .ref a3, .ref a4, .ref a5, .int 0, .ref a7, .ref a8, .int 0, .ref a10, .ref a11, .ref a12, .ref a13, .int 0, .ref a15, .ref a16, .ref a17, .ref a18, .ref a19, .ref a20, .ref a21, .ref a22, .int 0, .ref a24, .int 0, .ref a26, .ref a27, .int 0, .ref a29, .ref a30, .ref a31, .ref a32, .ref a33, .int 0, .ref a35, .ref a36, .int 0, .ref a38, .int 0, .int 0, .int 0, .int 0, .int 0, .long 0, .int 0, .int 0, .int (-1), .int (-1), .int 0, .ref a50, .ref a51, .int 0, .int 0, .ref a54, .ref a55, .int (-1), .ref a57, .ref a58, .ref a59, .ref a60, .int 0, .int 0, .int 0, .ref a64]))] sz) := by
  refine Met.ofW (cc := cX12_edit) (maxL := 7) (ret := (some .int)) (by decide) rfl ?_
  intro p e s m args below meth c s₁ B hml hv
  obtain ⟨rfl, hsz, hP, hK, hD0⟩ := hv
  have hx := B.exec
  have hb := B.bytes
  have hr := B.returns
  have hts := atoms_spec (ws := wm_edit) B.pre
  have hown : s.vm.findClass RX12 = some m.cls := findClass_of_methodNamed B.named
  have hlocks := B.notSynchronized
  subst hsz
  have hD := hD0.self (sz := s.heap.size)
  generalize hAe : va_A [(h0, .inr (12, [.int 0, .ref a1, .ref a2, .ref a3, .ref a4, .ref a5, .int 0, .ref a7, .ref a8, .int 0, .ref a10, .ref a11, .ref a12, .ref a13, .int 0, .ref a15, .ref a16, .ref a17, .ref a18, .ref a19, .ref a20, .ref a21, .ref a22, .int 0, .ref a24, .int 0, .ref a26, .ref a27, .int 0, .ref a29, .ref a30, .ref a31, .ref a32, .ref a33, .int 0, .ref a35, .ref a36, .int 0, .ref a38, .int 0, .int 0, .int 0, .int 0, .int 0, .long 0, .int 0, .int 0, .int (-1), .int (-1), .int 0, .ref a50, .ref a51, .int 0, .int 0, .ref a54, .ref a55, .int (-1), .ref a57, .ref a58, .ref a59, .ref a60, .int 0, .int 0, .int 0, .ref a64]))] s.heap.size = A at hD ⊢
  have hA : ∀ q : Nat, s.heap.size ≤ q → A q := fun q h => by rw [← hAe]; exact Or.inr h
  have hP : va_P (dC, dI) cls [(h0, .inr (12, [.int 0, .ref a1, .ref a2, .ref a3, .ref a4, .ref a5, .int 0, .ref a7, .ref a8, .int 0, .ref a10, .ref a11, .ref a12, .ref a13, .int 0, .ref a15, .ref a16, .ref a17, .ref a18, .ref a19, .ref a20, .ref a21, .ref a22, .int 0, .ref a24, .int 0, .ref a26, .ref a27, .int 0, .ref a29, .ref a30, .ref a31, .ref a32, .ref a33, .int 0, .ref a35, .ref a36, .int 0, .ref a38, .int 0, .int 0, .int 0, .int 0, .int 0, .long 0, .int 0, .int 0, .int (-1), .int (-1), .int 0, .ref a50, .ref a51, .int 0, .int 0, .ref a54, .ref a55, .int (-1), .ref a57, .ref a58, .ref a59, .ref a60, .int 0, .int 0, .int 0, .ref a64]))] s.heap := hP
  have hl := lv_entry ([.ref h0, .int v1, .int v2, .int v3, .int v4]) (n := 7) (Nat.le_of_ble_eq_true rfl)
  rw [lg_entry_eq]
  generalize (lg_sl ([.ref h0, .int v1, .int v2, .int v3, .int v4]) ++ List.replicate (7 - (lg_sl ([.ref h0, .int v1, .int v2, .int v3, .int v4])).length) Slot.unset).toArray = ls at hl ⊢
  have hl : lv_has ls 7 [(0, .ref h0), (1, .int v1), (2, .int v2), (3, .int v3), (4, .int v4)] := hl
  obtain ⟨H, hH⟩ : ∃ H : Heap, s.heap = H := ⟨_, rfl⟩
  rw [hH] at hP ⊢
  have hS : va_S A s.heap H [] := by rw [← hH]; exact va_S.rf
  refine lv_aload_n hx hb dX12_edit_0 rfl (lv_at hl 0 rfl) ?_
  refine lv_iconst (v := 0) hx hb dX12_edit_1 (by decide) ?_
  refine va_put (D := (dC, dI)) (ci := 12) (v := .int 0) (ty := .int) (C := RX12) (T := TX12) (N := 65) hx hb hts im_edit_RX12 tyX12 tyX12_ok nmX12 hown hK hP hD hS 0 rfl rfl 0 (by decide) (hts (.fieldLink RX12 142 "PutBackModel" "told" "I") (by decide +kernel)) (fun _ h9 => h9) rfl (by decide +kernel) rfl rfl (Nat.le_of_ble_eq_true rfl) dX12_edit_2 (fun H locs hP hD hS => ?_)
  have hP : va_P (dC, dI) cls [(h0, .inr (12, [.int 0, .ref a1, .ref a2, .ref a3, .ref a4, .ref a5, .int 0, .ref a7, .ref a8, .int 0, .ref a10, .ref a11, .ref a12, .ref a13, .int 0, .ref a15, .ref a16, .ref a17, .ref a18, .ref a19, .ref a20, .ref a21, .ref a22, .int 0, .ref a24, .int 0, .ref a26, .ref a27, .int 0, .ref a29, .ref a30, .ref a31, .ref a32, .ref a33, .int 0, .ref a35, .ref a36, .int 0, .ref a38, .int 0, .int 0, .int 0, .int 0, .int 0, .long 0, .int 0, .int 0, .int (-1), .int (-1), .int 0, .ref a50, .ref a51, .int 0, .int 0, .ref a54, .ref a55, .int (-1), .ref a57, .ref a58, .ref a59, .ref a60, .int 0, .int 0, .int 0, .ref a64]))] H := hP
  have hD : va_D A [(h0, .inr (12, [.int 0, .ref a1, .ref a2, .ref a3, .ref a4, .ref a5, .int 0, .ref a7, .ref a8, .int 0, .ref a10, .ref a11, .ref a12, .ref a13, .int 0, .ref a15, .ref a16, .ref a17, .ref a18, .ref a19, .ref a20, .ref a21, .ref a22, .int 0, .ref a24, .int 0, .ref a26, .ref a27, .int 0, .ref a29, .ref a30, .ref a31, .ref a32, .ref a33, .int 0, .ref a35, .ref a36, .int 0, .ref a38, .int 0, .int 0, .int 0, .int 0, .int 0, .long 0, .int 0, .int 0, .int (-1), .int (-1), .int 0, .ref a50, .ref a51, .int 0, .int 0, .ref a54, .ref a55, .int (-1), .ref a57, .ref a58, .ref a59, .ref a60, .int 0, .int 0, .int 0, .ref a64]))] := hD
  refine lv_aload_n hx hb dX12_edit_5 rfl (lv_at hl 0 rfl) ?_
  refine va_get (D := (dC, dI)) (ci := 12) (v := .int (-1)) (C := RX12) (T := TX12) (N := 65) hx hb hts im_edit_RX12 hown hK hP 0 rfl rfl 56 (by decide) (hts (.fieldLink RX12 124 "PutBackModel" "openLens" "I") (by decide +kernel)) (fun _ h9 => h9) rfl dX12_edit_6 ?_
  refine lv_iconst (v := (-1)) hx hb dX12_edit_9 (by decide) ?_
  refine lv_icmp_ne (tgt := 15) hx hb dX12_edit_10 (by decide) (fun c_1 => ?_) (fun c_1 => ?_)
  · exact absurd c_1 (by decide)
  refine lv_iconst (v := (-1)) hx hb dX12_edit_13 (by decide) ?_
  have hP9 := hP.sub (ws' := []) [] rfl
  have hD9 := hD.sub (ws' := []) [] (by decide) rfl
  exact W.iret (v := (-1)) hx hb hr (fun t ht hW => ⟨⟨(-1), (), rfl, rfl, by rw [ht]; exact hP9, va_K.moved hW.alike hK, hD9⟩, hS.F ht⟩) hS.2.2 dX12_edit_14
def wm_copy : List Cond := .code yX12_copy cX12_copy 3 (some .int) :: ([.fieldLink RX12 142 "PutBackModel" "told" "I", .fieldLink RX12 124 "PutBackModel" "openLens" "I"] ++ wsX120)
theorem im_copy_RX12 : ∀ w ∈ u_ws RX12 TX12 65, w ∈ wm_copy := fun w h => List.mem_cons_of_mem _ (List.mem_append_right _ h)
set_option maxHeartbeats 4000000 in
set_option maxRecDepth 100000 in
theorem m_copy (l : Launch) (dC : Nat → ClassId) (dI : Nat → Nat → Nat) (sz : Nat) (h0 : Nat) (v1 : Int32) (v2 : Int32) (a1 : Nat) (a2 : Nat) (a3 : Nat) (a4 : Nat) (a5 : Nat) (a7 : Nat) (a8 : Nat) (a10 : Nat) (a11 : Nat) (a12 : Nat) (a13 : Nat) (a15 : Nat) (a16 : Nat) (a17 : Nat) (a18 : Nat) (a19 : Nat) (a20 : Nat) (a21 : Nat) (a22 : Nat) (a24 : Nat) (a26 : Nat) (a27 : Nat) (a29 : Nat) (a30 : Nat) (a31 : Nat) (a32 : Nat) (a33 : Nat) (a35 : Nat) (a36 : Nat) (a38 : Nat) (a50 : Nat) (a51 : Nat) (a54 : Nat) (a55 : Nat) (a57 : Nat) (a58 : Nat) (a59 : Nat) (a60 : Nat) (a64 : Nat) : Met l yX12_copy wm_copy ({ frames := 0, cells := 0, slots := 0, locals := 0 } : Room) (va_Pc [.ref h0, .int v1, .int v2] (fun U => U.heap.size = sz ∧ va_P (dC, dI) cls [(h0, .inr (12, [.int 0, .ref a1, .ref a2, .ref a3, .ref a4, .ref a5, .int 0, .ref a7, .ref a8, .int 0, .ref a10, .ref a11, .ref a12, .ref a13, .int 0, .ref a15, .ref a16, .ref a17, .ref a18, .ref a19, .ref a20, .ref a21, .ref a22, .int 0, .ref a24, .int 0, .ref a26, .ref a27, .int 0, .ref a29, .ref a30, .ref a31, .ref a32, .ref a33, .int 0, .ref a35, .ref a36, .int 0, .ref a38, .int 0, .int 0, .int 0, .int 0, .int 0, .long 0, .int 0, .int 0, .int (-1), .int (-1), .int 0, .ref a50, .ref a51, .int 0, .int 0, .ref a54, .ref a55, .int (-1), .ref a57, .ref a58, .ref a59, .ref a60, .int 0, .int 0, .int 0, .ref a64]))] U.heap ∧ va_K (dC, dI) cls [] U ∧ va_D (fun _ => True) [(h0, .inr (12, [.int 0, .ref a1, .ref a2, .ref a3, .ref a4, .ref a5, .int 0, .ref a7, .ref a8, .int 0, .ref a10, .ref a11, .ref a12, .ref a13, .int 0, .ref a15, .ref a16, .ref a17, .ref a18, .ref a19, .ref a20, .ref a21, .ref a22, .int 0, .ref a24, .int 0, .ref a26, .ref a27, .int 0, .ref a29, .ref a30, .ref a31, .ref a32, .ref a33, .int 0, .ref a35, .ref a36, .int 0, .ref a38, .int 0, .int 0, .int 0, .int 0, .int 0, .long 0, .int 0, .int 0, .int (-1), .int (-1), .int 0, .ref a50, .ref a51, .int 0, .int 0, .ref a54, .ref a55, .int (-1), .ref a57, .ref a58, .ref a59, .ref a60, .int 0, .int 0, .int 0, .ref a64]))])) (va_Qi (fun (r : Int32) (_ : Unit) => r = -1) (fun (_ : Unit) t => va_P (dC, dI) cls [] t.heap ∧ va_K (dC, dI) cls [] t ∧ va_D (va_A [(h0, .inr (12, [.int 0, .ref a1, .ref a2, .ref a3, .ref a4, .ref a5, .int 0, .ref a7, .ref a8, .int 0, .ref a10, .ref a11, .ref a12, .ref a13, .int 0, .ref a15, .ref a16, .ref a17, .ref a18, .ref a19, .ref a20, .ref a21, .ref a22, .int 0, .ref a24, .int 0, .ref a26, .ref a27, .int 0, .ref a29, .ref a30, .ref a31, .ref a32, .ref a33, .int 0, .ref a35, .ref a36, .int 0, .ref a38, .int 0, .int 0, .int 0, .int 0, .int 0, .long 0, .int 0, .int 0, .int (-1), .int (-1), .int 0, .ref a50, .ref a51, .int 0, .int 0, .ref a54, .ref a55, .int (-1), .ref a57, .ref a58, .ref a59, .ref a60, .int 0, .int 0, .int 0, .ref a64]))] sz) []) (va_A [(h0, .inr (12, [.int 0, .ref a1, .ref a2, .ref a3, .ref a4, .ref a5, .int 0, .ref a7, .ref a8, .int 0, .ref a10, .ref a11, .ref a12, .ref a13, .int 0, .ref a15, .ref a16, .ref a17, .ref a18, .ref a19, .ref a20, .ref a21, .ref a22, .int 0, .ref a24, .int 0, .ref a26, .ref a27, .int 0, .ref a29, .ref a30, .ref a31, .ref a32, .ref a33, .int 0, .ref a35, .ref a36, .int 0, .ref a38, .int 0, .int 0, .int 0, .int 0, .int 0, .long 0, .int 0, .int 0, .int (-1), .int (-1), .int 0, .ref a50, .ref a51, .int 0, .int 0, .ref a54, .ref a55, .int (-1), .ref a57, .ref a58, .ref a59, .ref a60, .int 0, .int 0, .int 0, .ref a64]))] sz)) 0 0 (va_A [(h0, .inr (12, [.int 0, .ref a1, .ref a2, .ref a3, .ref a4, .ref a5, .int 0, .ref a7, .ref a8, .int 0, .ref a10, .ref a11, .ref a12, .ref a13, .int 0, .ref a15, .ref a16, .ref a17, .ref a18, .ref a19, .ref a20, .ref a21, .ref a22, .int 0, .ref a24, .int 0, .ref a26, .ref a27, .int 0, .ref a29, .ref a30, .ref a31, .ref a32, .ref a33, .int 0, .ref a35, .ref a36, .int 0, .ref a38, .int 0, .int 0, .int 0, .int 0, .int 0, .long 0, .int 0, .int 0, .int (-1), .int (-1), .int 0, .ref a50, .ref a51, .int 0, .int 0, .ref a54, .ref a55, .int (-1), .ref a57, .ref a58, .ref a59, .ref a60, .int 0, .int 0, .int 0, .ref a64]))] sz) := by
  refine Met.ofW (cc := cX12_copy) (maxL := 3) (ret := (some .int)) (by decide) rfl ?_
  intro p e s m args below meth c s₁ B hml hv
  obtain ⟨rfl, hsz, hP, hK, hD0⟩ := hv
  have hx := B.exec
  have hb := B.bytes
  have hr := B.returns
  have hts := atoms_spec (ws := wm_copy) B.pre
  have hown : s.vm.findClass RX12 = some m.cls := findClass_of_methodNamed B.named
  have hlocks := B.notSynchronized
  subst hsz
  have hD := hD0.self (sz := s.heap.size)
  generalize hAe : va_A [(h0, .inr (12, [.int 0, .ref a1, .ref a2, .ref a3, .ref a4, .ref a5, .int 0, .ref a7, .ref a8, .int 0, .ref a10, .ref a11, .ref a12, .ref a13, .int 0, .ref a15, .ref a16, .ref a17, .ref a18, .ref a19, .ref a20, .ref a21, .ref a22, .int 0, .ref a24, .int 0, .ref a26, .ref a27, .int 0, .ref a29, .ref a30, .ref a31, .ref a32, .ref a33, .int 0, .ref a35, .ref a36, .int 0, .ref a38, .int 0, .int 0, .int 0, .int 0, .int 0, .long 0, .int 0, .int 0, .int (-1), .int (-1), .int 0, .ref a50, .ref a51, .int 0, .int 0, .ref a54, .ref a55, .int (-1), .ref a57, .ref a58, .ref a59, .ref a60, .int 0, .int 0, .int 0, .ref a64]))] s.heap.size = A at hD ⊢
  have hA : ∀ q : Nat, s.heap.size ≤ q → A q := fun q h => by rw [← hAe]; exact Or.inr h
  have hP : va_P (dC, dI) cls [(h0, .inr (12, [.int 0, .ref a1, .ref a2, .ref a3, .ref a4, .ref a5, .int 0, .ref a7, .ref a8, .int 0, .ref a10, .ref a11, .ref a12, .ref a13, .int 0, .ref a15, .ref a16, .ref a17, .ref a18, .ref a19, .ref a20, .ref a21, .ref a22, .int 0, .ref a24, .int 0, .ref a26, .ref a27, .int 0, .ref a29, .ref a30, .ref a31, .ref a32, .ref a33, .int 0, .ref a35, .ref a36, .int 0, .ref a38, .int 0, .int 0, .int 0, .int 0, .int 0, .long 0, .int 0, .int 0, .int (-1), .int (-1), .int 0, .ref a50, .ref a51, .int 0, .int 0, .ref a54, .ref a55, .int (-1), .ref a57, .ref a58, .ref a59, .ref a60, .int 0, .int 0, .int 0, .ref a64]))] s.heap := hP
  have hl := lv_entry ([.ref h0, .int v1, .int v2]) (n := 3) (Nat.le_of_ble_eq_true rfl)
  rw [lg_entry_eq]
  generalize (lg_sl ([.ref h0, .int v1, .int v2]) ++ List.replicate (3 - (lg_sl ([.ref h0, .int v1, .int v2])).length) Slot.unset).toArray = ls at hl ⊢
  have hl : lv_has ls 3 [(0, .ref h0), (1, .int v1), (2, .int v2)] := hl
  obtain ⟨H, hH⟩ : ∃ H : Heap, s.heap = H := ⟨_, rfl⟩
  rw [hH] at hP ⊢
  have hS : va_S A s.heap H [] := by rw [← hH]; exact va_S.rf
  refine lv_aload_n hx hb dX12_copy_0 rfl (lv_at hl 0 rfl) ?_
  refine lv_iconst (v := 0) hx hb dX12_copy_1 (by decide) ?_
  refine va_put (D := (dC, dI)) (ci := 12) (v := .int 0) (ty := .int) (C := RX12) (T := TX12) (N := 65) hx hb hts im_copy_RX12 tyX12 tyX12_ok nmX12 hown hK hP hD hS 0 rfl rfl 0 (by decide) (hts (.fieldLink RX12 142 "PutBackModel" "told" "I") (by decide +kernel)) (fun _ h9 => h9) rfl (by decide +kernel) rfl rfl (Nat.le_of_ble_eq_true rfl) dX12_copy_2 (fun H locs hP hD hS => ?_)
  have hP : va_P (dC, dI) cls [(h0, .inr (12, [.int 0, .ref a1, .ref a2, .ref a3, .ref a4, .ref a5, .int 0, .ref a7, .ref a8, .int 0, .ref a10, .ref a11, .ref a12, .ref a13, .int 0, .ref a15, .ref a16, .ref a17, .ref a18, .ref a19, .ref a20, .ref a21, .ref a22, .int 0, .ref a24, .int 0, .ref a26, .ref a27, .int 0, .ref a29, .ref a30, .ref a31, .ref a32, .ref a33, .int 0, .ref a35, .ref a36, .int 0, .ref a38, .int 0, .int 0, .int 0, .int 0, .int 0, .long 0, .int 0, .int 0, .int (-1), .int (-1), .int 0, .ref a50, .ref a51, .int 0, .int 0, .ref a54, .ref a55, .int (-1), .ref a57, .ref a58, .ref a59, .ref a60, .int 0, .int 0, .int 0, .ref a64]))] H := hP
  have hD : va_D A [(h0, .inr (12, [.int 0, .ref a1, .ref a2, .ref a3, .ref a4, .ref a5, .int 0, .ref a7, .ref a8, .int 0, .ref a10, .ref a11, .ref a12, .ref a13, .int 0, .ref a15, .ref a16, .ref a17, .ref a18, .ref a19, .ref a20, .ref a21, .ref a22, .int 0, .ref a24, .int 0, .ref a26, .ref a27, .int 0, .ref a29, .ref a30, .ref a31, .ref a32, .ref a33, .int 0, .ref a35, .ref a36, .int 0, .ref a38, .int 0, .int 0, .int 0, .int 0, .int 0, .long 0, .int 0, .int 0, .int (-1), .int (-1), .int 0, .ref a50, .ref a51, .int 0, .int 0, .ref a54, .ref a55, .int (-1), .ref a57, .ref a58, .ref a59, .ref a60, .int 0, .int 0, .int 0, .ref a64]))] := hD
  refine lv_aload_n hx hb dX12_copy_5 rfl (lv_at hl 0 rfl) ?_
  refine va_get (D := (dC, dI)) (ci := 12) (v := .int (-1)) (C := RX12) (T := TX12) (N := 65) hx hb hts im_copy_RX12 hown hK hP 0 rfl rfl 56 (by decide) (hts (.fieldLink RX12 124 "PutBackModel" "openLens" "I") (by decide +kernel)) (fun _ h9 => h9) rfl dX12_copy_6 ?_
  refine lv_iconst (v := (-1)) hx hb dX12_copy_9 (by decide) ?_
  refine lv_icmp_eq (tgt := 29) hx hb dX12_copy_10 (by decide) (fun c_1 => ?_) (fun c_1 => ?_)
  rotate_left
  · exact absurd (by decide) c_1
  refine lv_iconst (v := (-1)) hx hb dX12_copy_29 (by decide) ?_
  have hP9 := hP.sub (ws' := []) [] rfl
  have hD9 := hD.sub (ws' := []) [] (by decide) rfl
  exact W.iret (v := (-1)) hx hb hr (fun t ht hW => ⟨⟨(-1), (), rfl, rfl, by rw [ht]; exact hP9, va_K.moved hW.alike hK, hD9⟩, hS.F ht⟩) hS.2.2 dX12_copy_30
def wm_moved : List Cond := .code yX12_moved cX12_moved 2 (some .int) :: ([.fieldLink RX12 142 "PutBackModel" "told" "I", .fieldLink RX12 600 "PutBackModel" "isMoved" "Z"] ++ wsX120)
theorem im_moved_RX12 : ∀ w ∈ u_ws RX12 TX12 65, w ∈ wm_moved := fun w h => List.mem_cons_of_mem _ (List.mem_append_right _ h)
set_option maxHeartbeats 4000000 in
set_option maxRecDepth 100000 in
theorem m_moved (l : Launch) (dC : Nat → ClassId) (dI : Nat → Nat → Nat) (sz : Nat) (h0 : Nat) (v1 : Int32) (a1 : Nat) (a2 : Nat) (a3 : Nat) (a4 : Nat) (a5 : Nat) (a7 : Nat) (a8 : Nat) (a10 : Nat) (a11 : Nat) (a12 : Nat) (a13 : Nat) (a15 : Nat) (a16 : Nat) (a17 : Nat) (a18 : Nat) (a19 : Nat) (a20 : Nat) (a21 : Nat) (a22 : Nat) (a24 : Nat) (a26 : Nat) (a27 : Nat) (a29 : Nat) (a30 : Nat) (a31 : Nat) (a32 : Nat) (a33 : Nat) (a35 : Nat) (a36 : Nat) (a38 : Nat) (a50 : Nat) (a51 : Nat) (a54 : Nat) (a55 : Nat) (a57 : Nat) (a58 : Nat) (a59 : Nat) (a60 : Nat) (a64 : Nat) : Met l yX12_moved wm_moved ({ frames := 0, cells := 0, slots := 0, locals := 0 } : Room) (va_Pc [.ref h0, .int v1] (fun U => U.heap.size = sz ∧ va_P (dC, dI) cls [(h0, .inr (12, [.int 0, .ref a1, .ref a2, .ref a3, .ref a4, .ref a5, .int 0, .ref a7, .ref a8, .int 0, .ref a10, .ref a11, .ref a12, .ref a13, .int 0, .ref a15, .ref a16, .ref a17, .ref a18, .ref a19, .ref a20, .ref a21, .ref a22, .int 0, .ref a24, .int 0, .ref a26, .ref a27, .int 0, .ref a29, .ref a30, .ref a31, .ref a32, .ref a33, .int 0, .ref a35, .ref a36, .int 0, .ref a38, .int 0, .int 0, .int 0, .int 0, .int 0, .long 0, .int 0, .int 0, .int (-1), .int (-1), .int 0, .ref a50, .ref a51, .int 0, .int 0, .ref a54, .ref a55, .int (-1), .ref a57, .ref a58, .ref a59, .ref a60, .int 0, .int 0, .int 0, .ref a64]))] U.heap ∧ va_K (dC, dI) cls [] U ∧ va_D (fun _ => True) [(h0, .inr (12, [.int 0, .ref a1, .ref a2, .ref a3, .ref a4, .ref a5, .int 0, .ref a7, .ref a8, .int 0, .ref a10, .ref a11, .ref a12, .ref a13, .int 0, .ref a15, .ref a16, .ref a17, .ref a18, .ref a19, .ref a20, .ref a21, .ref a22, .int 0, .ref a24, .int 0, .ref a26, .ref a27, .int 0, .ref a29, .ref a30, .ref a31, .ref a32, .ref a33, .int 0, .ref a35, .ref a36, .int 0, .ref a38, .int 0, .int 0, .int 0, .int 0, .int 0, .long 0, .int 0, .int 0, .int (-1), .int (-1), .int 0, .ref a50, .ref a51, .int 0, .int 0, .ref a54, .ref a55, .int (-1), .ref a57, .ref a58, .ref a59, .ref a60, .int 0, .int 0, .int 0, .ref a64]))])) (va_Qi (fun (r : Int32) (_ : Unit) => r = -1) (fun (_ : Unit) t => va_P (dC, dI) cls [] t.heap ∧ va_K (dC, dI) cls [] t ∧ va_D (va_A [(h0, .inr (12, [.int 0, .ref a1, .ref a2, .ref a3, .ref a4, .ref a5, .int 0, .ref a7, .ref a8, .int 0, .ref a10, .ref a11, .ref a12, .ref a13, .int 0, .ref a15, .ref a16, .ref a17, .ref a18, .ref a19, .ref a20, .ref a21, .ref a22, .int 0, .ref a24, .int 0, .ref a26, .ref a27, .int 0, .ref a29, .ref a30, .ref a31, .ref a32, .ref a33, .int 0, .ref a35, .ref a36, .int 0, .ref a38, .int 0, .int 0, .int 0, .int 0, .int 0, .long 0, .int 0, .int 0, .int (-1), .int (-1), .int 0, .ref a50, .ref a51, .int 0, .int 0, .ref a54, .ref a55, .int (-1), .ref a57, .ref a58, .ref a59, .ref a60, .int 0, .int 0, .int 0, .ref a64]))] sz) []) (va_A [(h0, .inr (12, [.int 0, .ref a1, .ref a2, .ref a3, .ref a4, .ref a5, .int 0, .ref a7, .ref a8, .int 0, .ref a10, .ref a11, .ref a12, .ref a13, .int 0, .ref a15, .ref a16, .ref a17, .ref a18, .ref a19, .ref a20, .ref a21, .ref a22, .int 0, .ref a24, .int 0, .ref a26, .ref a27, .int 0, .ref a29, .ref a30, .ref a31, .ref a32, .ref a33, .int 0, .ref a35, .ref a36, .int 0, .ref a38, .int 0, .int 0, .int 0, .int 0, .int 0, .long 0, .int 0, .int 0, .int (-1), .int (-1), .int 0, .ref a50, .ref a51, .int 0, .int 0, .ref a54, .ref a55, .int (-1), .ref a57, .ref a58, .ref a59, .ref a60, .int 0, .int 0, .int 0, .ref a64]))] sz)) 0 0 (va_A [(h0, .inr (12, [.int 0, .ref a1, .ref a2, .ref a3, .ref a4, .ref a5, .int 0, .ref a7, .ref a8, .int 0, .ref a10, .ref a11, .ref a12, .ref a13, .int 0, .ref a15, .ref a16, .ref a17, .ref a18, .ref a19, .ref a20, .ref a21, .ref a22, .int 0, .ref a24, .int 0, .ref a26, .ref a27, .int 0, .ref a29, .ref a30, .ref a31, .ref a32, .ref a33, .int 0, .ref a35, .ref a36, .int 0, .ref a38, .int 0, .int 0, .int 0, .int 0, .int 0, .long 0, .int 0, .int 0, .int (-1), .int (-1), .int 0, .ref a50, .ref a51, .int 0, .int 0, .ref a54, .ref a55, .int (-1), .ref a57, .ref a58, .ref a59, .ref a60, .int 0, .int 0, .int 0, .ref a64]))] sz) := by
  refine Met.ofW (cc := cX12_moved) (maxL := 2) (ret := (some .int)) (by decide) rfl ?_
  intro p e s m args below meth c s₁ B hml hv
  obtain ⟨rfl, hsz, hP, hK, hD0⟩ := hv
  have hx := B.exec
  have hb := B.bytes
  have hr := B.returns
  have hts := atoms_spec (ws := wm_moved) B.pre
  have hown : s.vm.findClass RX12 = some m.cls := findClass_of_methodNamed B.named
  have hlocks := B.notSynchronized
  subst hsz
  have hD := hD0.self (sz := s.heap.size)
  generalize hAe : va_A [(h0, .inr (12, [.int 0, .ref a1, .ref a2, .ref a3, .ref a4, .ref a5, .int 0, .ref a7, .ref a8, .int 0, .ref a10, .ref a11, .ref a12, .ref a13, .int 0, .ref a15, .ref a16, .ref a17, .ref a18, .ref a19, .ref a20, .ref a21, .ref a22, .int 0, .ref a24, .int 0, .ref a26, .ref a27, .int 0, .ref a29, .ref a30, .ref a31, .ref a32, .ref a33, .int 0, .ref a35, .ref a36, .int 0, .ref a38, .int 0, .int 0, .int 0, .int 0, .int 0, .long 0, .int 0, .int 0, .int (-1), .int (-1), .int 0, .ref a50, .ref a51, .int 0, .int 0, .ref a54, .ref a55, .int (-1), .ref a57, .ref a58, .ref a59, .ref a60, .int 0, .int 0, .int 0, .ref a64]))] s.heap.size = A at hD ⊢
  have hA : ∀ q : Nat, s.heap.size ≤ q → A q := fun q h => by rw [← hAe]; exact Or.inr h
  have hP : va_P (dC, dI) cls [(h0, .inr (12, [.int 0, .ref a1, .ref a2, .ref a3, .ref a4, .ref a5, .int 0, .ref a7, .ref a8, .int 0, .ref a10, .ref a11, .ref a12, .ref a13, .int 0, .ref a15, .ref a16, .ref a17, .ref a18, .ref a19, .ref a20, .ref a21, .ref a22, .int 0, .ref a24, .int 0, .ref a26, .ref a27, .int 0, .ref a29, .ref a30, .ref a31, .ref a32, .ref a33, .int 0, .ref a35, .ref a36, .int 0, .ref a38, .int 0, .int 0, .int 0, .int 0, .int 0, .long 0, .int 0, .int 0, .int (-1), .int (-1), .int 0, .ref a50, .ref a51, .int 0, .int 0, .ref a54, .ref a55, .int (-1), .ref a57, .ref a58, .ref a59, .ref a60, .int 0, .int 0, .int 0, .ref a64]))] s.heap := hP
  have hl := lv_entry ([.ref h0, .int v1]) (n := 2) (Nat.le_of_ble_eq_true rfl)
  rw [lg_entry_eq]
  generalize (lg_sl ([.ref h0, .int v1]) ++ List.replicate (2 - (lg_sl ([.ref h0, .int v1])).length) Slot.unset).toArray = ls at hl ⊢
  have hl : lv_has ls 2 [(0, .ref h0), (1, .int v1)] := hl
  obtain ⟨H, hH⟩ : ∃ H : Heap, s.heap = H := ⟨_, rfl⟩
  rw [hH] at hP ⊢
  have hS : va_S A s.heap H [] := by rw [← hH]; exact va_S.rf
  refine lv_aload_n hx hb dX12_moved_0 rfl (lv_at hl 0 rfl) ?_
  refine lv_iconst (v := 0) hx hb dX12_moved_1 (by decide) ?_
  refine va_put (D := (dC, dI)) (ci := 12) (v := .int 0) (ty := .int) (C := RX12) (T := TX12) (N := 65) hx hb hts im_moved_RX12 tyX12 tyX12_ok nmX12 hown hK hP hD hS 0 rfl rfl 0 (by decide) (hts (.fieldLink RX12 142 "PutBackModel" "told" "I") (by decide +kernel)) (fun _ h9 => h9) rfl (by decide +kernel) rfl rfl (Nat.le_of_ble_eq_true rfl) dX12_moved_2 (fun H locs hP hD hS => ?_)
  have hP : va_P (dC, dI) cls [(h0, .inr (12, [.int 0, .ref a1, .ref a2, .ref a3, .ref a4, .ref a5, .int 0, .ref a7, .ref a8, .int 0, .ref a10, .ref a11, .ref a12, .ref a13, .int 0, .ref a15, .ref a16, .ref a17, .ref a18, .ref a19, .ref a20, .ref a21, .ref a22, .int 0, .ref a24, .int 0, .ref a26, .ref a27, .int 0, .ref a29, .ref a30, .ref a31, .ref a32, .ref a33, .int 0, .ref a35, .ref a36, .int 0, .ref a38, .int 0, .int 0, .int 0, .int 0, .int 0, .long 0, .int 0, .int 0, .int (-1), .int (-1), .int 0, .ref a50, .ref a51, .int 0, .int 0, .ref a54, .ref a55, .int (-1), .ref a57, .ref a58, .ref a59, .ref a60, .int 0, .int 0, .int 0, .ref a64]))] H := hP
  have hD : va_D A [(h0, .inr (12, [.int 0, .ref a1, .ref a2, .ref a3, .ref a4, .ref a5, .int 0, .ref a7, .ref a8, .int 0, .ref a10, .ref a11, .ref a12, .ref a13, .int 0, .ref a15, .ref a16, .ref a17, .ref a18, .ref a19, .ref a20, .ref a21, .ref a22, .int 0, .ref a24, .int 0, .ref a26, .ref a27, .int 0, .ref a29, .ref a30, .ref a31, .ref a32, .ref a33, .int 0, .ref a35, .ref a36, .int 0, .ref a38, .int 0, .int 0, .int 0, .int 0, .int 0, .long 0, .int 0, .int 0, .int (-1), .int (-1), .int 0, .ref a50, .ref a51, .int 0, .int 0, .ref a54, .ref a55, .int (-1), .ref a57, .ref a58, .ref a59, .ref a60, .int 0, .int 0, .int 0, .ref a64]))] := hD
  refine lv_aload_n hx hb dX12_moved_5 rfl (lv_at hl 0 rfl) ?_
  refine va_get (D := (dC, dI)) (ci := 12) (v := .int 0) (C := RX12) (T := TX12) (N := 65) hx hb hts im_moved_RX12 hown hK hP 0 rfl rfl 63 (by decide) (hts (.fieldLink RX12 600 "PutBackModel" "isMoved" "Z") (by decide +kernel)) (fun _ h9 => h9) rfl dX12_moved_6 ?_
  refine lv_if_eq (tgt := 34) hx hb dX12_moved_9 (by decide) (fun c_1 => ?_) (fun c_1 => ?_)
  rotate_left
  · exact absurd (by decide) c_1
  refine lv_iconst (v := (-1)) hx hb dX12_moved_34 (by decide) ?_
  have hP9 := hP.sub (ws' := []) [] rfl
  have hD9 := hD.sub (ws' := []) [] (by decide) rfl
  exact W.iret (v := (-1)) hx hb hr (fun t ht hW => ⟨⟨(-1), (), rfl, rfl, by rw [ht]; exact hP9, va_K.moved hW.alike hK, hD9⟩, hS.F ht⟩) hS.2.2 dX12_moved_35
def wm_many : List Cond := .code yX12_many cX12_many 4 (some .long) :: ([.fieldLink RX12 142 "PutBackModel" "told" "I", .methodLink RX12 520 yX12_isLens, .instanceMethod yX12_isLens, .selects RX12 yX12_isLens yX12_isLens, .initialized RX12, .code yX12_isLens cX12_isLens 2 (some .boolean), .fieldLink RX12 506 "PutBackModel" "lenses" "I", .methodLink RX12 153 yX12_isIn, .instanceMethod yX12_isIn, .selects RX12 yX12_isIn yX12_isIn, .code yX12_isIn cX12_isIn 7 (some .boolean), .constantLong RX12 540 (-1)] ++ wsX120)
theorem im_many_RX12 : ∀ w ∈ u_ws RX12 TX12 65, w ∈ wm_many := fun w h => List.mem_cons_of_mem _ (List.mem_append_right _ h)
theorem gm_many_520g : GoodIn wm_many wm_isLens := goodIn_r _ [6, 7, 8, 9, 10, 5, 11, 13, 14, 15, 16, 17, 18, 19, 20, 21, 22, 23, 24, 25, 26, 27, 28, 29, 30, 31, 32, 33, 34, 35, 36, 37, 38, 39, 40, 41, 42, 43, 44, 45, 46, 47, 48, 49, 50, 51, 52, 53, 54, 55, 56, 57, 58, 59, 60, 61, 62, 63, 64, 65, 66, 67, 68, 69, 70, 71, 72, 73, 74, 75, 76, 77] (by decide +kernel) (by decide +kernel)
theorem gm_many_520 : GoodIn wm_many (wsV RX12 520 RX12 yX12_isLens wm_isLens) := goodIn_app (goodIn_of _ (by decide +kernel)) gm_many_520g
set_option maxHeartbeats 4000000 in
set_option maxRecDepth 100000 in
theorem m_many (l : Launch) (dC : Nat → ClassId) (dI : Nat → Nat → Nat) (sz : Nat) (h0 : Nat) (v1 : Int32) (v2 : Int32) (v3 : Int32) (a1 : Nat) (a2 : Nat) (a3 : Nat) (a4 : Nat) (a5 : Nat) (a7 : Nat) (a8 : Nat) (a10 : Nat) (a11 : Nat) (a12 : Nat) (a13 : Nat) (a15 : Nat) (a16 : Nat) (a17 : Nat) (a18 : Nat) (a19 : Nat) (a20 : Nat) (a21 : Nat) (a22 : Nat) (a24 : Nat) (a26 : Nat) (a27 : Nat) (a29 : Nat) (a30 : Nat) (a31 : Nat) (a32 : Nat) (a33 : Nat) (a35 : Nat) (a36 : Nat) (a38 : Nat) (a50 : Nat) (a51 : Nat) (a54 : Nat) (a55 : Nat) (a57 : Nat) (a58 : Nat) (a59 : Nat) (a60 : Nat) (a64 : Nat) : Met l yX12_many wm_many ({ frames := 2, cells := 0, slots := 0, locals := 47 } : Room) (va_Pc [.ref h0, .int v1, .int v2, .int v3] (fun U => U.heap.size = sz ∧ va_P (dC, dI) cls [(h0, .inr (12, [.int 0, .ref a1, .ref a2, .ref a3, .ref a4, .ref a5, .int 0, .ref a7, .ref a8, .int 0, .ref a10, .ref a11, .ref a12, .ref a13, .int 0, .ref a15, .ref a16, .ref a17, .ref a18, .ref a19, .ref a20, .ref a21, .ref a22, .int 0, .ref a24, .int 0, .ref a26, .ref a27, .int 0, .ref a29, .ref a30, .ref a31, .ref a32, .ref a33, .int 0, .ref a35, .ref a36, .int 0, .ref a38, .int 0, .int 0, .int 0, .int 0, .int 0, .long 0, .int 0, .int 0, .int (-1), .int (-1), .int 0, .ref a50, .ref a51, .int 0, .int 0, .ref a54, .ref a55, .int (-1), .ref a57, .ref a58, .ref a59, .ref a60, .int 0, .int 0, .int 0, .ref a64]))] U.heap ∧ va_K (dC, dI) cls [] U ∧ va_D (fun _ => True) [(h0, .inr (12, [.int 0, .ref a1, .ref a2, .ref a3, .ref a4, .ref a5, .int 0, .ref a7, .ref a8, .int 0, .ref a10, .ref a11, .ref a12, .ref a13, .int 0, .ref a15, .ref a16, .ref a17, .ref a18, .ref a19, .ref a20, .ref a21, .ref a22, .int 0, .ref a24, .int 0, .ref a26, .ref a27, .int 0, .ref a29, .ref a30, .ref a31, .ref a32, .ref a33, .int 0, .ref a35, .ref a36, .int 0, .ref a38, .int 0, .int 0, .int 0, .int 0, .int 0, .long 0, .int 0, .int 0, .int (-1), .int (-1), .int 0, .ref a50, .ref a51, .int 0, .int 0, .ref a54, .ref a55, .int (-1), .ref a57, .ref a58, .ref a59, .ref a60, .int 0, .int 0, .int 0, .ref a64]))])) (va_Ql (fun (r : Int64) (_ : Unit) => r = -1) (fun (_ : Unit) t => va_P (dC, dI) cls [] t.heap ∧ va_K (dC, dI) cls [] t ∧ va_D (va_A [(h0, .inr (12, [.int 0, .ref a1, .ref a2, .ref a3, .ref a4, .ref a5, .int 0, .ref a7, .ref a8, .int 0, .ref a10, .ref a11, .ref a12, .ref a13, .int 0, .ref a15, .ref a16, .ref a17, .ref a18, .ref a19, .ref a20, .ref a21, .ref a22, .int 0, .ref a24, .int 0, .ref a26, .ref a27, .int 0, .ref a29, .ref a30, .ref a31, .ref a32, .ref a33, .int 0, .ref a35, .ref a36, .int 0, .ref a38, .int 0, .int 0, .int 0, .int 0, .int 0, .long 0, .int 0, .int 0, .int (-1), .int (-1), .int 0, .ref a50, .ref a51, .int 0, .int 0, .ref a54, .ref a55, .int (-1), .ref a57, .ref a58, .ref a59, .ref a60, .int 0, .int 0, .int 0, .ref a64]))] sz) []) (va_A [(h0, .inr (12, [.int 0, .ref a1, .ref a2, .ref a3, .ref a4, .ref a5, .int 0, .ref a7, .ref a8, .int 0, .ref a10, .ref a11, .ref a12, .ref a13, .int 0, .ref a15, .ref a16, .ref a17, .ref a18, .ref a19, .ref a20, .ref a21, .ref a22, .int 0, .ref a24, .int 0, .ref a26, .ref a27, .int 0, .ref a29, .ref a30, .ref a31, .ref a32, .ref a33, .int 0, .ref a35, .ref a36, .int 0, .ref a38, .int 0, .int 0, .int 0, .int 0, .int 0, .long 0, .int 0, .int 0, .int (-1), .int (-1), .int 0, .ref a50, .ref a51, .int 0, .int 0, .ref a54, .ref a55, .int (-1), .ref a57, .ref a58, .ref a59, .ref a60, .int 0, .int 0, .int 0, .ref a64]))] sz)) 0 0 (va_A [(h0, .inr (12, [.int 0, .ref a1, .ref a2, .ref a3, .ref a4, .ref a5, .int 0, .ref a7, .ref a8, .int 0, .ref a10, .ref a11, .ref a12, .ref a13, .int 0, .ref a15, .ref a16, .ref a17, .ref a18, .ref a19, .ref a20, .ref a21, .ref a22, .int 0, .ref a24, .int 0, .ref a26, .ref a27, .int 0, .ref a29, .ref a30, .ref a31, .ref a32, .ref a33, .int 0, .ref a35, .ref a36, .int 0, .ref a38, .int 0, .int 0, .int 0, .int 0, .int 0, .long 0, .int 0, .int 0, .int (-1), .int (-1), .int 0, .ref a50, .ref a51, .int 0, .int 0, .ref a54, .ref a55, .int (-1), .ref a57, .ref a58, .ref a59, .ref a60, .int 0, .int 0, .int 0, .ref a64]))] sz) := by
  refine Met.ofW (cc := cX12_many) (maxL := 4) (ret := (some .long)) (by decide) rfl ?_
  intro p e s m args below meth c s₁ B hml hv
  obtain ⟨rfl, hsz, hP, hK, hD0⟩ := hv
  have hx := B.exec
  have hb := B.bytes
  have hr := B.returns
  have hts := atoms_spec (ws := wm_many) B.pre
  have hown : s.vm.findClass RX12 = some m.cls := findClass_of_methodNamed B.named
  have hlocks := B.notSynchronized
  subst hsz
  have hD := hD0.self (sz := s.heap.size)
  generalize hAe : va_A [(h0, .inr (12, [.int 0, .ref a1, .ref a2, .ref a3, .ref a4, .ref a5, .int 0, .ref a7, .ref a8, .int 0, .ref a10, .ref a11, .ref a12, .ref a13, .int 0, .ref a15, .ref a16, .ref a17, .ref a18, .ref a19, .ref a20, .ref a21, .ref a22, .int 0, .ref a24, .int 0, .ref a26, .ref a27, .int 0, .ref a29, .ref a30, .ref a31, .ref a32, .ref a33, .int 0, .ref a35, .ref a36, .int 0, .ref a38, .int 0, .int 0, .int 0, .int 0, .int 0, .long 0, .int 0, .int 0, .int (-1), .int (-1), .int 0, .ref a50, .ref a51, .int 0, .int 0, .ref a54, .ref a55, .int (-1), .ref a57, .ref a58, .ref a59, .ref a60, .int 0, .int 0, .int 0, .ref a64]))] s.heap.size = A at hD ⊢
  have hA : ∀ q : Nat, s.heap.size ≤ q → A q := fun q h => by rw [← hAe]; exact Or.inr h
  have hP : va_P (dC, dI) cls [(h0, .inr (12, [.int 0, .ref a1, .ref a2, .ref a3, .ref a4, .ref a5, .int 0, .ref a7, .ref a8, .int 0, .ref a10, .ref a11, .ref a12, .ref a13, .int 0, .ref a15, .ref a16, .ref a17, .ref a18, .ref a19, .ref a20, .ref a21, .ref a22, .int 0, .ref a24, .int 0, .ref a26, .ref a27, .int 0, .ref a29, .ref a30, .ref a31, .ref a32, .ref a33, .int 0, .ref a35, .ref a36, .int 0, .ref a38, .int 0, .int 0, .int 0, .int 0, .int 0, .long 0, .int 0, .int 0, .int (-1), .int (-1), .int 0, .ref a50, .ref a51, .int 0, .int 0, .ref a54, .ref a55, .int (-1), .ref a57, .ref a58, .ref a59, .ref a60, .int 0, .int 0, .int 0, .ref a64]))] s.heap := hP
  have hl := lv_entry ([.ref h0, .int v1, .int v2, .int v3]) (n := 4) (Nat.le_of_ble_eq_true rfl)
  rw [lg_entry_eq]
  generalize (lg_sl ([.ref h0, .int v1, .int v2, .int v3]) ++ List.replicate (4 - (lg_sl ([.ref h0, .int v1, .int v2, .int v3])).length) Slot.unset).toArray = ls at hl ⊢
  have hl : lv_has ls 4 [(0, .ref h0), (1, .int v1), (2, .int v2), (3, .int v3)] := hl
  obtain ⟨H, hH⟩ : ∃ H : Heap, s.heap = H := ⟨_, rfl⟩
  rw [hH] at hP ⊢
  have hS : va_S A s.heap H [] := by rw [← hH]; exact va_S.rf
  refine lv_aload_n hx hb dX12_many_0 rfl (lv_at hl 0 rfl) ?_
  refine lv_iconst (v := 0) hx hb dX12_many_1 (by decide) ?_
  refine va_put (D := (dC, dI)) (ci := 12) (v := .int 0) (ty := .int) (C := RX12) (T := TX12) (N := 65) hx hb hts im_many_RX12 tyX12 tyX12_ok nmX12 hown hK hP hD hS 0 rfl rfl 0 (by decide) (hts (.fieldLink RX12 142 "PutBackModel" "told" "I") (by decide +kernel)) (fun _ h9 => h9) rfl (by decide +kernel) rfl rfl (Nat.le_of_ble_eq_true rfl) dX12_many_2 (fun H locs hP hD hS => ?_)
  have hP : va_P (dC, dI) cls [(h0, .inr (12, [.int 0, .ref a1, .ref a2, .ref a3, .ref a4, .ref a5, .int 0, .ref a7, .ref a8, .int 0, .ref a10, .ref a11, .ref a12, .ref a13, .int 0, .ref a15, .ref a16, .ref a17, .ref a18, .ref a19, .ref a20, .ref a21, .ref a22, .int 0, .ref a24, .int 0, .ref a26, .ref a27, .int 0, .ref a29, .ref a30, .ref a31, .ref a32, .ref a33, .int 0, .ref a35, .ref a36, .int 0, .ref a38, .int 0, .int 0, .int 0, .int 0, .int 0, .long 0, .int 0, .int 0, .int (-1), .int (-1), .int 0, .ref a50, .ref a51, .int 0, .int 0, .ref a54, .ref a55, .int (-1), .ref a57, .ref a58, .ref a59, .ref a60, .int 0, .int 0, .int 0, .ref a64]))] H := hP
  have hD : va_D A [(h0, .inr (12, [.int 0, .ref a1, .ref a2, .ref a3, .ref a4, .ref a5, .int 0, .ref a7, .ref a8, .int 0, .ref a10, .ref a11, .ref a12, .ref a13, .int 0, .ref a15, .ref a16, .ref a17, .ref a18, .ref a19, .ref a20, .ref a21, .ref a22, .int 0, .ref a24, .int 0, .ref a26, .ref a27, .int 0, .ref a29, .ref a30, .ref a31, .ref a32, .ref a33, .int 0, .ref a35, .ref a36, .int 0, .ref a38, .int 0, .int 0, .int 0, .int 0, .int 0, .long 0, .int 0, .int 0, .int (-1), .int (-1), .int 0, .ref a50, .ref a51, .int 0, .int 0, .ref a54, .ref a55, .int (-1), .ref a57, .ref a58, .ref a59, .ref a60, .int 0, .int 0, .int 0, .ref a64]))] := hD
  refine lv_aload_n hx hb dX12_many_5 rfl (lv_at hl 0 rfl) ?_
  refine lv_iload_n hx hb dX12_many_6 rfl (lv_at hl 1 rfl) ?_
  have hPc := hP.sub (ws' := [(h0, .inr (12, [.int 0, .ref a1, .ref a2, .ref a3, .ref a4, .ref a5, .int 0, .ref a7, .ref a8, .int 0, .ref a10, .ref a11, .ref a12, .ref a13, .int 0, .ref a15, .ref a16, .ref a17, .ref a18, .ref a19, .ref a20, .ref a21, .ref a22, .int 0, .ref a24, .int 0, .ref a26, .ref a27, .int 0, .ref a29, .ref a30, .ref a31, .ref a32, .ref a33, .int 0, .ref a35, .ref a36, .int 0, .ref a38, .int 0, .int 0, .int 0, .int 0, .int 0, .long 0, .int 0, .int 0, .int (-1), .int (-1), .int 0, .ref a50, .ref a51, .int 0, .int 0, .ref a54, .ref a55, .int (-1), .ref a57, .ref a58, .ref a59, .ref a60, .int 0, .int 0, .int 0, .ref a64]))]) [0] rfl
  have hDc := hD.sub (ws' := [(h0, .inr (12, [.int 0, .ref a1, .ref a2, .ref a3, .ref a4, .ref a5, .int 0, .ref a7, .ref a8, .int 0, .ref a10, .ref a11, .ref a12, .ref a13, .int 0, .ref a15, .ref a16, .ref a17, .ref a18, .ref a19, .ref a20, .ref a21, .ref a22, .int 0, .ref a24, .int 0, .ref a26, .ref a27, .int 0, .ref a29, .ref a30, .ref a31, .ref a32, .ref a33, .int 0, .ref a35, .ref a36, .int 0, .ref a38, .int 0, .int 0, .int 0, .int 0, .int 0, .long 0, .int 0, .int 0, .int (-1), .int (-1), .int 0, .ref a50, .ref a51, .int 0, .int 0, .ref a54, .ref a55, .int (-1), .ref a57, .ref a58, .ref a59, .ref a60, .int 0, .int 0, .int 0, .ref a64]))]) [0] (by decide) rfl
  have hKc := hK.sub (tys' := []) [] rfl
  have hFc := va_free (wc := [(h0, .inr (12, [.int 0, .ref a1, .ref a2, .ref a3, .ref a4, .ref a5, .int 0, .ref a7, .ref a8, .int 0, .ref a10, .ref a11, .ref a12, .ref a13, .int 0, .ref a15, .ref a16, .ref a17, .ref a18, .ref a19, .ref a20, .ref a21, .ref a22, .int 0, .ref a24, .int 0, .ref a26, .ref a27, .int 0, .ref a29, .ref a30, .ref a31, .ref a32, .ref a33, .int 0, .ref a35, .ref a36, .int 0, .ref a38, .int 0, .int 0, .int 0, .int 0, .int 0, .long 0, .int 0, .int 0, .int (-1), .int (-1), .int 0, .ref a50, .ref a51, .int 0, .int 0, .ref a54, .ref a55, .int (-1), .ref a57, .ref a58, .ref a59, .ref a60, .int 0, .int 0, .int 0, .ref a64]))]) hD hS hA [0] rfl
  refine va_calli (va_runV (As := [.int v1]) (rest := []) ⟨hx, hb, hml, hown, hts⟩ (m_isLens l dC dI H.size h0 v1 a1 a2 a3 a4 a5 a7 a8 a10 a11 a12 a13 a15 a16 a17 a18 a19 a20 a21 a22 a24 a26 a27 a29 a30 a31 a32 a33 a35 a36 a38 a50 a51 a54 a55 a57 a58 a59 a60 a64) (cwV 1 hts gm_many_520 rfl rfl rfl (by decide +kernel) ⟨Nat.le_of_ble_eq_true rfl, Nat.le_of_ble_eq_true rfl⟩) ⟨fun a U g mk q => by obtain ⟨q0, q1, qP, qK, qD⟩ := q; exact ⟨q0, q1, qP, va_K.moved (u := U) (U := U.calling g mk a) (Vm.Alike.refl U.vm) qK, qD⟩, va_recv hK hP (ci := 12) (q0 := 0) rfl rfl, fun U hU hW => ⟨rfl, by rw [hU], by rw [hU]; exact hPc, va_K.moved hW.alike hKc, hDc.weaken (fun _ _ _ _ => trivial)⟩⟩ rfl rfl hl.1 rfl (lv_room (Nat.le_of_ble_eq_true rfl)) dX12_many_7 ⟨Nat.le_of_ble_eq_true rfl, Nat.le_of_ble_eq_true rfl⟩) hS (fun q _ h => hFc q h) hFc (fun r_2 u t H1 locs ht hvm hw hB hz1 hk1 hS => ?_)
  obtain ⟨hP1, hK1, hD1⟩ := hB
  rw [ht] at hP1
  try dsimp only at hw
  obtain ⟨hP, hD⟩ := va_join (wr := []) (w1 := [(h0, .inr (12, [.int 0, .ref a1, .ref a2, .ref a3, .ref a4, .ref a5, .int 0, .ref a7, .ref a8, .int 0, .ref a10, .ref a11, .ref a12, .ref a13, .int 0, .ref a15, .ref a16, .ref a17, .ref a18, .ref a19, .ref a20, .ref a21, .ref a22, .int 0, .ref a24, .int 0, .ref a26, .ref a27, .int 0, .ref a29, .ref a30, .ref a31, .ref a32, .ref a33, .int 0, .ref a35, .ref a36, .int 0, .ref a38, .int 0, .int 0, .int 0, .int 0, .int 0, .long 0, .int 0, .int 0, .int (-1), .int (-1), .int 0, .ref a50, .ref a51, .int 0, .int 0, .ref a54, .ref a55, .int (-1), .ref a57, .ref a58, .ref a59, .ref a60, .int 0, .int 0, .int 0, .ref a64]))]) hP hD [0] [] rfl rfl (by decide) (by decide) hk1 hFc hP1 hD1
  clear hk1 hz1 hPc hDc hFc hP1 hD1 hK1 hKc
  generalize H1 = H at hP hS ⊢
  have hP : va_P (dC, dI) cls [(h0, .inr (12, [.int 0, .ref a1, .ref a2, .ref a3, .ref a4, .ref a5, .int 0, .ref a7, .ref a8, .int 0, .ref a10, .ref a11, .ref a12, .ref a13, .int 0, .ref a15, .ref a16, .ref a17, .ref a18, .ref a19, .ref a20, .ref a21, .ref a22, .int 0, .ref a24, .int 0, .ref a26, .ref a27, .int 0, .ref a29, .ref a30, .ref a31, .ref a32, .ref a33, .int 0, .ref a35, .ref a36, .int 0, .ref a38, .int 0, .int 0, .int 0, .int 0, .int 0, .long 0, .int 0, .int 0, .int (-1), .int (-1), .int 0, .ref a50, .ref a51, .int 0, .int 0, .ref a54, .ref a55, .int (-1), .ref a57, .ref a58, .ref a59, .ref a60, .int 0, .int 0, .int 0, .ref a64]))] H := hP
  have hD : va_D A [(h0, .inr (12, [.int 0, .ref a1, .ref a2, .ref a3, .ref a4, .ref a5, .int 0, .ref a7, .ref a8, .int 0, .ref a10, .ref a11, .ref a12, .ref a13, .int 0, .ref a15, .ref a16, .ref a17, .ref a18, .ref a19, .ref a20, .ref a21, .ref a22, .int 0, .ref a24, .int 0, .ref a26, .ref a27, .int 0, .ref a29, .ref a30, .ref a31, .ref a32, .ref a33, .int 0, .ref a35, .ref a36, .int 0, .ref a38, .int 0, .int 0, .int 0, .int 0, .int 0, .long 0, .int 0, .int 0, .int (-1), .int (-1), .int 0, .ref a50, .ref a51, .int 0, .int 0, .ref a54, .ref a55, .int (-1), .ref a57, .ref a58, .ref a59, .ref a60, .int 0, .int 0, .int 0, .ref a64]))] := hD
  obtain rfl := hw
  refine lv_if_eq (tgt := 34) hx hb dX12_many_10 (by decide) (fun c_3 => ?_) (fun c_3 => ?_)
  rotate_left
  · exact absurd (by decide) c_3
  refine lv_ldc2 hx hb hown (hts (.constantLong RX12 540 (-1)) (by decide +kernel)) dX12_many_34 ?_
  have hP9 := hP.sub (ws' := []) [] rfl
  have hD9 := hD.sub (ws' := []) [] (by decide) rfl
  exact W.lret (v := (-1)) hx hb hr (fun t ht hW => ⟨⟨(-1), (), rfl, rfl, by rw [ht]; exact hP9, va_K.moved hW.alike hK, hD9⟩, hS.F ht⟩) hS.2.2 dX12_many_37
def wm_undo : List Cond := .code yX12_undo cX12_undo 2 (some .boolean) :: ([.fieldLink RX12 142 "PutBackModel" "told" "I", .fieldLink RX12 594 "PutBackModel" "undos" "I"] ++ wsX120)
theorem im_undo_RX12 : ∀ w ∈ u_ws RX12 TX12 65, w ∈ wm_undo := fun w h => List.mem_cons_of_mem _ (List.mem_append_right _ h)
set_option maxHeartbeats 4000000 in
set_option maxRecDepth 100000 in
theorem m_undo (l : Launch) (dC : Nat → ClassId) (dI : Nat → Nat → Nat) (sz : Nat) (h0 : Nat) (a1 : Nat) (a2 : Nat) (a3 : Nat) (a4 : Nat) (a5 : Nat) (a7 : Nat) (a8 : Nat) (a10 : Nat) (a11 : Nat) (a12 : Nat) (a13 : Nat) (a15 : Nat) (a16 : Nat) (a17 : Nat) (a18 : Nat) (a19 : Nat) (a20 : Nat) (a21 : Nat) (a22 : Nat) (a24 : Nat) (a26 : Nat) (a27 : Nat) (a29 : Nat) (a30 : Nat) (a31 : Nat) (a32 : Nat) (a33 : Nat) (a35 : Nat) (a36 : Nat) (a38 : Nat) (a50 : Nat) (a51 : Nat) (a54 : Nat) (a55 : Nat) (a57 : Nat) (a58 : Nat) (a59 : Nat) (a60 : Nat) (a64 : Nat) : Met l yX12_undo wm_undo ({ frames := 0, cells := 0, slots := 0, locals := 0 } : Room) (va_Pc [.ref h0] (fun U => U.heap.size = sz ∧ va_P (dC, dI) cls [(h0, .inr (12, [.int 0, .ref a1, .ref a2, .ref a3, .ref a4, .ref a5, .int 0, .ref a7, .ref a8, .int 0, .ref a10, .ref a11, .ref a12, .ref a13, .int 0, .ref a15, .ref a16, .ref a17, .ref a18, .ref a19, .ref a20, .ref a21, .ref a22, .int 0, .ref a24, .int 0, .ref a26, .ref a27, .int 0, .ref a29, .ref a30, .ref a31, .ref a32, .ref a33, .int 0, .ref a35, .ref a36, .int 0, .ref a38, .int 0, .int 0, .int 0, .int 0, .int 0, .long 0, .int 0, .int 0, .int (-1), .int (-1), .int 0, .ref a50, .ref a51, .int 0, .int 0, .ref a54, .ref a55, .int (-1), .ref a57, .ref a58, .ref a59, .ref a60, .int 0, .int 0, .int 0, .ref a64]))] U.heap ∧ va_K (dC, dI) cls [] U ∧ va_D (fun _ => True) [(h0, .inr (12, [.int 0, .ref a1, .ref a2, .ref a3, .ref a4, .ref a5, .int 0, .ref a7, .ref a8, .int 0, .ref a10, .ref a11, .ref a12, .ref a13, .int 0, .ref a15, .ref a16, .ref a17, .ref a18, .ref a19, .ref a20, .ref a21, .ref a22, .int 0, .ref a24, .int 0, .ref a26, .ref a27, .int 0, .ref a29, .ref a30, .ref a31, .ref a32, .ref a33, .int 0, .ref a35, .ref a36, .int 0, .ref a38, .int 0, .int 0, .int 0, .int 0, .int 0, .long 0, .int 0, .int 0, .int (-1), .int (-1), .int 0, .ref a50, .ref a51, .int 0, .int 0, .ref a54, .ref a55, .int (-1), .ref a57, .ref a58, .ref a59, .ref a60, .int 0, .int 0, .int 0, .ref a64]))])) (va_Qi (fun (r : Int32) (_ : Unit) => r = 0) (fun (_ : Unit) t => va_P (dC, dI) cls [] t.heap ∧ va_K (dC, dI) cls [] t ∧ va_D (va_A [(h0, .inr (12, [.int 0, .ref a1, .ref a2, .ref a3, .ref a4, .ref a5, .int 0, .ref a7, .ref a8, .int 0, .ref a10, .ref a11, .ref a12, .ref a13, .int 0, .ref a15, .ref a16, .ref a17, .ref a18, .ref a19, .ref a20, .ref a21, .ref a22, .int 0, .ref a24, .int 0, .ref a26, .ref a27, .int 0, .ref a29, .ref a30, .ref a31, .ref a32, .ref a33, .int 0, .ref a35, .ref a36, .int 0, .ref a38, .int 0, .int 0, .int 0, .int 0, .int 0, .long 0, .int 0, .int 0, .int (-1), .int (-1), .int 0, .ref a50, .ref a51, .int 0, .int 0, .ref a54, .ref a55, .int (-1), .ref a57, .ref a58, .ref a59, .ref a60, .int 0, .int 0, .int 0, .ref a64]))] sz) []) (va_A [(h0, .inr (12, [.int 0, .ref a1, .ref a2, .ref a3, .ref a4, .ref a5, .int 0, .ref a7, .ref a8, .int 0, .ref a10, .ref a11, .ref a12, .ref a13, .int 0, .ref a15, .ref a16, .ref a17, .ref a18, .ref a19, .ref a20, .ref a21, .ref a22, .int 0, .ref a24, .int 0, .ref a26, .ref a27, .int 0, .ref a29, .ref a30, .ref a31, .ref a32, .ref a33, .int 0, .ref a35, .ref a36, .int 0, .ref a38, .int 0, .int 0, .int 0, .int 0, .int 0, .long 0, .int 0, .int 0, .int (-1), .int (-1), .int 0, .ref a50, .ref a51, .int 0, .int 0, .ref a54, .ref a55, .int (-1), .ref a57, .ref a58, .ref a59, .ref a60, .int 0, .int 0, .int 0, .ref a64]))] sz)) 0 0 (va_A [(h0, .inr (12, [.int 0, .ref a1, .ref a2, .ref a3, .ref a4, .ref a5, .int 0, .ref a7, .ref a8, .int 0, .ref a10, .ref a11, .ref a12, .ref a13, .int 0, .ref a15, .ref a16, .ref a17, .ref a18, .ref a19, .ref a20, .ref a21, .ref a22, .int 0, .ref a24, .int 0, .ref a26, .ref a27, .int 0, .ref a29, .ref a30, .ref a31, .ref a32, .ref a33, .int 0, .ref a35, .ref a36, .int 0, .ref a38, .int 0, .int 0, .int 0, .int 0, .int 0, .long 0, .int 0, .int 0, .int (-1), .int (-1), .int 0, .ref a50, .ref a51, .int 0, .int 0, .ref a54, .ref a55, .int (-1), .ref a57, .ref a58, .ref a59, .ref a60, .int 0, .int 0, .int 0, .ref a64]))] sz) := by
  refine Met.ofW (cc := cX12_undo) (maxL := 2) (ret := (some .boolean)) (by decide) rfl ?_
  intro p e s m args below meth c s₁ B hml hv
  obtain ⟨rfl, hsz, hP, hK, hD0⟩ := hv
  have hx := B.exec
  have hb := B.bytes
  have hr := B.returns
  have hts := atoms_spec (ws := wm_undo) B.pre
  have hown : s.vm.findClass RX12 = some m.cls := findClass_of_methodNamed B.named
  have hlocks := B.notSynchronized
  subst hsz
  have hD := hD0.self (sz := s.heap.size)
  generalize hAe : va_A [(h0, .inr (12, [.int 0, .ref a1, .ref a2, .ref a3, .ref a4, .ref a5, .int 0, .ref a7, .ref a8, .int 0, .ref a10, .ref a11, .ref a12, .ref a13, .int 0, .ref a15, .ref a16, .ref a17, .ref a18, .ref a19, .ref a20, .ref a21, .ref a22, .int 0, .ref a24, .int 0, .ref a26, .ref a27, .int 0, .ref a29, .ref a30, .ref a31, .ref a32, .ref a33, .int 0, .ref a35, .ref a36, .int 0, .ref a38, .int 0, .int 0, .int 0, .int 0, .int 0, .long 0, .int 0, .int 0, .int (-1), .int (-1), .int 0, .ref a50, .ref a51, .int 0, .int 0, .ref a54, .ref a55, .int (-1), .ref a57, .ref a58, .ref a59, .ref a60, .int 0, .int 0, .int 0, .ref a64]))] s.heap.size = A at hD ⊢
  have hA : ∀ q : Nat, s.heap.size ≤ q → A q := fun q h => by rw [← hAe]; exact Or.inr h
  have hP : va_P (dC, dI) cls [(h0, .inr (12, [.int 0, .ref a1, .ref a2, .ref a3, .ref a4, .ref a5, .int 0, .ref a7, .ref a8, .int 0, .ref a10, .ref a11, .ref a12, .ref a13, .int 0, .ref a15, .ref a16, .ref a17, .ref a18, .ref a19, .ref a20, .ref a21, .ref a22, .int 0, .ref a24, .int 0, .ref a26, .ref a27, .int 0, .ref a29, .ref a30, .ref a31, .ref a32, .ref a33, .int 0, .ref a35, .ref a36, .int 0, .ref a38, .int 0, .int 0, .int 0, .int 0, .int 0, .long 0, .int 0, .int 0, .int (-1), .int (-1), .int 0, .ref a50, .ref a51, .int 0, .int 0, .ref a54, .ref a55, .int (-1), .ref a57, .ref a58, .ref a59, .ref a60, .int 0, .int 0, .int 0, .ref a64]))] s.heap := hP
  have hl := lv_entry ([.ref h0]) (n := 2) (Nat.le_of_ble_eq_true rfl)
  rw [lg_entry_eq]
  generalize (lg_sl ([.ref h0]) ++ List.replicate (2 - (lg_sl ([.ref h0])).length) Slot.unset).toArray = ls at hl ⊢
  have hl : lv_has ls 2 [(0, .ref h0)] := hl
  obtain ⟨H, hH⟩ : ∃ H : Heap, s.heap = H := ⟨_, rfl⟩
  rw [hH] at hP ⊢
  have hS : va_S A s.heap H [] := by rw [← hH]; exact va_S.rf
  refine lv_aload_n hx hb dX12_undo_0 rfl (lv_at hl 0 rfl) ?_
  refine lv_iconst (v := 0) hx hb dX12_undo_1 (by decide) ?_
  refine va_put (D := (dC, dI)) (ci := 12) (v := .int 0) (ty := .int) (C := RX12) (T := TX12) (N := 65) hx hb hts im_undo_RX12 tyX12 tyX12_ok nmX12 hown hK hP hD hS 0 rfl rfl 0 (by decide) (hts (.fieldLink RX12 142 "PutBackModel" "told" "I") (by decide +kernel)) (fun _ h9 => h9) rfl (by decide +kernel) rfl rfl (Nat.le_of_ble_eq_true rfl) dX12_undo_2 (fun H locs hP hD hS => ?_)
  have hP : va_P (dC, dI) cls [(h0, .inr (12, [.int 0, .ref a1, .ref a2, .ref a3, .ref a4, .ref a5, .int 0, .ref a7, .ref a8, .int 0, .ref a10, .ref a11, .ref a12, .ref a13, .int 0, .ref a15, .ref a16, .ref a17, .ref a18, .ref a19, .ref a20, .ref a21, .ref a22, .int 0, .ref a24, .int 0, .ref a26, .ref a27, .int 0, .ref a29, .ref a30, .ref a31, .ref a32, .ref a33, .int 0, .ref a35, .ref a36, .int 0, .ref a38, .int 0, .int 0, .int 0, .int 0, .int 0, .long 0, .int 0, .int 0, .int (-1), .int (-1), .int 0, .ref a50, .ref a51, .int 0, .int 0, .ref a54, .ref a55, .int (-1), .ref a57, .ref a58, .ref a59, .ref a60, .int 0, .int 0, .int 0, .ref a64]))] H := hP
  have hD : va_D A [(h0, .inr (12, [.int 0, .ref a1, .ref a2, .ref a3, .ref a4, .ref a5, .int 0, .ref a7, .ref a8, .int 0, .ref a10, .ref a11, .ref a12, .ref a13, .int 0, .ref a15, .ref a16, .ref a17, .ref a18, .ref a19, .ref a20, .ref a21, .ref a22, .int 0, .ref a24, .int 0, .ref a26, .ref a27, .int 0, .ref a29, .ref a30, .ref a31, .ref a32, .ref a33, .int 0, .ref a35, .ref a36, .int 0, .ref a38, .int 0, .int 0, .int 0, .int 0, .int 0, .long 0, .int 0, .int 0, .int (-1), .int (-1), .int 0, .ref a50, .ref a51, .int 0, .int 0, .ref a54, .ref a55, .int (-1), .ref a57, .ref a58, .ref a59, .ref a60, .int 0, .int 0, .int 0, .ref a64]))] := hD
  refine lv_aload_n hx hb dX12_undo_5 rfl (lv_at hl 0 rfl) ?_
  refine va_get (D := (dC, dI)) (ci := 12) (v := .int 0) (C := RX12) (T := TX12) (N := 65) hx hb hts im_undo_RX12 hown hK hP 0 rfl rfl 61 (by decide) (hts (.fieldLink RX12 594 "PutBackModel" "undos" "I") (by decide +kernel)) (fun _ h9 => h9) rfl dX12_undo_6 ?_
  refine lv_if_ne (tgt := 14) hx hb dX12_undo_9 (by decide) (fun c_1 => ?_) (fun c_1 => ?_)
  · exact absurd c_1 (by decide)
  refine lv_iconst (v := 0) hx hb dX12_undo_12 (by decide) ?_
  have hP9 := hP.sub (ws' := []) [] rfl
  have hD9 := hD.sub (ws' := []) [] (by decide) rfl
  exact W.zret (v := 0) (ty := .boolean) hx hb hr rfl (fun t ht hW => ⟨⟨0, (), rfl, rfl, by rw [ht]; exact hP9, va_K.moved hW.alike hK, hD9⟩, hS.F ht⟩) hS.2.2 dX12_undo_13
def wm_fault : List Cond := .code yX12_fault cX12_fault 2 (some .int) :: ([.fieldLink RX12 142 "PutBackModel" "told" "I", .fieldLink RX12 109 "PutBackModel" "shownBy" "I", .fieldLink RX12 105 "PutBackModel" "faultPlace" "I", .fieldLink RX12 325 "PutBackModel" "fault" "I"] ++ wsX120)
theorem im_fault_RX12 : ∀ w ∈ u_ws RX12 TX12 65, w ∈ wm_fault := fun w h => List.mem_cons_of_mem _ (List.mem_append_right _ h)
set_option maxHeartbeats 4000000 in
set_option maxRecDepth 100000 in
theorem m_fault (l : Launch) (dC : Nat → ClassId) (dI : Nat → Nat → Nat) (sz : Nat) (h0 : Nat) (v1 : Int32) (a1 : Nat) (a2 : Nat) (a3 : Nat) (a4 : Nat) (a5 : Nat) (a7 : Nat) (a8 : Nat) (a10 : Nat) (a11 : Nat) (a12 : Nat) (a13 : Nat) (a15 : Nat) (a16 : Nat) (a17 : Nat) (a18 : Nat) (a19 : Nat) (a20 : Nat) (a21 : Nat) (a22 : Nat) (a24 : Nat) (a26 : Nat) (a27 : Nat) (a29 : Nat) (a30 : Nat) (a31 : Nat) (a32 : Nat) (a33 : Nat) (a35 : Nat) (a36 : Nat) (a38 : Nat) (a50 : Nat) (a51 : Nat) (a54 : Nat) (a55 : Nat) (a57 : Nat) (a58 : Nat) (a59 : Nat) (a60 : Nat) (a64 : Nat) : Met l yX12_fault wm_fault ({ frames := 0, cells := 0, slots := 0, locals := 0 } : Room) (va_Pc [.ref h0, .int v1] (fun U => U.heap.size = sz ∧ va_P (dC, dI) cls [(h0, .inr (12, [.int 0, .ref a1, .ref a2, .ref a3, .ref a4, .ref a5, .int 0, .ref a7, .ref a8, .int 0, .ref a10, .ref a11, .ref a12, .ref a13, .int 0, .ref a15, .ref a16, .ref a17, .ref a18, .ref a19, .ref a20, .ref a21, .ref a22, .int 0, .ref a24, .int 0, .ref a26, .ref a27, .int 0, .ref a29, .ref a30, .ref a31, .ref a32, .ref a33, .int 0, .ref a35, .ref a36, .int 0, .ref a38, .int 0, .int 0, .int 0, .int 0, .int 0, .long 0, .int 0, .int 0, .int (-1), .int (-1), .int 0, .ref a50, .ref a51, .int 0, .int 0, .ref a54, .ref a55, .int (-1), .ref a57, .ref a58, .ref a59, .ref a60, .int 0, .int 0, .int 0, .ref a64]))] U.heap ∧ va_K (dC, dI) cls [] U ∧ va_D (fun _ => True) [(h0, .inr (12, [.int 0, .ref a1, .ref a2, .ref a3, .ref a4, .ref a5, .int 0, .ref a7, .ref a8, .int 0, .ref a10, .ref a11, .ref a12, .ref a13, .int 0, .ref a15, .ref a16, .ref a17, .ref a18, .ref a19, .ref a20, .ref a21, .ref a22, .int 0, .ref a24, .int 0, .ref a26, .ref a27, .int 0, .ref a29, .ref a30, .ref a31, .ref a32, .ref a33, .int 0, .ref a35, .ref a36, .int 0, .ref a38, .int 0, .int 0, .int 0, .int 0, .int 0, .long 0, .int 0, .int 0, .int (-1), .int (-1), .int 0, .ref a50, .ref a51, .int 0, .int 0, .ref a54, .ref a55, .int (-1), .ref a57, .ref a58, .ref a59, .ref a60, .int 0, .int 0, .int 0, .ref a64]))])) (va_Qi (fun (r : Int32) (_ : Unit) => r = sp_fault v1) (fun (_ : Unit) t => va_P (dC, dI) cls [] t.heap ∧ va_K (dC, dI) cls [] t ∧ va_D (va_A [(h0, .inr (12, [.int 0, .ref a1, .ref a2, .ref a3, .ref a4, .ref a5, .int 0, .ref a7, .ref a8, .int 0, .ref a10, .ref a11, .ref a12, .ref a13, .int 0, .ref a15, .ref a16, .ref a17, .ref a18, .ref a19, .ref a20, .ref a21, .ref a22, .int 0, .ref a24, .int 0, .ref a26, .ref a27, .int 0, .ref a29, .ref a30, .ref a31, .ref a32, .ref a33, .int 0, .ref a35, .ref a36, .int 0, .ref a38, .int 0, .int 0, .int 0, .int 0, .int 0, .long 0, .int 0, .int 0, .int (-1), .int (-1), .int 0, .ref a50, .ref a51, .int 0, .int 0, .ref a54, .ref a55, .int (-1), .ref a57, .ref a58, .ref a59, .ref a60, .int 0, .int 0, .int 0, .ref a64]))] sz) []) (va_A [(h0, .inr (12, [.int 0, .ref a1, .ref a2, .ref a3, .ref a4, .ref a5, .int 0, .ref a7, .ref a8, .int 0, .ref a10, .ref a11, .ref a12, .ref a13, .int 0, .ref a15, .ref a16, .ref a17, .ref a18, .ref a19, .ref a20, .ref a21, .ref a22, .int 0, .ref a24, .int 0, .ref a26, .ref a27, .int 0, .ref a29, .ref a30, .ref a31, .ref a32, .ref a33, .int 0, .ref a35, .ref a36, .int 0, .ref a38, .int 0, .int 0, .int 0, .int 0, .int 0, .long 0, .int 0, .int 0, .int (-1), .int (-1), .int 0, .ref a50, .ref a51, .int 0, .int 0, .ref a54, .ref a55, .int (-1), .ref a57, .ref a58, .ref a59, .ref a60, .int 0, .int 0, .int 0, .ref a64]))] sz)) 0 0 (va_A [(h0, .inr (12, [.int 0, .ref a1, .ref a2, .ref a3, .ref a4, .ref a5, .int 0, .ref a7, .ref a8, .int 0, .ref a10, .ref a11, .ref a12, .ref a13, .int 0, .ref a15, .ref a16, .ref a17, .ref a18, .ref a19, .ref a20, .ref a21, .ref a22, .int 0, .ref a24, .int 0, .ref a26, .ref a27, .int 0, .ref a29, .ref a30, .ref a31, .ref a32, .ref a33, .int 0, .ref a35, .ref a36, .int 0, .ref a38, .int 0, .int 0, .int 0, .int 0, .int 0, .long 0, .int 0, .int 0, .int (-1), .int (-1), .int 0, .ref a50, .ref a51, .int 0, .int 0, .ref a54, .ref a55, .int (-1), .ref a57, .ref a58, .ref a59, .ref a60, .int 0, .int 0, .int 0, .ref a64]))] sz) := by
  refine Met.ofW (cc := cX12_fault) (maxL := 2) (ret := (some .int)) (by decide) rfl ?_
  intro p e s m args below meth c s₁ B hml hv
  obtain ⟨rfl, hsz, hP, hK, hD0⟩ := hv
  have hx := B.exec
  have hb := B.bytes
  have hr := B.returns
  have hts := atoms_spec (ws := wm_fault) B.pre
  have hown : s.vm.findClass RX12 = some m.cls := findClass_of_methodNamed B.named
  have hlocks := B.notSynchronized
  subst hsz
  have hD := hD0.self (sz := s.heap.size)
  generalize hAe : va_A [(h0, .inr (12, [.int 0, .ref a1, .ref a2, .ref a3, .ref a4, .ref a5, .int 0, .ref a7, .ref a8, .int 0, .ref a10, .ref a11, .ref a12, .ref a13, .int 0, .ref a15, .ref a16, .ref a17, .ref a18, .ref a19, .ref a20, .ref a21, .ref a22, .int 0, .ref a24, .int 0, .ref a26, .ref a27, .int 0, .ref a29, .ref a30, .ref a31, .ref a32, .ref a33, .int 0, .ref a35, .ref a36, .int 0, .ref a38, .int 0, .int 0, .int 0, .int 0, .int 0, .long 0, .int 0, .int 0, .int (-1), .int (-1), .int 0, .ref a50, .ref a51, .int 0, .int 0, .ref a54, .ref a55, .int (-1), .ref a57, .ref a58, .ref a59, .ref a60, .int 0, .int 0, .int 0, .ref a64]))] s.heap.size = A at hD ⊢
  have hA : ∀ q : Nat, s.heap.size ≤ q → A q := fun q h => by rw [← hAe]; exact Or.inr h
  have hP : va_P (dC, dI) cls [(h0, .inr (12, [.int 0, .ref a1, .ref a2, .ref a3, .ref a4, .ref a5, .int 0, .ref a7, .ref a8, .int 0, .ref a10, .ref a11, .ref a12, .ref a13, .int 0, .ref a15, .ref a16, .ref a17, .ref a18, .ref a19, .ref a20, .ref a21, .ref a22, .int 0, .ref a24, .int 0, .ref a26, .ref a27, .int 0, .ref a29, .ref a30, .ref a31, .ref a32, .ref a33, .int 0, .ref a35, .ref a36, .int 0, .ref a38, .int 0, .int 0, .int 0, .int 0, .int 0, .long 0, .int 0, .int 0, .int (-1), .int (-1), .int 0, .ref a50, .ref a51, .int 0, .int 0, .ref a54, .ref a55, .int (-1), .ref a57, .ref a58, .ref a59, .ref a60, .int 0, .int 0, .int 0, .ref a64]))] s.heap := hP
  have hl := lv_entry ([.ref h0, .int v1]) (n := 2) (Nat.le_of_ble_eq_true rfl)
  rw [lg_entry_eq]
  generalize (lg_sl ([.ref h0, .int v1]) ++ List.replicate (2 - (lg_sl ([.ref h0, .int v1])).length) Slot.unset).toArray = ls at hl ⊢
  have hl : lv_has ls 2 [(0, .ref h0), (1, .int v1)] := hl
  obtain ⟨H, hH⟩ : ∃ H : Heap, s.heap = H := ⟨_, rfl⟩
  rw [hH] at hP ⊢
  have hS : va_S A s.heap H [] := by rw [← hH]; exact va_S.rf
  refine lv_aload_n hx hb dX12_fault_0 rfl (lv_at hl 0 rfl) ?_
  refine lv_iconst (v := 0) hx hb dX12_fault_1 (by decide) ?_
  refine va_put (D := (dC, dI)) (ci := 12) (v := .int 0) (ty := .int) (C := RX12) (T := TX12) (N := 65) hx hb hts im_fault_RX12 tyX12 tyX12_ok nmX12 hown hK hP hD hS 0 rfl rfl 0 (by decide) (hts (.fieldLink RX12 142 "PutBackModel" "told" "I") (by decide +kernel)) (fun _ h9 => h9) rfl (by decide +kernel) rfl rfl (Nat.le_of_ble_eq_true rfl) dX12_fault_2 (fun H locs hP hD hS => ?_)
  have hP : va_P (dC, dI) cls [(h0, .inr (12, [.int 0, .ref a1, .ref a2, .ref a3, .ref a4, .ref a5, .int 0, .ref a7, .ref a8, .int 0, .ref a10, .ref a11, .ref a12, .ref a13, .int 0, .ref a15, .ref a16, .ref a17, .ref a18, .ref a19, .ref a20, .ref a21, .ref a22, .int 0, .ref a24, .int 0, .ref a26, .ref a27, .int 0, .ref a29, .ref a30, .ref a31, .ref a32, .ref a33, .int 0, .ref a35, .ref a36, .int 0, .ref a38, .int 0, .int 0, .int 0, .int 0, .int 0, .long 0, .int 0, .int 0, .int (-1), .int (-1), .int 0, .ref a50, .ref a51, .int 0, .int 0, .ref a54, .ref a55, .int (-1), .ref a57, .ref a58, .ref a59, .ref a60, .int 0, .int 0, .int 0, .ref a64]))] H := hP
  have hD : va_D A [(h0, .inr (12, [.int 0, .ref a1, .ref a2, .ref a3, .ref a4, .ref a5, .int 0, .ref a7, .ref a8, .int 0, .ref a10, .ref a11, .ref a12, .ref a13, .int 0, .ref a15, .ref a16, .ref a17, .ref a18, .ref a19, .ref a20, .ref a21, .ref a22, .int 0, .ref a24, .int 0, .ref a26, .ref a27, .int 0, .ref a29, .ref a30, .ref a31, .ref a32, .ref a33, .int 0, .ref a35, .ref a36, .int 0, .ref a38, .int 0, .int 0, .int 0, .int 0, .int 0, .long 0, .int 0, .int 0, .int (-1), .int (-1), .int 0, .ref a50, .ref a51, .int 0, .int 0, .ref a54, .ref a55, .int (-1), .ref a57, .ref a58, .ref a59, .ref a60, .int 0, .int 0, .int 0, .ref a64]))] := hD
  refine lv_iload_n hx hb dX12_fault_5 rfl (lv_at hl 1 rfl) ?_
  refine lv_if_ne (tgt := 16) hx hb dX12_fault_6 (by decide) (fun c_1 => ?_) (fun c_1 => ?_)
  · skip
    refine lv_iload_n hx hb dX12_fault_16 rfl (lv_at hl 1 rfl) ?_
    refine lv_iconst (v := 1) hx hb dX12_fault_17 (by decide) ?_
    refine lv_icmp_ne (tgt := 28) hx hb dX12_fault_18 (by decide) (fun c_2 => ?_) (fun c_2 => ?_)
    · skip
      refine lv_iload_n hx hb dX12_fault_28 rfl (lv_at hl 1 rfl) ?_
      refine lv_iconst (v := 2) hx hb dX12_fault_29 (by decide) ?_
      refine lv_icmp_ne (tgt := 40) hx hb dX12_fault_30 (by decide) (fun c_3 => ?_) (fun c_3 => ?_)
      · skip
        refine lv_iconst (v := (-1)) hx hb dX12_fault_40 (by decide) ?_
        have hP9 := hP.sub (ws' := []) [] rfl
        have hD9 := hD.sub (ws' := []) [] (by decide) rfl
        exact W.iret (v := (-1)) hx hb hr (fun t ht hW => ⟨⟨(-1), (), rfl, (by simp [sp_fault, c_1, c_2, c_3]), by rw [ht]; exact hP9, va_K.moved hW.alike hK, hD9⟩, hS.F ht⟩) hS.2.2 dX12_fault_41
      · skip
        refine lv_aload_n hx hb dX12_fault_33 rfl (lv_at hl 0 rfl) ?_
        refine va_get (D := (dC, dI)) (ci := 12) (v := .int (-1)) (C := RX12) (T := TX12) (N := 65) hx hb hts im_fault_RX12 hown hK hP 0 rfl rfl 48 (by decide) (hts (.fieldLink RX12 109 "PutBackModel" "shownBy" "I") (by decide +kernel)) (fun _ h9 => h9) rfl dX12_fault_34 ?_
        refine lv_goto (tgt := 41) hx hb dX12_fault_37 (by decide) ?_
        have hP9 := hP.sub (ws' := []) [] rfl
        have hD9 := hD.sub (ws' := []) [] (by decide) rfl
        exact W.iret (v := (-1)) hx hb hr (fun t ht hW => ⟨⟨(-1), (), rfl, (by simp [sp_fault, c_1, c_2, c_3]), by rw [ht]; exact hP9, va_K.moved hW.alike hK, hD9⟩, hS.F ht⟩) hS.2.2 dX12_fault_41
    · skip
      refine lv_aload_n hx hb dX12_fault_21 rfl (lv_at hl 0 rfl) ?_
      refine va_get (D := (dC, dI)) (ci := 12) (v := .int (-1)) (C := RX12) (T := TX12) (N := 65) hx hb hts im_fault_RX12 hown hK hP 0 rfl rfl 47 (by decide) (hts (.fieldLink RX12 105 "PutBackModel" "faultPlace" "I") (by decide +kernel)) (fun _ h9 => h9) rfl dX12_fault_22 ?_
      refine lv_goto (tgt := 41) hx hb dX12_fault_25 (by decide) ?_
      have hP9 := hP.sub (ws' := []) [] rfl
      have hD9 := hD.sub (ws' := []) [] (by decide) rfl
      exact W.iret (v := (-1)) hx hb hr (fun t ht hW => ⟨⟨(-1), (), rfl, (by simp [sp_fault, c_1, c_2]), by rw [ht]; exact hP9, va_K.moved hW.alike hK, hD9⟩, hS.F ht⟩) hS.2.2 dX12_fault_41
  · skip
    refine lv_aload_n hx hb dX12_fault_9 rfl (lv_at hl 0 rfl) ?_
    refine va_get (D := (dC, dI)) (ci := 12) (v := .int 0) (C := RX12) (T := TX12) (N := 65) hx hb hts im_fault_RX12 hown hK hP 0 rfl rfl 46 (by decide) (hts (.fieldLink RX12 325 "PutBackModel" "fault" "I") (by decide +kernel)) (fun _ h9 => h9) rfl dX12_fault_10 ?_
    refine lv_goto (tgt := 41) hx hb dX12_fault_13 (by decide) ?_
    have hP9 := hP.sub (ws' := []) [] rfl
    have hD9 := hD.sub (ws' := []) [] (by decide) rfl
    exact W.iret (v := 0) hx hb hr (fun t ht hW => ⟨⟨0, (), rfl, (by simp [sp_fault, c_1]), by rw [ht]; exact hP9, va_K.moved hW.alike hK, hD9⟩, hS.F ht⟩) hS.2.2 dX12_fault_41
def wm_look : List Cond := .code yX12_look cX12_look 2 (some .int) :: ([.fieldLink RX12 142 "PutBackModel" "told" "I", .fieldLink RX12 506 "PutBackModel" "lenses" "I", .fieldLink RX12 318 "PutBackModel" "taped" "I", .fieldLink RX12 124 "PutBackModel" "openLens" "I", .fieldLink RX12 594 "PutBackModel" "undos" "I", .fieldLink RX12 597 "PutBackModel" "nones" "I"] ++ wsX120)
theorem im_look_RX12 : ∀ w ∈ u_ws RX12 TX12 65, w ∈ wm_look := fun w h => List.mem_cons_of_mem _ (List.mem_append_right _ h)
set_option maxHeartbeats 4000000 in
set_option maxRecDepth 100000 in
theorem m_look (l : Launch) (dC : Nat → ClassId) (dI : Nat → Nat → Nat) (sz : Nat) (h0 : Nat) (v1 : Int32) (a1 : Nat) (a2 : Nat) (a3 : Nat) (a4 : Nat) (a5 : Nat) (a7 : Nat) (a8 : Nat) (a10 : Nat) (a11 : Nat) (a12 : Nat) (a13 : Nat) (a15 : Nat) (a16 : Nat) (a17 : Nat) (a18 : Nat) (a19 : Nat) (a20 : Nat) (a21 : Nat) (a22 : Nat) (a24 : Nat) (a26 : Nat) (a27 : Nat) (a29 : Nat) (a30 : Nat) (a31 : Nat) (a32 : Nat) (a33 : Nat) (a35 : Nat) (a36 : Nat) (a38 : Nat) (a50 : Nat) (a51 : Nat) (a54 : Nat) (a55 : Nat) (a57 : Nat) (a58 : Nat) (a59 : Nat) (a60 : Nat) (a64 : Nat) : Met l yX12_look wm_look ({ frames := 0, cells := 0, slots := 0, locals := 0 } : Room) (va_Pc [.ref h0, .int v1] (fun U => U.heap.size = sz ∧ va_P (dC, dI) cls [(h0, .inr (12, [.int 0, .ref a1, .ref a2, .ref a3, .ref a4, .ref a5, .int 0, .ref a7, .ref a8, .int 0, .ref a10, .ref a11, .ref a12, .ref a13, .int 0, .ref a15, .ref a16, .ref a17, .ref a18, .ref a19, .ref a20, .ref a21, .ref a22, .int 0, .ref a24, .int 0, .ref a26, .ref a27, .int 0, .ref a29, .ref a30, .ref a31, .ref a32, .ref a33, .int 0, .ref a35, .ref a36, .int 0, .ref a38, .int 0, .int 0, .int 0, .int 0, .int 0, .long 0, .int 0, .int 0, .int (-1), .int (-1), .int 0, .ref a50, .ref a51, .int 0, .int 0, .ref a54, .ref a55, .int (-1), .ref a57, .ref a58, .ref a59, .ref a60, .int 0, .int 0, .int 0, .ref a64]))] U.heap ∧ va_K (dC, dI) cls [] U ∧ va_D (fun _ => True) [(h0, .inr (12, [.int 0, .ref a1, .ref a2, .ref a3, .ref a4, .ref a5, .int 0, .ref a7, .ref a8, .int 0, .ref a10, .ref a11, .ref a12, .ref a13, .int 0, .ref a15, .ref a16, .ref a17, .ref a18, .ref a19, .ref a20, .ref a21, .ref a22, .int 0, .ref a24, .int 0, .ref a26, .ref a27, .int 0, .ref a29, .ref a30, .ref a31, .ref a32, .ref a33, .int 0, .ref a35, .ref a36, .int 0, .ref a38, .int 0, .int 0, .int 0, .int 0, .int 0, .long 0, .int 0, .int 0, .int (-1), .int (-1), .int 0, .ref a50, .ref a51, .int 0, .int 0, .ref a54, .ref a55, .int (-1), .ref a57, .ref a58, .ref a59, .ref a60, .int 0, .int 0, .int 0, .ref a64]))])) (va_Qi (fun (r : Int32) (_ : Unit) => r = sp_look v1) (fun (_ : Unit) t => va_P (dC, dI) cls [] t.heap ∧ va_K (dC, dI) cls [] t ∧ va_D (va_A [(h0, .inr (12, [.int 0, .ref a1, .ref a2, .ref a3, .ref a4, .ref a5, .int 0, .ref a7, .ref a8, .int 0, .ref a10, .ref a11, .ref a12, .ref a13, .int 0, .ref a15, .ref a16, .ref a17, .ref a18, .ref a19, .ref a20, .ref a21, .ref a22, .int 0, .ref a24, .int 0, .ref a26, .ref a27, .int 0, .ref a29, .ref a30, .ref a31, .ref a32, .ref a33, .int 0, .ref a35, .ref a36, .int 0, .ref a38, .int 0, .int 0, .int 0, .int 0, .int 0, .long 0, .int 0, .int 0, .int (-1), .int (-1), .int 0, .ref a50, .ref a51, .int 0, .int 0, .ref a54, .ref a55, .int (-1), .ref a57, .ref a58, .ref a59, .ref a60, .int 0, .int 0, .int 0, .ref a64]))] sz) []) (va_A [(h0, .inr (12, [.int 0, .ref a1, .ref a2, .ref a3, .ref a4, .ref a5, .int 0, .ref a7, .ref a8, .int 0, .ref a10, .ref a11, .ref a12, .ref a13, .int 0, .ref a15, .ref a16, .ref a17, .ref a18, .ref a19, .ref a20, .ref a21, .ref a22, .int 0, .ref a24, .int 0, .ref a26, .ref a27, .int 0, .ref a29, .ref a30, .ref a31, .ref a32, .ref a33, .int 0, .ref a35, .ref a36, .int 0, .ref a38, .int 0, .int 0, .int 0, .int 0, .int 0, .long 0, .int 0, .int 0, .int (-1), .int (-1), .int 0, .ref a50, .ref a51, .int 0, .int 0, .ref a54, .ref a55, .int (-1), .ref a57, .ref a58, .ref a59, .ref a60, .int 0, .int 0, .int 0, .ref a64]))] sz)) 0 0 (va_A [(h0, .inr (12, [.int 0, .ref a1, .ref a2, .ref a3, .ref a4, .ref a5, .int 0, .ref a7, .ref a8, .int 0, .ref a10, .ref a11, .ref a12, .ref a13, .int 0, .ref a15, .ref a16, .ref a17, .ref a18, .ref a19, .ref a20, .ref a21, .ref a22, .int 0, .ref a24, .int 0, .ref a26, .ref a27, .int 0, .ref a29, .ref a30, .ref a31, .ref a32, .ref a33, .int 0, .ref a35, .ref a36, .int 0, .ref a38, .int 0, .int 0, .int 0, .int 0, .int 0, .long 0, .int 0, .int 0, .int (-1), .int (-1), .int 0, .ref a50, .ref a51, .int 0, .int 0, .ref a54, .ref a55, .int (-1), .ref a57, .ref a58, .ref a59, .ref a60, .int 0, .int 0, .int 0, .ref a64]))] sz) := by
  refine Met.ofW (cc := cX12_look) (maxL := 2) (ret := (some .int)) (by decide) rfl ?_
  intro p e s m args below meth c s₁ B hml hv
  obtain ⟨rfl, hsz, hP, hK, hD0⟩ := hv
  have hx := B.exec
  have hb := B.bytes
  have hr := B.returns
  have hts := atoms_spec (ws := wm_look) B.pre
  have hown : s.vm.findClass RX12 = some m.cls := findClass_of_methodNamed B.named
  have hlocks := B.notSynchronized
  subst hsz
  have hD := hD0.self (sz := s.heap.size)
  generalize hAe : va_A [(h0, .inr (12, [.int 0, .ref a1, .ref a2, .ref a3, .ref a4, .ref a5, .int 0, .ref a7, .ref a8, .int 0, .ref a10, .ref a11, .ref a12, .ref a13, .int 0, .ref a15, .ref a16, .ref a17, .ref a18, .ref a19, .ref a20, .ref a21, .ref a22, .int 0, .ref a24, .int 0, .ref a26, .ref a27, .int 0, .ref a29, .ref a30, .ref a31, .ref a32, .ref a33, .int 0, .ref a35, .ref a36, .int 0, .ref a38, .int 0, .int 0, .int 0, .int 0, .int 0, .long 0, .int 0, .int 0, .int (-1), .int (-1), .int 0, .ref a50, .ref a51, .int 0, .int 0, .ref a54, .ref a55, .int (-1), .ref a57, .ref a58, .ref a59, .ref a60, .int 0, .int 0, .int 0, .ref a64]))] s.heap.size = A at hD ⊢
  have hA : ∀ q : Nat, s.heap.size ≤ q → A q := fun q h => by rw [← hAe]; exact Or.inr h
  have hP : va_P (dC, dI) cls [(h0, .inr (12, [.int 0, .ref a1, .ref a2, .ref a3, .ref a4, .ref a5, .int 0, .ref a7, .ref a8, .int 0, .ref a10, .ref a11, .ref a12, .ref a13, .int 0, .ref a15, .ref a16, .ref a17, .ref a18, .ref a19, .ref a20, .ref a21, .ref a22, .int 0, .ref a24, .int 0, .ref a26, .ref a27, .int 0, .ref a29, .ref a30, .ref a31, .ref a32, .ref a33, .int 0, .ref a35, .ref a36, .int 0, .ref a38, .int 0, .int 0, .int 0, .int 0, .int 0, .long 0, .int 0, .int 0, .int (-1), .int (-1), .int 0, .ref a50, .ref a51, .int 0, .int 0, .ref a54, .ref a55, .int (-1), .ref a57, .ref a58, .ref a59, .ref a60, .int 0, .int 0, .int 0, .ref a64]))] s.heap := hP
  have hl := lv_entry ([.ref h0, .int v1]) (n := 2) (Nat.le_of_ble_eq_true rfl)
  rw [lg_entry_eq]
  generalize (lg_sl ([.ref h0, .int v1]) ++ List.replicate (2 - (lg_sl ([.ref h0, .int v1])).length) Slot.unset).toArray = ls at hl ⊢
  have hl : lv_has ls 2 [(0, .ref h0), (1, .int v1)] := hl
  obtain ⟨H, hH⟩ : ∃ H : Heap, s.heap = H := ⟨_, rfl⟩
  rw [hH] at hP ⊢
  have hS : va_S A s.heap H [] := by rw [← hH]; exact va_S.rf
  refine lv_aload_n hx hb dX12_look_0 rfl (lv_at hl 0 rfl) ?_
  refine lv_iconst (v := 0) hx hb dX12_look_1 (by decide) ?_
  refine va_put (D := (dC, dI)) (ci := 12) (v := .int 0) (ty := .int) (C := RX12) (T := TX12) (N := 65) hx hb hts im_look_RX12 tyX12 tyX12_ok nmX12 hown hK hP hD hS 0 rfl rfl 0 (by decide) (hts (.fieldLink RX12 142 "PutBackModel" "told" "I") (by decide +kernel)) (fun _ h9 => h9) rfl (by decide +kernel) rfl rfl (Nat.le_of_ble_eq_true rfl) dX12_look_2 (fun H locs hP hD hS => ?_)
  have hP : va_P (dC, dI) cls [(h0, .inr (12, [.int 0, .ref a1, .ref a2, .ref a3, .ref a4, .ref a5, .int 0, .ref a7, .ref a8, .int 0, .ref a10, .ref a11, .ref a12, .ref a13, .int 0, .ref a15, .ref a16, .ref a17, .ref a18, .ref a19, .ref a20, .ref a21, .ref a22, .int 0, .ref a24, .int 0, .ref a26, .ref a27, .int 0, .ref a29, .ref a30, .ref a31, .ref a32, .ref a33, .int 0, .ref a35, .ref a36, .int 0, .ref a38, .int 0, .int 0, .int 0, .int 0, .int 0, .long 0, .int 0, .int 0, .int (-1), .int (-1), .int 0, .ref a50, .ref a51, .int 0, .int 0, .ref a54, .ref a55, .int (-1), .ref a57, .ref a58, .ref a59, .ref a60, .int 0, .int 0, .int 0, .ref a64]))] H := hP
  have hD : va_D A [(h0, .inr (12, [.int 0, .ref a1, .ref a2, .ref a3, .ref a4, .ref a5, .int 0, .ref a7, .ref a8, .int 0, .ref a10, .ref a11, .ref a12, .ref a13, .int 0, .ref a15, .ref a16, .ref a17, .ref a18, .ref a19, .ref a20, .ref a21, .ref a22, .int 0, .ref a24, .int 0, .ref a26, .ref a27, .int 0, .ref a29, .ref a30, .ref a31, .ref a32, .ref a33, .int 0, .ref a35, .ref a36, .int 0, .ref a38, .int 0, .int 0, .int 0, .int 0, .int 0, .long 0, .int 0, .int 0, .int (-1), .int (-1), .int 0, .ref a50, .ref a51, .int 0, .int 0, .ref a54, .ref a55, .int (-1), .ref a57, .ref a58, .ref a59, .ref a60, .int 0, .int 0, .int 0, .ref a64]))] := hD
  refine lv_iload_n hx hb dX12_look_5 rfl (lv_at hl 1 rfl) ?_
  by_cases q_1 : v1 = (0 : Int32)
  · skip
    refine lv_tableIn (off := 30) (tgt := 36) hx hb dX12_look_6 (by rw [q_1]; decide) (by rw [q_1]; decide) (by rw [q_1]; decide) (by decide) ?_
    refine lv_aload_n hx hb dX12_look_36 rfl (lv_at hl 0 rfl) ?_
    refine va_get (D := (dC, dI)) (ci := 12) (v := .int 0) (C := RX12) (T := TX12) (N := 65) hx hb hts im_look_RX12 hown hK hP 0 rfl rfl 28 (by decide) (hts (.fieldLink RX12 506 "PutBackModel" "lenses" "I") (by decide +kernel)) (fun _ h9 => h9) rfl dX12_look_37 ?_
    have hP9 := hP.sub (ws' := []) [] rfl
    have hD9 := hD.sub (ws' := []) [] (by decide) rfl
    exact W.iret (v := 0) hx hb hr (fun t ht hW => ⟨⟨0, (), rfl, (by simp [sp_look, q_1]), by rw [ht]; exact hP9, va_K.moved hW.alike hK, hD9⟩, hS.F ht⟩) hS.2.2 dX12_look_40
  by_cases q_2 : v1 = (1 : Int32)
  · skip
    refine lv_tableIn (off := 35) (tgt := 41) hx hb dX12_look_6 (by rw [q_2]; decide) (by rw [q_2]; decide) (by rw [q_2]; decide) (by decide) ?_
    refine lv_aload_n hx hb dX12_look_41 rfl (lv_at hl 0 rfl) ?_
    refine va_get (D := (dC, dI)) (ci := 12) (v := .int 0) (C := RX12) (T := TX12) (N := 65) hx hb hts im_look_RX12 hown hK hP 0 rfl rfl 39 (by decide) (hts (.fieldLink RX12 318 "PutBackModel" "taped" "I") (by decide +kernel)) (fun _ h9 => h9) rfl dX12_look_42 ?_
    have hP9 := hP.sub (ws' := []) [] rfl
    have hD9 := hD.sub (ws' := []) [] (by decide) rfl
    exact W.iret (v := 0) hx hb hr (fun t ht hW => ⟨⟨0, (), rfl, (by simp [sp_look, q_2]), by rw [ht]; exact hP9, va_K.moved hW.alike hK, hD9⟩, hS.F ht⟩) hS.2.2 dX12_look_45
  by_cases q_3 : v1 = (2 : Int32)
  · skip
    refine lv_tableIn (off := 40) (tgt := 46) hx hb dX12_look_6 (by rw [q_3]; decide) (by rw [q_3]; decide) (by rw [q_3]; decide) (by decide) ?_
    refine lv_aload_n hx hb dX12_look_46 rfl (lv_at hl 0 rfl) ?_
    refine va_get (D := (dC, dI)) (ci := 12) (v := .int (-1)) (C := RX12) (T := TX12) (N := 65) hx hb hts im_look_RX12 hown hK hP 0 rfl rfl 56 (by decide) (hts (.fieldLink RX12 124 "PutBackModel" "openLens" "I") (by decide +kernel)) (fun _ h9 => h9) rfl dX12_look_47 ?_
    have hP9 := hP.sub (ws' := []) [] rfl
    have hD9 := hD.sub (ws' := []) [] (by decide) rfl
    exact W.iret (v := (-1)) hx hb hr (fun t ht hW => ⟨⟨(-1), (), rfl, (by simp [sp_look, q_3]), by rw [ht]; exact hP9, va_K.moved hW.alike hK, hD9⟩, hS.F ht⟩) hS.2.2 dX12_look_50
  by_cases q_4 : v1 = (3 : Int32)
  · skip
    refine lv_tableIn (off := 45) (tgt := 51) hx hb dX12_look_6 (by rw [q_4]; decide) (by rw [q_4]; decide) (by rw [q_4]; decide) (by decide) ?_
    refine lv_aload_n hx hb dX12_look_51 rfl (lv_at hl 0 rfl) ?_
    refine va_get (D := (dC, dI)) (ci := 12) (v := .int 0) (C := RX12) (T := TX12) (N := 65) hx hb hts im_look_RX12 hown hK hP 0 rfl rfl 61 (by decide) (hts (.fieldLink RX12 594 "PutBackModel" "undos" "I") (by decide +kernel)) (fun _ h9 => h9) rfl dX12_look_52 ?_
    have hP9 := hP.sub (ws' := []) [] rfl
    have hD9 := hD.sub (ws' := []) [] (by decide) rfl
    exact W.iret (v := 0) hx hb hr (fun t ht hW => ⟨⟨0, (), rfl, (by simp [sp_look, q_4]), by rw [ht]; exact hP9, va_K.moved hW.alike hK, hD9⟩, hS.F ht⟩) hS.2.2 dX12_look_55
  refine lv_tableOut (tgt := 56) hx hb dX12_look_6 (zOut 0 3 (by decide) (fun k h1 h2 => ?_)) (by decide) ?_
  · skip
    intro hk; have hc : k = 0 ∨ k = 1 ∨ k = 2 ∨ k = 3 := by omega
    rcases hc with rfl | rfl | rfl | rfl
    · exact q_1 hk
    · exact q_2 hk
    · exact q_3 hk
    · exact q_4 hk
  refine lv_iload_n hx hb dX12_look_56 rfl (lv_at hl 1 rfl) ?_
  refine lv_iconst (v := 4) hx hb dX12_look_57 (by decide) ?_
  refine lv_icmp_ne (tgt := 68) hx hb dX12_look_58 (by decide) (fun c_5 => ?_) (fun c_5 => ?_)
  · skip
    refine lv_iconst (v := (-1)) hx hb dX12_look_68 (by decide) ?_
    have hP9 := hP.sub (ws' := []) [] rfl
    have hD9 := hD.sub (ws' := []) [] (by decide) rfl
    exact W.iret (v := (-1)) hx hb hr (fun t ht hW => ⟨⟨(-1), (), rfl, (by simp [sp_look, q_1, q_2, q_3, q_4, c_5]), by rw [ht]; exact hP9, va_K.moved hW.alike hK, hD9⟩, hS.F ht⟩) hS.2.2 dX12_look_69
  · skip
    refine lv_aload_n hx hb dX12_look_61 rfl (lv_at hl 0 rfl) ?_
    refine va_get (D := (dC, dI)) (ci := 12) (v := .int 0) (C := RX12) (T := TX12) (N := 65) hx hb hts im_look_RX12 hown hK hP 0 rfl rfl 62 (by decide) (hts (.fieldLink RX12 597 "PutBackModel" "nones" "I") (by decide +kernel)) (fun _ h9 => h9) rfl dX12_look_62 ?_
    refine lv_goto (tgt := 69) hx hb dX12_look_65 (by decide) ?_
    have hP9 := hP.sub (ws' := []) [] rfl
    have hD9 := hD.sub (ws' := []) [] (by decide) rfl
    exact W.iret (v := 0) hx hb hr (fun t ht hW => ⟨⟨0, (), rfl, (by simp [sp_look, q_1, q_2, q_3, q_4, c_5]), by rw [ht]; exact hP9, va_K.moved hW.alike hK, hD9⟩, hS.F ht⟩) hS.2.2 dX12_look_69
end
