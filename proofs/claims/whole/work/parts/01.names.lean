/-! ===== BEGIN words of one list among another's, by their places ===== -/
theorem goodIn_r {big : List Cond} (ws : List Cond) (ps : List Nat) (hp : ws = ps.filterMap (fun i => big[i]?)) (h : ws.all goodWord = true) : GoodIn big ws := by
  intro w hw
  have h1 := List.all_eq_true.mp h w hw
  rw [hp] at hw
  obtain ⟨i, -, hi⟩ := List.mem_filterMap.mp hw
  have hm : w ∈ big := by first | exact List.mem_of_getElem? hi | exact List.getElem?_mem hi
  exact ⟨hm, good_of_word h1⟩
theorem goodIn_app {big a b : List Cond} (ha : GoodIn big a) (hb : GoodIn big b) : GoodIn big (a ++ b) := fun w h => (List.mem_append.mp h).elim (ha w) (hb w)
/-! ===== END ===== -/
/-! ===== BEGIN printed: names, fields, word lists, decode rows ===== -/
def RX0 : String := "PutBack$Desk"
def TX0 : u_T := fun k => match k with
  | 0 => ("PutBack$Desk", "lens", "LPutBack$Lens;", false)
  | 1 => ("PutBack$Desk", "number", "I", false)
  | 2 => ("PutBack$Desk", "kept", "I", false)
  | 3 => ("PutBack$Desk", "refused", "I", false)
  | 4 => ("PutBack$Desk", "hasMoved", "Z", false)
  | 5 => ("PutBack$Desk", "stayed", "I", false)
  | 6 => ("PutBack$Desk", "went", "I", false)
  | 7 => ("PutBack$Desk", "came", "I", false)
  | 8 => ("PutBack$Desk", "source", "LPutBack$Text;", true)
  | 9 => ("PutBack$Desk", "view", "LPutBack$Text;", true)
  | 10 => ("PutBack$Desk", "spare", "LPutBack$Text;", true)
  | 11 => ("PutBack$Desk", "outcome", "LPutBack$Text;", true)
  | 12 => ("PutBack$Desk", "oldSources", "[LPutBack$Text;", true)
  | 13 => ("PutBack$Desk", "oldViews", "[LPutBack$Text;", true)
  | _ => ("PutBack$Desk", "newest", "I", false)
def tyX0 : Nat → FieldType := fun k => match k with
  | 0 => .object "PutBack$Lens"
  | 1 => .int
  | 2 => .int
  | 3 => .int
  | 4 => .boolean
  | 5 => .int
  | 6 => .int
  | 7 => .int
  | 8 => .object "PutBack$Text"
  | 9 => .object "PutBack$Text"
  | 10 => .object "PutBack$Text"
  | 11 => .object "PutBack$Text"
  | 12 => .array (.object "PutBack$Text")
  | 13 => .array (.object "PutBack$Text")
  | _ => .int
abbrev wsX00 : List Cond := u_ws RX0 TX0 15
theorem nmX0 : ∀ a, a < 15 → ∀ b, b < 15 → a ≠ b → (TX0 a).2.1 ≠ (TX0 b).2.1 := by decide +kernel
theorem tyX0_ok : ∀ k, k < 15 → parseFieldDescriptor (TX0 k).2.2.1 = some (tyX0 k) := by decide +kernel
def RX1 : String := "PutBack$Lens"
def TX1 : u_T := fun k => match k with
  | 0 => ("PutBack$Lens", "kind", "I", true)
  | 1 => ("PutBack$Lens", "source", "LPutBack$TextSet;", true)
  | 2 => ("PutBack$Lens", "view", "LPutBack$TextSet;", true)
  | 3 => ("PutBack$Lens", "kids", "[LPutBack$Lens;", true)
  | 4 => ("PutBack$Lens", "hasKey", "Z", true)
  | 5 => ("PutBack$Lens", "order", "[I", false)
  | 6 => ("PutBack$Lens", "halves", "[LPutBack$Lens;", false)
  | 7 => ("PutBack$Lens", "same", "[Z", false)
  | 8 => ("PutBack$Lens", "quoted", "[B", false)
  | 9 => ("PutBack$Lens", "lastLink", "LPutBack$Lens;", false)
  | 10 => ("PutBack$Lens", "simpler", "LPutBack$Lens;", false)
  | 11 => ("PutBack$Lens", "number", "I", false)
  | 12 => ("PutBack$Lens", "growth", "I", false)
  | 13 => ("PutBack$Lens", "oneToOne", "Z", false)
  | 14 => ("PutBack$Lens", "stepwise", "Z", false)
  | 15 => ("PutBack$Lens", "kept", "J", false)
  | 16 => ("PutBack$Lens", "shownBy", "I", false)
  | 17 => ("PutBack$Lens", "madeBy", "I", false)
  | 18 => ("PutBack$Lens", "time", "I", false)
  | _ => ("PutBack$Lens", "weight", "I", false)
def tyX1 : Nat → FieldType := fun k => match k with
  | 0 => .int
  | 1 => .object "PutBack$TextSet"
  | 2 => .object "PutBack$TextSet"
  | 3 => .array (.object "PutBack$Lens")
  | 4 => .boolean
  | 5 => .array .int
  | 6 => .array (.object "PutBack$Lens")
  | 7 => .array .boolean
  | 8 => .array .byte
  | 9 => .object "PutBack$Lens"
  | 10 => .object "PutBack$Lens"
  | 11 => .int
  | 12 => .int
  | 13 => .boolean
  | 14 => .boolean
  | 15 => .long
  | 16 => .int
  | 17 => .int
  | 18 => .int
  | _ => .int
abbrev wsX10 : List Cond := u_ws RX1 TX1 20
theorem nmX1 : ∀ a, a < 20 → ∀ b, b < 20 → a ≠ b → (TX1 a).2.1 ≠ (TX1 b).2.1 := by decide +kernel
theorem tyX1_ok : ∀ k, k < 20 → parseFieldDescriptor (TX1 k).2.2.1 = some (tyX1 k) := by decide +kernel
def RX2 : String := "PutBack$Machine"
def TX2 : u_T := fun k => match k with
  | 0 => ("PutBack$Machine", "store", "[B", false)
  | 1 => ("PutBack$Machine", "top", "I", false)
  | 2 => ("PutBack$Machine", "waiting", "[LPutBack$Lens;", false)
  | 3 => ("PutBack$Machine", "ranges", "[I", false)
  | 4 => ("PutBack$Machine", "waits", "I", false)
  | 5 => ("PutBack$Machine", "marks", "[I", false)
  | 6 => ("PutBack$Machine", "marked", "I", false)
  | 7 => ("PutBack$Machine", "steps", "J", false)
  | 8 => ("PutBack$Machine", "words", "LPutBack$Words;", true)
  | 9 => ("PutBack$Machine", "recall", "LPutBack$Recall;", true)
  | 10 => ("PutBack$Machine", "viewFrom", "[I", true)
  | 11 => ("PutBack$Machine", "viewTo", "[I", true)
  | 12 => ("PutBack$Machine", "sourceFrom", "[I", true)
  | 13 => ("PutBack$Machine", "sourceTo", "[I", true)
  | 14 => ("PutBack$Machine", "viewParts", "LPutBack$Parts;", true)
  | _ => ("PutBack$Machine", "sourceParts", "LPutBack$Parts;", true)
def tyX2 : Nat → FieldType := fun k => match k with
  | 0 => .array .byte
  | 1 => .int
  | 2 => .array (.object "PutBack$Lens")
  | 3 => .array .int
  | 4 => .int
  | 5 => .array .int
  | 6 => .int
  | 7 => .long
  | 8 => .object "PutBack$Words"
  | 9 => .object "PutBack$Recall"
  | 10 => .array .int
  | 11 => .array .int
  | 12 => .array .int
  | 13 => .array .int
  | 14 => .object "PutBack$Parts"
  | _ => .object "PutBack$Parts"
abbrev wsX20 : List Cond := u_ws RX2 TX2 16
theorem nmX2 : ∀ a, a < 16 → ∀ b, b < 16 → a ≠ b → (TX2 a).2.1 ≠ (TX2 b).2.1 := by decide +kernel
theorem tyX2_ok : ∀ k, k < 16 → parseFieldDescriptor (TX2 k).2.2.1 = some (tyX2 k) := by decide +kernel
def RX3 : String := "PutBack$Parts"
def TX3 : u_T := fun k => match k with
  | 0 => ("PutBack$Parts", "from", "[I", true)
  | 1 => ("PutBack$Parts", "to", "[I", true)
  | 2 => ("PutBack$Parts", "keyFrom", "[I", true)
  | 3 => ("PutBack$Parts", "keyTo", "[I", true)
  | 4 => ("PutBack$Parts", "partner", "[I", true)
  | _ => ("PutBack$Parts", "count", "I", false)
def tyX3 : Nat → FieldType := fun k => match k with
  | 0 => .array .int
  | 1 => .array .int
  | 2 => .array .int
  | 3 => .array .int
  | 4 => .array .int
  | _ => .int
abbrev wsX30 : List Cond := u_ws RX3 TX3 6
theorem nmX3 : ∀ a, a < 6 → ∀ b, b < 6 → a ≠ b → (TX3 a).2.1 ≠ (TX3 b).2.1 := by decide +kernel
theorem tyX3_ok : ∀ k, k < 6 → parseFieldDescriptor (TX3 k).2.2.1 = some (tyX3 k) := by decide +kernel
def RX4 : String := "PutBack$Reader"
def TX4 : u_T := fun k => match k with
  | 0 => ("PutBack$Reader", "lenses", "[LPutBack$Lens;", true)
  | 1 => ("PutBack$Reader", "told", "I", false)
  | 2 => ("PutBack$Reader", "length", "I", false)
  | 3 => ("PutBack$Reader", "fault", "I", false)
  | 4 => ("PutBack$Reader", "faultPlace", "I", false)
  | 5 => ("PutBack$Reader", "shownBy", "I", false)
  | 6 => ("PutBack$Reader", "tape", "[I", true)
  | 7 => ("PutBack$Reader", "names", "[J", true)
  | 8 => ("PutBack$Reader", "quoted", "[B", true)
  | 9 => ("PutBack$Reader", "links", "[LPutBack$Lens;", true)
  | 10 => ("PutBack$Reader", "walker", "LPutBack$Walker;", true)
  | 11 => ("PutBack$Reader", "quotedLength", "I", false)
  | 12 => ("PutBack$Reader", "place", "I", false)
  | _ => ("PutBack$Reader", "opened", "I", false)
def tyX4 : Nat → FieldType := fun k => match k with
  | 0 => .array (.object "PutBack$Lens")
  | 1 => .int
  | 2 => .int
  | 3 => .int
  | 4 => .int
  | 5 => .int
  | 6 => .array .int
  | 7 => .array .long
  | 8 => .array .byte
  | 9 => .array (.object "PutBack$Lens")
  | 10 => .object "PutBack$Walker"
  | 11 => .int
  | 12 => .int
  | _ => .int
abbrev wsX40 : List Cond := u_ws RX4 TX4 14
theorem nmX4 : ∀ a, a < 14 → ∀ b, b < 14 → a ≠ b → (TX4 a).2.1 ≠ (TX4 b).2.1 := by decide +kernel
theorem tyX4_ok : ∀ k, k < 14 → parseFieldDescriptor (TX4 k).2.2.1 = some (tyX4 k) := by decide +kernel
def RX5 : String := "PutBack$Recall"
def TX5 : u_T := fun k => match k with
  | 0 => ("PutBack$Recall", "told", "[B", true)
  | 1 => ("PutBack$Recall", "length", "I", false)
  | 2 => ("PutBack$Recall", "asked", "[J", true)
  | 3 => ("PutBack$Recall", "rows", "[J", false)
  | 4 => ("PutBack$Recall", "buckets", "I", false)
  | 5 => ("PutBack$Recall", "turn", "I", false)
  | _ => ("PutBack$Recall", "numbers", "I", false)
def tyX5 : Nat → FieldType := fun k => match k with
  | 0 => .array .byte
  | 1 => .int
  | 2 => .array .long
  | 3 => .array .long
  | 4 => .int
  | 5 => .int
  | _ => .int
abbrev wsX50 : List Cond := u_ws RX5 TX5 7
theorem nmX5 : ∀ a, a < 7 → ∀ b, b < 7 → a ≠ b → (TX5 a).2.1 ≠ (TX5 b).2.1 := by decide +kernel
theorem tyX5_ok : ∀ k, k < 7 → parseFieldDescriptor (TX5 k).2.2.1 = some (tyX5 k) := by decide +kernel
def RX6 : String := "PutBack$Text"
def TX6 : u_T := fun k => match k with
  | 0 => ("PutBack$Text", "ranks", "[B", true)
  | _ => ("PutBack$Text", "length", "I", false)
def tyX6 : Nat → FieldType := fun k => match k with
  | 0 => .array .byte
  | _ => .int
abbrev wsX60 : List Cond := u_ws RX6 TX6 2
theorem nmX6 : ∀ a, a < 2 → ∀ b, b < 2 → a ≠ b → (TX6 a).2.1 ≠ (TX6 b).2.1 := by decide +kernel
theorem tyX6_ok : ∀ k, k < 2 → parseFieldDescriptor (TX6 k).2.2.1 = some (tyX6 k) := by decide +kernel
def RX7 : String := "PutBack$TextSet"
def TX7 : u_T := fun k => match k with
  | 0 => ("PutBack$TextSet", "count", "I", true)
  | 1 => ("PutBack$TextSet", "allowed", "[J", true)
  | 2 => ("PutBack$TextSet", "behind", "[J", true)
  | 3 => ("PutBack$TextSet", "first", "J", false)
  | 4 => ("PutBack$TextSet", "last", "J", false)
  | 5 => ("PutBack$TextSet", "hasEmpty", "Z", false)
  | _ => ("PutBack$TextSet", "isEndless", "Z", false)
def tyX7 : Nat → FieldType := fun k => match k with
  | 0 => .int
  | 1 => .array .long
  | 2 => .array .long
  | 3 => .long
  | 4 => .long
  | 5 => .boolean
  | _ => .boolean
abbrev wsX70 : List Cond := u_ws RX7 TX7 7
theorem nmX7 : ∀ a, a < 7 → ∀ b, b < 7 → a ≠ b → (TX7 a).2.1 ≠ (TX7 b).2.1 := by decide +kernel
theorem tyX7_ok : ∀ k, k < 7 → parseFieldDescriptor (TX7 k).2.2.1 = some (tyX7 k) := by decide +kernel
def RX8 : String := "PutBack$Trial"
def TX8 : u_T := fun k => match k with
  | 0 => ("PutBack$Trial", "sources", "[LPutBack$Text;", true)
  | 1 => ("PutBack$Trial", "views", "[LPutBack$Text;", true)
  | 2 => ("PutBack$Trial", "backs", "[LPutBack$Text;", true)
  | 3 => ("PutBack$Trial", "made", "[Z", true)
  | 4 => ("PutBack$Trial", "outcome", "LPutBack$Text;", true)
  | 5 => ("PutBack$Trial", "sourceCount", "I", false)
  | _ => ("PutBack$Trial", "viewCount", "I", false)
def tyX8 : Nat → FieldType := fun k => match k with
  | 0 => .array (.object "PutBack$Text")
  | 1 => .array (.object "PutBack$Text")
  | 2 => .array (.object "PutBack$Text")
  | 3 => .array .boolean
  | 4 => .object "PutBack$Text"
  | 5 => .int
  | _ => .int
abbrev wsX80 : List Cond := u_ws RX8 TX8 7
theorem nmX8 : ∀ a, a < 7 → ∀ b, b < 7 → a ≠ b → (TX8 a).2.1 ≠ (TX8 b).2.1 := by decide +kernel
theorem tyX8_ok : ∀ k, k < 7 → parseFieldDescriptor (TX8 k).2.2.1 = some (tyX8 k) := by decide +kernel
def RX9 : String := "PutBack$Walker"
def TX9 : u_T := fun k => match k with
  | 0 => ("PutBack$Walker", "seen", "[J", true)
  | 1 => ("PutBack$Walker", "waiting", "[I", true)
  | 2 => ("PutBack$Walker", "waits", "I", false)
  | 3 => ("PutBack$Walker", "ways", "[J", true)
  | 4 => ("PutBack$Walker", "counted", "LPutBack$TextSet;", false)
  | _ => ("PutBack$Walker", "rows", "I", false)
def tyX9 : Nat → FieldType := fun k => match k with
  | 0 => .array .long
  | 1 => .array .int
  | 2 => .int
  | 3 => .array .long
  | 4 => .object "PutBack$TextSet"
  | _ => .int
abbrev wsX90 : List Cond := u_ws RX9 TX9 6
theorem nmX9 : ∀ a, a < 6 → ∀ b, b < 6 → a ≠ b → (TX9 a).2.1 ≠ (TX9 b).2.1 := by decide +kernel
theorem tyX9_ok : ∀ k, k < 6 → parseFieldDescriptor (TX9 k).2.2.1 = some (tyX9 k) := by decide +kernel
def RX10 : String := "PutBack$Words"
def TX10 : u_T := fun k => match k with
  | 0 => ("PutBack$Words", "told", "[B", true)
  | 1 => ("PutBack$Words", "lenses", "[LPutBack$Lens;", false)
  | 2 => ("PutBack$Words", "states", "[I", false)
  | 3 => ("PutBack$Words", "atoms", "I", false)
  | 4 => ("PutBack$Words", "first", "[I", false)
  | 5 => ("PutBack$Words", "times", "[J", false)
  | 6 => ("PutBack$Words", "rest", "[I", false)
  | 7 => ("PutBack$Words", "nodes", "I", false)
  | 8 => ("PutBack$Words", "places", "[I", false)
  | 9 => ("PutBack$Words", "asked", "[I", false)
  | 10 => ("PutBack$Words", "answers", "[I", false)
  | 11 => ("PutBack$Words", "answered", "I", false)
  | 12 => ("PutBack$Words", "stack", "[I", false)
  | 13 => ("PutBack$Words", "stackTimes", "[J", false)
  | 14 => ("PutBack$Words", "stacked", "I", false)
  | 15 => ("PutBack$Words", "symbol", "I", false)
  | 16 => ("PutBack$Words", "failed", "Z", false)
  | _ => ("PutBack$Words", "time", "I", false)
def tyX10 : Nat → FieldType := fun k => match k with
  | 0 => .array .byte
  | 1 => .array (.object "PutBack$Lens")
  | 2 => .array .int
  | 3 => .int
  | 4 => .array .int
  | 5 => .array .long
  | 6 => .array .int
  | 7 => .int
  | 8 => .array .int
  | 9 => .array .int
  | 10 => .array .int
  | 11 => .int
  | 12 => .array .int
  | 13 => .array .long
  | 14 => .int
  | 15 => .int
  | 16 => .boolean
  | _ => .int
abbrev wsX100 : List Cond := u_ws RX10 TX10 18
theorem nmX10 : ∀ a, a < 18 → ∀ b, b < 18 → a ≠ b → (TX10 a).2.1 ≠ (TX10 b).2.1 := by decide +kernel
theorem tyX10_ok : ∀ k, k < 18 → parseFieldDescriptor (TX10 k).2.2.1 = some (tyX10 k) := by decide +kernel
def RX11 : String := "PutBack"
def TX11 : u_T := fun k => match k with
  | 0 => ("PutBack", "slots", "[LPutBack$Text;", true)
  | 1 => ("PutBack", "walker", "LPutBack$Walker;", true)
  | 2 => ("PutBack", "reader", "LPutBack$Reader;", true)
  | 3 => ("PutBack", "machine", "LPutBack$Machine;", true)
  | 4 => ("PutBack", "trial", "LPutBack$Trial;", true)
  | _ => ("PutBack", "desk", "LPutBack$Desk;", true)
def tyX11 : Nat → FieldType := fun k => match k with
  | 0 => .array (.object "PutBack$Text")
  | 1 => .object "PutBack$Walker"
  | 2 => .object "PutBack$Reader"
  | 3 => .object "PutBack$Machine"
  | 4 => .object "PutBack$Trial"
  | _ => .object "PutBack$Desk"
abbrev wsX110 : List Cond := u_ws RX11 TX11 6
theorem nmX11 : ∀ a, a < 6 → ∀ b, b < 6 → a ≠ b → (TX11 a).2.1 ≠ (TX11 b).2.1 := by decide +kernel
theorem tyX11_ok : ∀ k, k < 6 → parseFieldDescriptor (TX11 k).2.2.1 = some (tyX11 k) := by decide +kernel
def RX12 : String := "PutBackModel"
def TX12 : u_T := fun k => match k with
  | 0 => ("PutBackModel", "told", "I", false)
  | 1 => ("PutBackModel", "setAt", "[I", true)
  | 2 => ("PutBackModel", "setMany", "[I", true)
  | 3 => ("PutBackModel", "setFirst", "[J", true)
  | 4 => ("PutBackModel", "setLast", "[J", true)
  | 5 => ("PutBackModel", "setEmpty", "[Z", true)
  | 6 => ("PutBackModel", "sets", "I", false)
  | 7 => ("PutBackModel", "symbols", "[J", true)
  | 8 => ("PutBackModel", "behind", "[J", true)
  | 9 => ("PutBackModel", "pool", "I", false)
  | 10 => ("PutBackModel", "isPair", "[Z", true)
  | 11 => ("PutBackModel", "pairs", "[I", true)
  | 12 => ("PutBackModel", "ways", "[J", true)
  | 13 => ("PutBackModel", "heap", "[I", true)
  | 14 => ("PutBackModel", "top", "I", false)
  | 15 => ("PutBackModel", "nodeKind", "[I", true)
  | 16 => ("PutBackModel", "nodeA", "[I", true)
  | 17 => ("PutBackModel", "nodeB", "[I", true)
  | 18 => ("PutBackModel", "nodeS", "[I", true)
  | 19 => ("PutBackModel", "nodeV", "[I", true)
  | 20 => ("PutBackModel", "nodeWord", "[I", true)
  | 21 => ("PutBackModel", "nodeLong", "[I", true)
  | 22 => ("PutBackModel", "nodeSame", "[Z", true)
  | 23 => ("PutBackModel", "nodes", "I", false)
  | 24 => ("PutBackModel", "words", "[I", true)
  | 25 => ("PutBackModel", "wordsLong", "I", false)
  | 26 => ("PutBackModel", "root", "[I", true)
  | 27 => ("PutBackModel", "name", "[J", true)
  | 28 => ("PutBackModel", "lenses", "I", false)
  | 29 => ("PutBackModel", "partFrom", "[I", true)
  | 30 => ("PutBackModel", "partLong", "[I", true)
  | 31 => ("PutBackModel", "partKey", "[I", true)
  | 32 => ("PutBackModel", "partKeyLong", "[I", true)
  | 33 => ("PutBackModel", "isTaken", "[Z", true)
  | 34 => ("PutBackModel", "partsTop", "I", false)
  | 35 => ("PutBackModel", "outsAt", "[I", true)
  | 36 => ("PutBackModel", "outsLong", "[I", true)
  | 37 => ("PutBackModel", "outsTop", "I", false)
  | 38 => ("PutBackModel", "tape", "[B", true)
  | 39 => ("PutBackModel", "taped", "I", false)
  | 40 => ("PutBackModel", "at", "I", false)
  | 41 => ("PutBackModel", "place", "I", false)
  | 42 => ("PutBackModel", "kind", "I", false)
  | 43 => ("PutBackModel", "sign", "I", false)
  | 44 => ("PutBackModel", "word", "J", false)
  | 45 => ("PutBackModel", "isFaulty", "Z", false)
  | 46 => ("PutBackModel", "fault", "I", false)
  | 47 => ("PutBackModel", "faultPlace", "I", false)
  | 48 => ("PutBackModel", "shownBy", "I", false)
  | 49 => ("PutBackModel", "open", "I", false)
  | 50 => ("PutBackModel", "slots", "[I", true)
  | 51 => ("PutBackModel", "slotLong", "[I", true)
  | 52 => ("PutBackModel", "partAt", "I", false)
  | 53 => ("PutBackModel", "partHow", "I", false)
  | 54 => ("PutBackModel", "leastAt", "[I", true)
  | 55 => ("PutBackModel", "leastLong", "[I", true)
  | 56 => ("PutBackModel", "openLens", "I", false)
  | 57 => ("PutBackModel", "sides", "[I", true)
  | 58 => ("PutBackModel", "sideLong", "[I", true)
  | 59 => ("PutBackModel", "were", "[I", true)
  | 60 => ("PutBackModel", "wereLong", "[I", true)
  | 61 => ("PutBackModel", "undos", "I", false)
  | 62 => ("PutBackModel", "nones", "I", false)
  | 63 => ("PutBackModel", "isMoved", "Z", false)
  | _ => ("PutBackModel", "movedBy", "[I", true)
def tyX12 : Nat → FieldType := fun k => match k with
  | 0 => .int
  | 1 => .array .int
  | 2 => .array .int
  | 3 => .array .long
  | 4 => .array .long
  | 5 => .array .boolean
  | 6 => .int
  | 7 => .array .long
  | 8 => .array .long
  | 9 => .int
  | 10 => .array .boolean
  | 11 => .array .int
  | 12 => .array .long
  | 13 => .array .int
  | 14 => .int
  | 15 => .array .int
  | 16 => .array .int
  | 17 => .array .int
  | 18 => .array .int
  | 19 => .array .int
  | 20 => .array .int
  | 21 => .array .int
  | 22 => .array .boolean
  | 23 => .int
  | 24 => .array .int
  | 25 => .int
  | 26 => .array .int
  | 27 => .array .long
  | 28 => .int
  | 29 => .array .int
  | 30 => .array .int
  | 31 => .array .int
  | 32 => .array .int
  | 33 => .array .boolean
  | 34 => .int
  | 35 => .array .int
  | 36 => .array .int
  | 37 => .int
  | 38 => .array .byte
  | 39 => .int
  | 40 => .int
  | 41 => .int
  | 42 => .int
  | 43 => .int
  | 44 => .long
  | 45 => .boolean
  | 46 => .int
  | 47 => .int
  | 48 => .int
  | 49 => .int
  | 50 => .array .int
  | 51 => .array .int
  | 52 => .int
  | 53 => .int
  | 54 => .array .int
  | 55 => .array .int
  | 56 => .int
  | 57 => .array .int
  | 58 => .array .int
  | 59 => .array .int
  | 60 => .array .int
  | 61 => .int
  | 62 => .int
  | 63 => .boolean
  | _ => .array .int
abbrev wsX120 : List Cond := u_ws RX12 TX12 65
theorem nmX12 : ∀ a, a < 65 → ∀ b, b < 65 → a ≠ b → (TX12 a).2.1 ≠ (TX12 b).2.1 := by decide +kernel
theorem tyX12_ok : ∀ k, k < 65 → parseFieldDescriptor (TX12 k).2.2.1 = some (tyX12 k) := by decide +kernel
abbrev cX12_aligned : ByteArray := prog_14_method_115_code
def yX12_aligned : MethodName := ⟨RX12, "aligned", "(IIII)I"⟩
abbrev cX12_asks : ByteArray := prog_14_method_62_code
def yX12_asks : MethodName := ⟨RX12, "asks", "(I)V"⟩
abbrev cX12_clearsHeap : ByteArray := prog_14_method_95_code
def yX12_clearsHeap : MethodName := ⟨RX12, "clearsHeap", "()V"⟩
abbrev cX12_compare : ByteArray := prog_14_method_108_code
def yX12_compare : MethodName := ⟨RX12, "compare", "(IIII)I"⟩
abbrev cX12_copy : ByteArray := prog_14_method_134_code
def yX12_copy : MethodName := ⟨RX12, "copy", "(II)I"⟩
abbrev cX12_create : ByteArray := prog_14_method_105_code
def yX12_create : MethodName := ⟨RX12, "create", "(III)I"⟩
abbrev cX12_cut : ByteArray := prog_14_method_137_code
def yX12_cut : MethodName := ⟨RX12, "cut", "(IIII)I"⟩
abbrev cX12_edit : ByteArray := prog_14_method_132_code
def yX12_edit : MethodName := ⟨RX12, "edit", "(IIII)I"⟩
abbrev cX12_end : ByteArray := prog_14_method_91_code
def yX12_end : MethodName := ⟨RX12, "end", "(I)Z"⟩
abbrev cX12_fault : ByteArray := prog_14_method_89_code
def yX12_fault : MethodName := ⟨RX12, "fault", "(I)I"⟩
abbrev cX12_faulty : ByteArray := prog_14_method_58_code
def yX12_faulty : MethodName := ⟨RX12, "faulty", "(I)V"⟩
abbrev cX12_faultyAt : ByteArray := prog_14_method_57_code
def yX12_faultyAt : MethodName := ⟨RX12, "faultyAt", "(III)V"⟩
abbrev cX12_feed : ByteArray := prog_14_method_90_code
def yX12_feed : MethodName := ⟨RX12, "feed", "(IIIII)I"⟩
abbrev cX12_fits : ByteArray := prog_14_method_102_code
def yX12_fits : MethodName := ⟨RX12, "fits", "(III)I"⟩
abbrev cX12_get : ByteArray := prog_14_method_103_code
def yX12_get : MethodName := ⟨RX12, "get", "(III)I"⟩
abbrev cX12_goesOn : ByteArray := prog_14_method_110_code
def yX12_goesOn : MethodName := ⟨RX12, "goesOn", "(IIII)I"⟩
abbrev cX12_init : ByteArray := prog_14_method_1_code
def yX12_init : MethodName := ⟨RX12, "<init>", "()V"⟩
abbrev cX12_isIn : ByteArray := prog_14_method_3_code
def yX12_isIn : MethodName := ⟨RX12, "isIn", "(JJJ)Z"⟩
abbrev cX12_isLens : ByteArray := prog_14_method_93_code
def yX12_isLens : MethodName := ⟨RX12, "isLens", "(I)Z"⟩
abbrev cX12_isName : ByteArray := prog_14_method_66_code
def yX12_isName : MethodName := ⟨RX12, "isName", "()Z"⟩
abbrev cX12_isRepeated : ByteArray := prog_14_method_113_code
def yX12_isRepeated : MethodName := ⟨RX12, "isRepeated", "(II)Z"⟩
abbrev cX12_isSide : ByteArray := prog_14_method_94_code
def yX12_isSide : MethodName := ⟨RX12, "isSide", "(I)Z"⟩
abbrev cX12_isSign : ByteArray := prog_14_method_60_code
def yX12_isSign : MethodName := ⟨RX12, "isSign", "(I)Z"⟩
abbrev cX12_isSlot : ByteArray := prog_14_method_92_code
def yX12_isSlot : MethodName := ⟨RX12, "isSlot", "(I)Z"⟩
abbrev cX12_join : ByteArray := prog_14_method_136_code
def yX12_join : MethodName := ⟨RX12, "join", "(III)I"⟩
abbrev cX12_key : ByteArray := prog_14_method_117_code
def yX12_key : MethodName := ⟨RX12, "key", "(IIII)I"⟩
abbrev cX12_laws : ByteArray := prog_14_method_125_code
def yX12_laws : MethodName := ⟨RX12, "laws", "(III)I"⟩
abbrev cX12_lays : ByteArray := prog_14_method_96_code
def yX12_lays : MethodName := ⟨RX12, "lays", "(I)I"⟩
abbrev cX12_lens : ByteArray := prog_14_method_88_code
def yX12_lens : MethodName := ⟨RX12, "lens", "()I"⟩
abbrev cX12_look : ByteArray := prog_14_method_138_code
def yX12_look : MethodName := ⟨RX12, "look", "(I)I"⟩
abbrev cX12_many : ByteArray := prog_14_method_106_code
def yX12_many : MethodName := ⟨RX12, "many", "(III)J"⟩
abbrev cX12_moved : ByteArray := prog_14_method_135_code
def yX12_moved : MethodName := ⟨RX12, "moved", "(I)I"⟩
abbrev cX12_nth : ByteArray := prog_14_method_107_code
def yX12_nth : MethodName := ⟨RX12, "nth", "(IIII)I"⟩
abbrev cX12_open : ByteArray := prog_14_method_128_code
def yX12_open : MethodName := ⟨RX12, "open", "(II)I"⟩
abbrev cX12_parts : ByteArray := prog_14_method_114_code
def yX12_parts : MethodName := ⟨RX12, "parts", "(II)I"⟩
abbrev cX12_passes : ByteArray := prog_14_method_61_code
def yX12_passes : MethodName := ⟨RX12, "passes", "(I)Z"⟩
abbrev cX12_put : ByteArray := prog_14_method_104_code
def yX12_put : MethodName := ⟨RX12, "put", "(IIII)I"⟩
abbrev cX12_putsAll : ByteArray := prog_14_method_30_code
def yX12_putsAll : MethodName := ⟨RX12, "putsAll", "(II)V"⟩
abbrev cX12_see : ByteArray := prog_14_method_56_code
def yX12_see : MethodName := ⟨RX12, "see", "(I)I"⟩
abbrev cX12_set : ByteArray := prog_14_method_109_code
def yX12_set : MethodName := ⟨RX12, "set", "(III)I"⟩
abbrev cX12_step : ByteArray := prog_14_method_59_code
def yX12_step : MethodName := ⟨RX12, "step", "()V"⟩
abbrev cX12_symbol : ByteArray := prog_14_method_99_code
def yX12_symbol : MethodName := ⟨RX12, "symbol", "(II)I"⟩
abbrev cX12_takes : ByteArray := prog_14_method_97_code
def yX12_takes : MethodName := ⟨RX12, "takes", "(II)I"⟩
abbrev cX12_text : ByteArray := prog_14_method_98_code
def yX12_text : MethodName := ⟨RX12, "text", "(I)I"⟩
abbrev cX12_undo : ByteArray := prog_14_method_133_code
def yX12_undo : MethodName := ⟨RX12, "undo", "()Z"⟩
abbrev cls : List vw_C := [(RX0, TX0, 15), (RX1, TX1, 20), (RX2, TX2, 16), (RX3, TX3, 6), (RX4, TX4, 14), (RX5, TX5, 7), (RX6, TX6, 2), (RX7, TX7, 7), (RX8, TX8, 7), (RX9, TX9, 6), (RX10, TX10, 18), (RX11, TX11, 6), (RX12, TX12, 65)]

theorem zIn1 {a b c : Int64} (h1 : ¬ lg_cmp a b < 0) (h2 : ¬ lg_cmp a c > 0) : b ≤ a ∧ a ≤ c := by
  constructor
  · exact (lg_cmp_ge a b).mp (Int32.not_lt.mp h1)
  · exact (lg_cmp_le a c).mp (Int32.not_lt.mp h2)
abbrev inS (x : Int32) : Prop := 0 ≤ x ∧ x ≤ 7
def sp_fault (x : Int32) : Int32 := if x = 0 then 0 else -1
def sp_look (x : Int32) : Int32 := if x = 0 ∨ x = 1 ∨ x = 3 ∨ x = 4 then 0 else -1
def sp_end (x : Int32) : Int32 := if x = 0 then 1 else 0
def sp_text (x : Int32) : Int32 := if inS x then 0 else -1
def sp_symbol (x y : Int32) : Int32 := if inS x ∧ y = -1 then 0 else -1
def sp_join (x y z : Int32) : Int32 := if inS x ∧ inS y ∧ inS z then 0 else -1
def sp_cut (x a b z : Int32) : Int32 := if inS x ∧ inS z ∧ a = 0 ∧ b = 0 then 0 else -1
theorem zCut {x a b z : Int32} (h : inS x → inS z → a = 0 → b = 0 → False) : (-1 : Int32) = sp_cut x a b z := by
  unfold sp_cut
  rw [if_neg]
  rintro ⟨h1, h2, h3, h4⟩
  exact h h1 h2 h3 h4
theorem zEq {x : Int32} (h1 : ¬ x < 0) (h2 : ¬ x > 0) : x = 0 := Int32.le_antisymm (Int32.not_lt.mp h2) (Int32.not_lt.mp h1)
theorem zL64 (x : Int32) (n : Int32) : x.toInt64 ≤ n.toInt64 ↔ x ≤ n := by simp [Int64.le_iff_toInt_le, Int32.le_iff_toInt_le]
theorem zS1 {x : Int32} (h : (0 : Int64) ≤ x.toInt64 ∧ x.toInt64 ≤ 7) : inS x := ⟨(zL64 0 x).mp h.1, (zL64 x 7).mp h.2⟩
theorem zS2 {x : Int32} (h : ¬ ((0 : Int64) ≤ x.toInt64 ∧ x.toInt64 ≤ 7)) : ¬ inS x := fun q => h ⟨(zL64 0 x).mpr q.1, (zL64 x 7).mpr q.2⟩
theorem zL {x : Int64} : ¬ ((0 : Int64) ≤ x ∧ x ≤ -1) := fun h => absurd (Int64.le_trans h.1 h.2) (by decide)
theorem zVp {x : Int32} (h : inS x) : vp_in x 8 := by
  rintro (q | q)
  · exact absurd h.1 (Int32.not_le.mpr q)
  · have h2 := Int32.le_iff_toInt_le.mp h.2
    have h1 := Int32.le_iff_toInt_le.mp h.1
    have e : x.toNatClampNeg = x.toInt.toNat := rfl
    rw [e] at q
    have : (7 : Int32).toInt = 7 := by decide
    have : (0 : Int32).toInt = 0 := by decide
    omega
theorem zE1 {x : Int32} (h : (0 : Int64) ≤ x.toInt64 ∧ x.toInt64 ≤ 0) : (1 : Int32) = sp_end x := by
  have : x = 0 := Int32.le_antisymm ((zL64 x 0).mp h.2) ((zL64 0 x).mp h.1)
  simp [sp_end, this]
theorem zE2 {x : Int32} (h : ¬ ((0 : Int64) ≤ x.toInt64 ∧ x.toInt64 ≤ 0)) : (0 : Int32) = sp_end x := by
  have : ¬ x = 0 := fun q => h (by subst q; decide)
  simp [sp_end, this]
theorem zS3 {x : Int32} (h1 : ¬ x < 0) (h2 : ¬ x ≥ 8) : inS x := by
  refine ⟨Int32.not_lt.mp h1, ?_⟩
  have h3 := Int32.lt_iff_toInt_lt.mp (Int32.not_le.mp h2)
  refine Int32.le_iff_toInt_le.mpr ?_
  have : (7 : Int32).toInt = 7 := by decide
  have : (8 : Int32).toInt = 8 := by decide
  omega
theorem zS4 {x : Int32} (h1 : x < 0) : ¬ inS x := fun h => Int32.not_lt.mpr h.1 h1
theorem zS5 {x : Int32} (h1 : x ≥ 8) : ¬ inS x := fun h => absurd (Int32.le_trans h1 h.2) (by decide)
theorem zE3 {x : Int32} (h1 : ¬ x < 0) (h2 : ¬ x > 0) : (1 : Int32) = sp_end x := by simp [sp_end, zEq h1 h2]
theorem zE4 {x : Int32} (h1 : x < 0) : (0 : Int32) = sp_end x := by
  have : ¬ x = 0 := fun q => by subst q; exact absurd h1 (by decide)
  simp [sp_end, this]
theorem zE5 {x : Int32} (h1 : x > 0) : (0 : Int32) = sp_end x := by
  have : ¬ x = 0 := fun q => by subst q; exact absurd h1 (by decide)
  simp [sp_end, this]
theorem zOut {x : Int32} (lo hi : Int) (hlh : lo ≤ hi) (h : ∀ k : Int, lo ≤ k → k ≤ hi → ¬ x = Int32.ofInt k) : x.toInt < lo ∨ hi < x.toInt := by
  by_cases h1 : x.toInt < lo
  · exact Or.inl h1
  · by_cases h2 : hi < x.toInt
    · exact Or.inr h2
    · exact absurd (Int32.ofInt_toInt x).symm (h x.toInt (by omega) (by omega))
theorem zIn2 {a b c : Int64} (h1 : lg_cmp a b < 0) : ¬ (b ≤ a ∧ a ≤ c) := fun h => Int32.not_lt.mpr ((lg_cmp_ge a b).mpr h.1) h1
theorem zIn3 {a b c : Int64} (h1 : lg_cmp a c > 0) : ¬ (b ≤ a ∧ a ≤ c) := fun h => Int32.not_lt.mpr ((lg_cmp_le a c).mpr h.2) h1
