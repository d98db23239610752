/-! classes, the words that may go along, the worlds' common pieces -/
def RX0 : String := "ListenWells$Asker"
def TX0 : u_T := fun k => match k with
  | 0 => ("ListenWells$Asker", "stack", "[J", true)
  | 1 => ("ListenWells$Asker", "world", "LListenWells$World;", false)
  | 2 => ("ListenWells$Asker", "law", "LListenWells$Text;", false)
  | 3 => ("ListenWells$Asker", "cell", "I", false)
  | 4 => ("ListenWells$Asker", "shaft", "I", false)
  | 5 => ("ListenWells$Asker", "kind", "I", false)
  | 6 => ("ListenWells$Asker", "done", "I", false)
  | 7 => ("ListenWells$Asker", "latest", "I", false)
  | _ => ("ListenWells$Asker", "value", "I", false)
def tyX0 : Nat → FieldType := fun k => match k with
  | 0 => .array .long
  | 1 => .object "ListenWells$World"
  | 2 => .object "ListenWells$Text"
  | 3 => .int
  | 4 => .int
  | 5 => .int
  | 6 => .int
  | 7 => .int
  | _ => .int
theorem nmX0 : ∀ a, a < 9 → ∀ b, b < 9 → a ≠ b → (TX0 a).2.1 ≠ (TX0 b).2.1 := by decide +kernel
theorem tyX0_ok : ∀ k, k < 9 → parseFieldDescriptor (TX0 k).2.2.1 = some (tyX0 k) := by decide +kernel
def RX1 : String := "ListenWells$Crew"
def TX1 : u_T := fun k => match k with
  | 0 => ("ListenWells$Crew", "cell", "[I", true)
  | 1 => ("ListenWells$Crew", "buckets", "[I", true)
  | _ => ("ListenWells$Crew", "count", "I", false)
def tyX1 : Nat → FieldType := fun k => match k with
  | 0 => .array .int
  | 1 => .array .int
  | _ => .int
theorem nmX1 : ∀ a, a < 3 → ∀ b, b < 3 → a ≠ b → (TX1 a).2.1 ≠ (TX1 b).2.1 := by decide +kernel
theorem tyX1_ok : ∀ k, k < 3 → parseFieldDescriptor (TX1 k).2.2.1 = some (tyX1 k) := by decide +kernel
def RX2 : String := "ListenWells$Diary"
def TX2 : u_T := fun k => match k with
  | 0 => ("ListenWells$Diary", "deed", "[I", true)
  | 1 => ("ListenWells$Diary", "whose", "[I", true)
  | 2 => ("ListenWells$Diary", "before", "[I", true)
  | 3 => ("ListenWells$Diary", "bucketsBefore", "[I", true)
  | 4 => ("ListenWells$Diary", "dayBefore", "[I", true)
  | 5 => ("ListenWells$Diary", "kept", "I", false)
  | _ => ("ListenWells$Diary", "latest", "I", false)
def tyX2 : Nat → FieldType := fun k => match k with
  | 0 => .array .int
  | 1 => .array .int
  | 2 => .array .int
  | 3 => .array .int
  | 4 => .array .int
  | 5 => .int
  | _ => .int
theorem nmX2 : ∀ a, a < 7 → ∀ b, b < 7 → a ≠ b → (TX2 a).2.1 ≠ (TX2 b).2.1 := by decide +kernel
theorem tyX2_ok : ∀ k, k < 7 → parseFieldDescriptor (TX2 k).2.2.1 = some (tyX2 k) := by decide +kernel
def RX3 : String := "ListenWells$Ears"
def TX3 : u_T := fun k => match k with
  | 0 => ("ListenWells$Ears", "asker", "LListenWells$Asker;", true)
  | 1 => ("ListenWells$Ears", "said", "[I", true)
  | 2 => ("ListenWells$Ears", "lost", "[I", true)
  | _ => ("ListenWells$Ears", "alike", "[I", true)
def tyX3 : Nat → FieldType := fun k => match k with
  | 0 => .object "ListenWells$Asker"
  | 1 => .array .int
  | 2 => .array .int
  | _ => .array .int
theorem nmX3 : ∀ a, a < 4 → ∀ b, b < 4 → a ≠ b → (TX3 a).2.1 ≠ (TX3 b).2.1 := by decide +kernel
theorem tyX3_ok : ∀ k, k < 4 → parseFieldDescriptor (TX3 k).2.2.1 = some (tyX3 k) := by decide +kernel
def RX4 : String := "ListenWells$Folk"
def TX4 : u_T := fun k => match k with
  | 0 => ("ListenWells$Folk", "column", "[I", true)
  | 1 => ("ListenWells$Folk", "ear", "[I", true)
  | 2 => ("ListenWells$Folk", "listeners", "I", false)
  | 3 => ("ListenWells$Folk", "noiseColumn", "[I", true)
  | 4 => ("ListenWells$Folk", "noiseLoud", "[I", true)
  | 5 => ("ListenWells$Folk", "noises", "I", false)
  | 6 => ("ListenWells$Folk", "hushed", "I", false)
  | 7 => ("ListenWells$Folk", "hearsayColumn", "[I", true)
  | 8 => ("ListenWells$Folk", "hearsayLoud", "[I", true)
  | 9 => ("ListenWells$Folk", "hearsay", "I", false)
  | 10 => ("ListenWells$Folk", "sounds", "[I", true)
  | 11 => ("ListenWells$Folk", "wet", "[I", true)
  | _ => ("ListenWells$Folk", "wells", "I", false)
def tyX4 : Nat → FieldType := fun k => match k with
  | 0 => .array .int
  | 1 => .array .int
  | 2 => .int
  | 3 => .array .int
  | 4 => .array .int
  | 5 => .int
  | 6 => .int
  | 7 => .array .int
  | 8 => .array .int
  | 9 => .int
  | 10 => .array .int
  | 11 => .array .int
  | _ => .int
theorem nmX4 : ∀ a, a < 13 → ∀ b, b < 13 → a ≠ b → (TX4 a).2.1 ≠ (TX4 b).2.1 := by decide +kernel
theorem tyX4_ok : ∀ k, k < 13 → parseFieldDescriptor (TX4 k).2.2.1 = some (tyX4 k) := by decide +kernel
def RX5 : String := "ListenWells$Reader"
def TX5 : u_T := fun k => match k with
  | 0 => ("ListenWells$Reader", "bytes", "[I", true)
  | 1 => ("ListenWells$Reader", "length", "I", false)
  | 2 => ("ListenWells$Reader", "tokens", "[I", true)
  | 3 => ("ListenWells$Reader", "places", "[I", true)
  | 4 => ("ListenWells$Reader", "tokenCount", "I", false)
  | 5 => ("ListenWells$Reader", "now", "I", false)
  | 6 => ("ListenWells$Reader", "parts", "I", false)
  | 7 => ("ListenWells$Reader", "asOrders", "Z", false)
  | 8 => ("ListenWells$Reader", "faultPlace", "I", false)
  | _ => ("ListenWells$Reader", "draft", "LListenWells$Text;", true)
def tyX5 : Nat → FieldType := fun k => match k with
  | 0 => .array .int
  | 1 => .int
  | 2 => .array .int
  | 3 => .array .int
  | 4 => .int
  | 5 => .int
  | 6 => .int
  | 7 => .boolean
  | 8 => .int
  | _ => .object "ListenWells$Text"
theorem nmX5 : ∀ a, a < 10 → ∀ b, b < 10 → a ≠ b → (TX5 a).2.1 ≠ (TX5 b).2.1 := by decide +kernel
theorem tyX5_ok : ∀ k, k < 10 → parseFieldDescriptor (TX5 k).2.2.1 = some (tyX5 k) := by decide +kernel
def RX6 : String := "ListenWells$Rock"
def TX6 : u_T := fun k => match k with
  | 0 => ("ListenWells$Rock", "kind", "[I", true)
  | 1 => ("ListenWells$Rock", "hard", "[I", true)
  | 2 => ("ListenWells$Rock", "water", "[I", true)
  | _ => ("ListenWells$Rock", "dug", "J", false)
def tyX6 : Nat → FieldType := fun k => match k with
  | 0 => .array .int
  | 1 => .array .int
  | 2 => .array .int
  | _ => .long
theorem nmX6 : ∀ a, a < 4 → ∀ b, b < 4 → a ≠ b → (TX6 a).2.1 ≠ (TX6 b).2.1 := by decide +kernel
theorem tyX6_ok : ∀ k, k < 4 → parseFieldDescriptor (TX6 k).2.2.1 = some (tyX6 k) := by decide +kernel
def RX7 : String := "ListenWells$Site"
def TX7 : u_T := fun k => match k with
  | 0 => ("ListenWells$Site", "world", "LListenWells$World;", true)
  | 1 => ("ListenWells$Site", "diary", "LListenWells$Diary;", true)
  | 2 => ("ListenWells$Site", "asker", "LListenWells$Asker;", true)
  | 3 => ("ListenWells$Site", "done", "I", false)
  | _ => ("ListenWells$Site", "latest", "I", false)
def tyX7 : Nat → FieldType := fun k => match k with
  | 0 => .object "ListenWells$World"
  | 1 => .object "ListenWells$Diary"
  | 2 => .object "ListenWells$Asker"
  | 3 => .int
  | _ => .int
theorem nmX7 : ∀ a, a < 5 → ∀ b, b < 5 → a ≠ b → (TX7 a).2.1 ≠ (TX7 b).2.1 := by decide +kernel
theorem tyX7_ok : ∀ k, k < 5 → parseFieldDescriptor (TX7 k).2.2.1 = some (tyX7 k) := by decide +kernel
def RX8 : String := "ListenWells$Text"
def TX8 : u_T := fun k => match k with
  | 0 => ("ListenWells$Text", "heads", "[I", true)
  | 1 => ("ListenWells$Text", "code", "[I", true)
  | 2 => ("ListenWells$Text", "clauses", "I", false)
  | _ => ("ListenWells$Text", "length", "I", false)
def tyX8 : Nat → FieldType := fun k => match k with
  | 0 => .array .int
  | 1 => .array .int
  | 2 => .int
  | _ => .int
theorem nmX8 : ∀ a, a < 4 → ∀ b, b < 4 → a ≠ b → (TX8 a).2.1 ≠ (TX8 b).2.1 := by decide +kernel
theorem tyX8_ok : ∀ k, k < 4 → parseFieldDescriptor (TX8 k).2.2.1 = some (tyX8 k) := by decide +kernel
def RX9 : String := "ListenWells$Ways"
def TX9 : u_T := fun k => match k with
  | 0 => ("ListenWells$Ways", "cost", "[I", true)
  | 1 => ("ListenWells$Ways", "endsWay", "[Z", true)
  | 2 => ("ListenWells$Ways", "left", "[I", true)
  | 3 => ("ListenWells$Ways", "path", "[I", true)
  | 4 => ("ListenWells$Ways", "steps", "I", false)
  | 5 => ("ListenWells$Ways", "days", "I", false)
  | 6 => ("ListenWells$Ways", "told", "[I", true)
  | 7 => ("ListenWells$Ways", "price", "[I", true)
  | 8 => ("ListenWells$Ways", "fewest", "[I", true)
  | 9 => ("ListenWells$Ways", "cellOfShaft", "[I", true)
  | _ => ("ListenWells$Ways", "chance", "[J", true)
def tyX9 : Nat → FieldType := fun k => match k with
  | 0 => .array .int
  | 1 => .array .boolean
  | 2 => .array .int
  | 3 => .array .int
  | 4 => .int
  | 5 => .int
  | 6 => .array .int
  | 7 => .array .int
  | 8 => .array .int
  | 9 => .array .int
  | _ => .array .long
theorem nmX9 : ∀ a, a < 11 → ∀ b, b < 11 → a ≠ b → (TX9 a).2.1 ≠ (TX9 b).2.1 := by decide +kernel
theorem tyX9_ok : ∀ k, k < 11 → parseFieldDescriptor (TX9 k).2.2.1 = some (tyX9 k) := by decide +kernel
def RX10 : String := "ListenWells$World"
def TX10 : u_T := fun k => match k with
  | 0 => ("ListenWells$World", "rock", "LListenWells$Rock;", true)
  | 1 => ("ListenWells$World", "crew", "LListenWells$Crew;", true)
  | 2 => ("ListenWells$World", "folk", "LListenWells$Folk;", true)
  | 3 => ("ListenWells$World", "term", "[I", true)
  | 4 => ("ListenWells$World", "laws", "[LListenWells$Text;", true)
  | 5 => ("ListenWells$World", "lawCount", "I", false)
  | _ => ("ListenWells$World", "force", "I", false)
def tyX10 : Nat → FieldType := fun k => match k with
  | 0 => .object "ListenWells$Rock"
  | 1 => .object "ListenWells$Crew"
  | 2 => .object "ListenWells$Folk"
  | 3 => .array .int
  | 4 => .array (.object "ListenWells$Text")
  | 5 => .int
  | _ => .int
theorem nmX10 : ∀ a, a < 7 → ∀ b, b < 7 → a ≠ b → (TX10 a).2.1 ≠ (TX10 b).2.1 := by decide +kernel
theorem tyX10_ok : ∀ k, k < 7 → parseFieldDescriptor (TX10 k).2.2.1 = some (tyX10 k) := by decide +kernel
def RX11 : String := "ListenWells"
def TX11 : u_T := fun k => match k with
  | 0 => ("ListenWells", "asker", "LListenWells$Asker;", true)
  | 1 => ("ListenWells", "site", "LListenWells$Site;", true)
  | 2 => ("ListenWells", "paper", "LListenWells$Site;", true)
  | 3 => ("ListenWells", "images", "[LListenWells$World;", true)
  | 4 => ("ListenWells", "kept", "[Z", true)
  | 5 => ("ListenWells", "reader", "LListenWells$Reader;", true)
  | 6 => ("ListenWells", "ways", "LListenWells$Ways;", true)
  | 7 => ("ListenWells", "ears", "LListenWells$Ears;", true)
  | 8 => ("ListenWells", "drawnCrew", "LListenWells$Crew;", true)
  | 9 => ("ListenWells", "drawnDay", "I", false)
  | 10 => ("ListenWells", "latestMud", "I", false)
  | 11 => ("ListenWells", "stoppedAt", "I", false)
  | 12 => ("ListenWells", "refusals", "[I", true)
  | _ => ("ListenWells", "latestRefusal", "I", false)
def tyX11 : Nat → FieldType := fun k => match k with
  | 0 => .object "ListenWells$Asker"
  | 1 => .object "ListenWells$Site"
  | 2 => .object "ListenWells$Site"
  | 3 => .array (.object "ListenWells$World")
  | 4 => .array .boolean
  | 5 => .object "ListenWells$Reader"
  | 6 => .object "ListenWells$Ways"
  | 7 => .object "ListenWells$Ears"
  | 8 => .object "ListenWells$Crew"
  | 9 => .int
  | 10 => .int
  | 11 => .int
  | 12 => .array .int
  | _ => .int
theorem nmX11 : ∀ a, a < 14 → ∀ b, b < 14 → a ≠ b → (TX11 a).2.1 ≠ (TX11 b).2.1 := by decide +kernel
theorem tyX11_ok : ∀ k, k < 14 → parseFieldDescriptor (TX11 k).2.2.1 = some (tyX11 k) := by decide +kernel
def RX12 : String := "ListenWellsModel"
def TX12 : u_T := fun k => match k with
  | 0 => ("ListenWellsModel", "thrown", "I", false)
  | 1 => ("ListenWellsModel", "status", "I", false)
  | 2 => ("ListenWellsModel", "refusals", "[I", true)
  | 3 => ("ListenWellsModel", "row", "[I", true)
  | 4 => ("ListenWellsModel", "images", "[I", true)
  | 5 => ("ListenWellsModel", "isKept", "[Z", true)
  | 6 => ("ListenWellsModel", "undos", "[I", true)
  | 7 => ("ListenWellsModel", "sorts", "[I", true)
  | 8 => ("ListenWellsModel", "nUndo", "I", false)
  | 9 => ("ListenWellsModel", "undosBefore", "[I", true)
  | 10 => ("ListenWellsModel", "sortsBefore", "[I", true)
  | 11 => ("ListenWellsModel", "mud", "I", false)
  | 12 => ("ListenWellsModel", "tape", "[I", true)
  | 13 => ("ListenWellsModel", "taped", "I", false)
  | 14 => ("ListenWellsModel", "from", "I", false)
  | 15 => ("ListenWellsModel", "to", "I", false)
  | 16 => ("ListenWellsModel", "sort", "I", false)
  | 17 => ("ListenWellsModel", "worth", "J", false)
  | 18 => ("ListenWellsModel", "fault", "I", false)
  | 19 => ("ListenWellsModel", "bad", "Z", false)
  | 20 => ("ListenWellsModel", "ordered", "Z", false)
  | 21 => ("ListenWellsModel", "nClauses", "I", false)
  | 22 => ("ListenWellsModel", "nClause", "[I", true)
  | 23 => ("ListenWellsModel", "nCode", "I", false)
  | 24 => ("ListenWellsModel", "nOp", "[I", true)
  | 25 => ("ListenWellsModel", "nArg", "[I", true)
  | 26 => ("ListenWellsModel", "nLeaves", "I", false)
  | 27 => ("ListenWellsModel", "pile", "[I", true)
  | 28 => ("ListenWellsModel", "pileAt", "[I", true)
  | 29 => ("ListenWellsModel", "piled", "I", false)
  | 30 => ("ListenWellsModel", "opened", "I", false)
  | 31 => ("ListenWellsModel", "words", "[J", true)
  | 32 => ("ListenWellsModel", "orderWords", "[J", true)
  | 33 => ("ListenWellsModel", "heads", "[J", true)
  | 34 => ("ListenWellsModel", "law", "I", false)
  | 35 => ("ListenWellsModel", "set", "[J", true)
  | 36 => ("ListenWellsModel", "now", "[J", true)
  | 37 => ("ListenWellsModel", "rest", "[J", true)
  | 38 => ("ListenWellsModel", "broken", "Z", false)
  | 39 => ("ListenWellsModel", "value", "J", false)
  | 40 => ("ListenWellsModel", "sum", "J", false)
  | 41 => ("ListenWellsModel", "days", "[I", true)
  | 42 => ("ListenWellsModel", "goals", "[I", true)
  | 43 => ("ListenWellsModel", "goalDays", "[I", true)
  | 44 => ("ListenWellsModel", "goalOf", "[I", true)
  | 45 => ("ListenWellsModel", "bestGoals", "[I", true)
  | 46 => ("ListenWellsModel", "fewestDays", "I", false)
  | 47 => ("ListenWellsModel", "alike", "[I", true)
  | 48 => ("ListenWellsModel", "parts", "[J", true)
  | 49 => ("ListenWellsModel", "acts", "[J", true)
  | 50 => ("ListenWellsModel", "nOrder", "[I", true)
  | 51 => ("ListenWellsModel", "done", "I", false)
  | 52 => ("ListenWellsModel", "latest", "I", false)
  | 53 => ("ListenWellsModel", "stopped", "I", false)
  | 54 => ("ListenWellsModel", "off", "Z", false)
  | 55 => ("ListenWellsModel", "state", "J", false)
  | 56 => ("ListenWellsModel", "drawn", "[I", true)
  | 57 => ("ListenWellsModel", "drawnDay", "I", false)
  | _ => ("ListenWellsModel", "nDrawn", "I", false)
def tyX12 : Nat → FieldType := fun k => match k with
  | 0 => .int
  | 1 => .int
  | 2 => .array .int
  | 3 => .array .int
  | 4 => .array .int
  | 5 => .array .boolean
  | 6 => .array .int
  | 7 => .array .int
  | 8 => .int
  | 9 => .array .int
  | 10 => .array .int
  | 11 => .int
  | 12 => .array .int
  | 13 => .int
  | 14 => .int
  | 15 => .int
  | 16 => .int
  | 17 => .long
  | 18 => .int
  | 19 => .boolean
  | 20 => .boolean
  | 21 => .int
  | 22 => .array .int
  | 23 => .int
  | 24 => .array .int
  | 25 => .array .int
  | 26 => .int
  | 27 => .array .int
  | 28 => .array .int
  | 29 => .int
  | 30 => .int
  | 31 => .array .long
  | 32 => .array .long
  | 33 => .array .long
  | 34 => .int
  | 35 => .array .long
  | 36 => .array .long
  | 37 => .array .long
  | 38 => .boolean
  | 39 => .long
  | 40 => .long
  | 41 => .array .int
  | 42 => .array .int
  | 43 => .array .int
  | 44 => .array .int
  | 45 => .array .int
  | 46 => .int
  | 47 => .array .int
  | 48 => .array .long
  | 49 => .array .long
  | 50 => .array .int
  | 51 => .int
  | 52 => .int
  | 53 => .int
  | 54 => .boolean
  | 55 => .long
  | 56 => .array .int
  | 57 => .int
  | _ => .int
theorem nmX12 : ∀ a, a < 59 → ∀ b, b < 59 → a ≠ b → (TX12 a).2.1 ≠ (TX12 b).2.1 := by decide +kernel
theorem tyX12_ok : ∀ k, k < 59 → parseFieldDescriptor (TX12 k).2.2.1 = some (tyX12 k) := by decide +kernel
def RJx145de : String := "java/io/Serializable"
def RJx9f9b0 : String := "java/lang/CharSequence"
def RJxb160c : String := "java/lang/Comparable"
def RJ6 : String := "java/lang/Integer"
def RJ13 : String := "java/lang/Long"
def RJ9 : String := "java/lang/Math"
def RJ0 : String := "java/lang/String"
def RJ1 : String := "java/lang/StringLatin1"
def RJ2 : String := "java/lang/StringUTF16"
def RJ10 : String := "java/lang/System"
def RJxfd54e : String := "java/lang/constant/Constable"
def RJx3cf43 : String := "java/lang/constant/ConstantDesc"
def RJ7 : String := "java/util/Arrays"
def RJ3 : String := "jdk/internal/util/Preconditions"
def RL : String := "ListenWellsLaw"
abbrev vwCl : List vw_C := [(RX0, TX0, 9), (RX1, TX1, 3), (RX2, TX2, 7), (RX3, TX3, 4), (RX4, TX4, 13), (RX5, TX5, 10), (RX6, TX6, 4), (RX7, TX7, 5), (RX8, TX8, 4), (RX9, TX9, 11), (RX10, TX10, 7), (RX11, TX11, 14), (RX12, TX12, 59)]
def gW : List Cond := lw_tbl.filter goodWord
theorem gW_t (i : Nat) {w : Cond} (h : tables_1[i]? = some w) (hg : goodWord w = true) : w ∈ gW := List.mem_filter.mpr ⟨List.mem_append_right _ (List.mem_of_getElem? h), hg⟩
theorem gW_u {l : List Cond} (hl : ∀ w ∈ l, w ∈ tables_1) (i : Nat) {w : Cond} (h : l[i]? = some w) (hg : goodWord w = true) : w ∈ gW := List.mem_filter.mpr ⟨List.mem_append_right _ (hl w (List.mem_of_getElem? h)), hg⟩
theorem gW_p (i : Nat) {q : MethodName × Nat} (h : lw_privs[i]? = some q) : Cond.selects q.1.cls q.1 q.1 ∈ gW := List.mem_filter.mpr ⟨List.mem_append_left _ (List.mem_map.mpr ⟨q, List.mem_of_getElem? h, rfl⟩), rfl⟩
theorem gW_l {args : Array Value} {s : State} (h : ∀ w ∈ lw_tbl, w.before args s = true) : ∀ w ∈ gW, w.before args s = true := fun w hw => h w (List.mem_filter.mp hw).1
theorem gI {c : Cond} (h : c ∈ gW) : GoodIn gW (c :: gW) := fun w hw => (List.mem_cons.mp hw).elim (fun e => by rw [e]; exact ⟨h, good_of_word (List.mem_filter.mp h).2⟩) (fun hw => ⟨hw, good_of_word (List.mem_filter.mp hw).2⟩)
theorem gW_all {ps : List Nat} {ws : List Cond} (h : ps.map (fun i => tables_1[i]?) = ws.map some) (hg : ws.all goodWord = true) : ∀ w ∈ ws, w ∈ gW := by
  intro w hw
  have h1 : some w ∈ ps.map (fun i => tables_1[i]?) := by rw [h]; exact List.mem_map.mpr ⟨w, hw, rfl⟩
  obtain ⟨i, -, hi⟩ := List.mem_map.mp h1
  exact gW_t i hi (List.all_eq_true.mp hg w hw)
theorem inX0 : ∀ w ∈ u_ws RX0 TX0 9, w ∈ gW := gW_all (ps := [46, 48, 50, 52, 54, 56, 58, 60, 62]) (by decide +kernel) (by decide +kernel)
theorem inX1 : ∀ w ∈ u_ws RX1 TX1 3, w ∈ gW := gW_all (ps := [133, 135, 137]) (by decide +kernel) (by decide +kernel)
theorem inX2 : ∀ w ∈ u_ws RX2 TX2 7, w ∈ gW := gW_all (ps := [274, 276, 278, 280, 282, 284, 286]) (by decide +kernel) (by decide +kernel)
theorem inX3 : ∀ w ∈ u_ws RX3 TX3 4, w ∈ gW := gW_all (ps := [435, 437, 439, 441]) (by decide +kernel) (by decide +kernel)
theorem inX4 : ∀ w ∈ u_ws RX4 TX4 13, w ∈ gW := gW_all (ps := [183, 185, 187, 189, 191, 193, 195, 197, 199, 201, 203, 205, 207]) (by decide +kernel) (by decide +kernel)
theorem inX5 : ∀ w ∈ u_ws RX5 TX5 10, w ∈ gW := gW_all (ps := [360, 362, 364, 366, 368, 370, 372, 374, 376, 378]) (by decide +kernel) (by decide +kernel)
theorem inX6 : ∀ w ∈ u_ws RX6 TX6 4, w ∈ gW := gW_all (ps := [102, 104, 106, 108]) (by decide +kernel) (by decide +kernel)
theorem inX7 : ∀ w ∈ u_ws RX7 TX7 5, w ∈ gW := gW_all (ps := [297, 299, 301, 303, 305]) (by decide +kernel) (by decide +kernel)
theorem inX8 : ∀ w ∈ u_ws RX8 TX8 4, w ∈ gW := gW_all (ps := [337, 339, 341, 343]) (by decide +kernel) (by decide +kernel)
theorem inX9 : ∀ w ∈ u_ws RX9 TX9 11, w ∈ gW := gW_all (ps := [402, 404, 406, 408, 410, 412, 414, 416, 418, 420, 422]) (by decide +kernel) (by decide +kernel)
theorem inX10 : ∀ w ∈ u_ws RX10 TX10 7, w ∈ gW := gW_all (ps := [238, 240, 242, 244, 246, 248, 250]) (by decide +kernel) (by decide +kernel)
theorem inX11 : ∀ w ∈ u_ws RX11 TX11 14, w ∈ gW := gW_all (ps := [460, 462, 464, 466, 468, 470, 472, 474, 476, 478, 480, 482, 484, 486]) (by decide +kernel) (by decide +kernel)
theorem inX12 : ∀ w ∈ u_ws RX12 TX12 59, w ∈ gW := gW_all (ps := [1332, 1334, 1336, 1338, 1340, 1342, 1344, 1346, 1348, 1350, 1352, 1354, 1356, 1358, 1360, 1362, 1364, 1366, 1368, 1370, 1372, 1374, 1376, 1378, 1380, 1382, 1384, 1386, 1388, 1390, 1392, 1394, 1396, 1398, 1400, 1402, 1404, 1406, 1408, 1410, 1412, 1414, 1416, 1418, 1420, 1422, 1424, 1426, 1428, 1430, 1432, 1434, 1436, 1438, 1440, 1442, 1444, 1446, 1448]) (by decide +kernel) (by decide +kernel)
theorem ar_long : Cond.arrayClass .long ∈ gW := gW_u tb_1 65 (by rfl) (by decide +kernel)
theorem ar_int : Cond.arrayClass .int ∈ gW := gW_u tb_1 111 (by rfl) (by decide +kernel)
theorem ar_boolean : Cond.arrayClass .boolean ∈ gW := gW_u tb_2 106 (by rfl) (by decide +kernel)
def nW : List Cond := [.methodLinkNest RX11 9 ⟨RX0, "<init>", "()V"⟩ RX11, .methodLinkNest RX7 11 ⟨RX10, "<init>", "()V"⟩ RX11, .methodLinkNest RX10 20 ⟨RX1, "<init>", "()V"⟩ RX11, .methodLinkNest RX10 27 ⟨RX4, "<init>", "()V"⟩ RX11, .methodLinkNest RX7 20 ⟨RX2, "<init>", "()V"⟩ RX11, .methodLinkNest RX11 30 ⟨RX10, "<init>", "()V"⟩ RX11, .methodLinkNest RX11 41 ⟨RX5, "<init>", "()V"⟩ RX11, .methodLinkNest RX11 48 ⟨RX9, "<init>", "()V"⟩ RX11, .methodLinkNest RX11 62 ⟨RX1, "<init>", "()V"⟩ RX11, .methodLinkNest RX0 40 ⟨RX11, "nearest", "(III)I"⟩ RX11, .methodLinkNest RX7 46 ⟨RX11, "isWithin", "(II)Z"⟩ RX11, .methodLinkNest RX3 53 ⟨RX11, "stepsTo", "(II)I"⟩ RX11, .methodLinkNest RX3 126 ⟨RX11, "nearest", "(III)I"⟩ RX11]
theorem nW_in : ∀ w ∈ nW, w ∈ lw_tbl := fun w hw => List.mem_append_right _ ((show ∀ w ∈ nW, w ∈ tables_1 from by decide +kernel) w hw)
