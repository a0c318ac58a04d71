def RX0 : String := "DimStars$Finder"
def TX0 : u_T := fun k => match k with
  | 0 => ("DimStars$Finder", "counts", "[I", true)
  | _ => ("DimStars$Finder", "totals", "[J", true)
def tyX0 : Nat → FieldType := fun k => match k with
  | 0 => .array .int
  | _ => .array .long
theorem nmX0 : ∀ a, a < 2 → ∀ b, b < 2 → a ≠ b → (TX0 a).2.1 ≠ (TX0 b).2.1 := by decide +kernel
theorem tyX0_ok : ∀ k, k < 2 → parseFieldDescriptor (TX0 k).2.2.1 = some (tyX0 k) := by decide +kernel
def RX1 : String := "DimStars$Finding"
def TX1 : u_T := fun k => match k with
  | 0 => ("DimStars$Finding", "age", "I", false)
  | 1 => ("DimStars$Finding", "beat", "I", false)
  | 2 => ("DimStars$Finding", "longs", "I", false)
  | 3 => ("DimStars$Finding", "first", "I", false)
  | 4 => ("DimStars$Finding", "dips", "I", false)
  | 5 => ("DimStars$Finding", "deep", "J", false)
  | _ => ("DimStars$Finding", "score", "J", false)
def tyX1 : Nat → FieldType := fun k => match k with
  | 0 => .int
  | 1 => .int
  | 2 => .int
  | 3 => .int
  | 4 => .int
  | 5 => .long
  | _ => .long
theorem nmX1 : ∀ a, a < 7 → ∀ b, b < 7 → a ≠ b → (TX1 a).2.1 ≠ (TX1 b).2.1 := by decide +kernel
theorem tyX1_ok : ∀ k, k < 7 → parseFieldDescriptor (TX1 k).2.2.1 = some (tyX1 k) := by decide +kernel
def RX2 : String := "DimStars$Look"
def TX2 : u_T := fun k => match k with
  | 0 => ("DimStars$Look", "at", "[I", true)
  | 1 => ("DimStars$Look", "hours", "[I", true)
  | 2 => ("DimStars$Look", "marks", "[I", true)
  | 3 => ("DimStars$Look", "many", "I", false)
  | 4 => ("DimStars$Look", "total", "J", false)
  | 5 => ("DimStars$Look", "spread", "J", false)
  | 6 => ("DimStars$Look", "in", "I", false)
  | _ => ("DimStars$Look", "inTotal", "J", false)
def tyX2 : Nat → FieldType := fun k => match k with
  | 0 => .array .int
  | 1 => .array .int
  | 2 => .array .int
  | 3 => .int
  | 4 => .long
  | 5 => .long
  | 6 => .int
  | _ => .long
theorem nmX2 : ∀ a, a < 8 → ∀ b, b < 8 → a ≠ b → (TX2 a).2.1 ≠ (TX2 b).2.1 := by decide +kernel
theorem tyX2_ok : ∀ k, k < 8 → parseFieldDescriptor (TX2 k).2.2.1 = some (tyX2 k) := by decide +kernel
def RX3 : String := "DimStars$Parser"
def TX3 : u_T := fun k => match k with
  | 0 => ("DimStars$Parser", "tape", "[B", false)
  | 1 => ("DimStars$Parser", "length", "I", false)
  | 2 => ("DimStars$Parser", "place", "I", false)
  | 3 => ("DimStars$Parser", "kind", "I", false)
  | 4 => ("DimStars$Parser", "start", "I", false)
  | 5 => ("DimStars$Parser", "number", "I", false)
  | 6 => ("DimStars$Parser", "fault", "I", false)
  | 7 => ("DimStars$Parser", "values", "I", false)
  | 8 => ("DimStars$Parser", "given", "I", false)
  | 9 => ("DimStars$Parser", "known", "Ljava/lang/String;", false)
  | 10 => ("DimStars$Parser", "text", "LDimStars$Text;", false)
  | _ => ("DimStars$Parser", "isHanded", "Z", false)
def tyX3 : Nat → FieldType := fun k => match k with
  | 0 => .array .byte
  | 1 => .int
  | 2 => .int
  | 3 => .int
  | 4 => .int
  | 5 => .int
  | 6 => .int
  | 7 => .int
  | 8 => .int
  | 9 => .object "java/lang/String"
  | 10 => .object "DimStars$Text"
  | _ => .boolean
theorem nmX3 : ∀ a, a < 12 → ∀ b, b < 12 → a ≠ b → (TX3 a).2.1 ≠ (TX3 b).2.1 := by decide +kernel
theorem tyX3_ok : ∀ k, k < 12 → parseFieldDescriptor (TX3 k).2.2.1 = some (tyX3 k) := by decide +kernel
def RX4 : String := "DimStars$Reckoner"
def TX4 : u_T := fun k => match k with
  | _ => ("DimStars$Reckoner", "stack", "[J", true)
def tyX4 : Nat → FieldType := fun k => match k with
  | _ => .array .long
theorem nmX4 : ∀ a, a < 1 → ∀ b, b < 1 → a ≠ b → (TX4 a).2.1 ≠ (TX4 b).2.1 := by decide +kernel
theorem tyX4_ok : ∀ k, k < 1 → parseFieldDescriptor (TX4 k).2.2.1 = some (tyX4 k) := by decide +kernel
def RX5 : String := "DimStars$Signs"
def TX5 : u_T := fun k => match k with
  | 0 => ("DimStars$Signs", "counts", "[I", true)
  | 1 => ("DimStars$Signs", "totals", "[J", true)
  | 2 => ("DimStars$Signs", "deeps", "[I", true)
  | _ => ("DimStars$Signs", "shifts", "[I", true)
def tyX5 : Nat → FieldType := fun k => match k with
  | 0 => .array .int
  | 1 => .array .long
  | 2 => .array .int
  | _ => .array .int
theorem nmX5 : ∀ a, a < 4 → ∀ b, b < 4 → a ≠ b → (TX5 a).2.1 ≠ (TX5 b).2.1 := by decide +kernel
theorem tyX5_ok : ∀ k, k < 4 → parseFieldDescriptor (TX5 k).2.2.1 = some (tyX5 k) := by decide +kernel
def RX6 : String := "DimStars$Sky"
def TX6 : u_T := fun k => match k with
  | 0 => ("DimStars$Sky", "starCount", "I", false)
  | 1 => ("DimStars$Sky", "stars", "[LDimStars$Star;", true)
  | 2 => ("DimStars$Sky", "worldCount", "I", false)
  | 3 => ("DimStars$Sky", "worlds", "[LDimStars$World;", true)
  | 4 => ("DimStars$Sky", "candidateCount", "I", false)
  | 5 => ("DimStars$Sky", "nights", "[I", true)
  | 6 => ("DimStars$Sky", "worths", "[I", true)
  | 7 => ("DimStars$Sky", "wide", "I", false)
  | 8 => ("DimStars$Sky", "maskStars", "[I", true)
  | 9 => ("DimStars$Sky", "maskBelow", "[I", true)
  | 10 => ("DimStars$Sky", "order", "I", false)
  | 11 => ("DimStars$Sky", "tape", "[B", true)
  | _ => ("DimStars$Sky", "tapeLength", "I", false)
def tyX6 : Nat → FieldType := fun k => match k with
  | 0 => .int
  | 1 => .array (.object "DimStars$Star")
  | 2 => .int
  | 3 => .array (.object "DimStars$World")
  | 4 => .int
  | 5 => .array .int
  | 6 => .array .int
  | 7 => .int
  | 8 => .array .int
  | 9 => .array .int
  | 10 => .int
  | 11 => .array .byte
  | _ => .int
theorem nmX6 : ∀ a, a < 13 → ∀ b, b < 13 → a ≠ b → (TX6 a).2.1 ≠ (TX6 b).2.1 := by decide +kernel
theorem tyX6_ok : ∀ k, k < 13 → parseFieldDescriptor (TX6 k).2.2.1 = some (tyX6 k) := by decide +kernel
def RX7 : String := "DimStars$Star"
def TX7 : u_T := fun k => match k with
  | 0 => ("DimStars$Star", "size", "I", false)
  | 1 => ("DimStars$Star", "cell", "I", false)
  | 2 => ("DimStars$Star", "luck", "I", false)
  | _ => ("DimStars$Star", "row", "[I", true)
def tyX7 : Nat → FieldType := fun k => match k with
  | 0 => .int
  | 1 => .int
  | 2 => .int
  | _ => .array .int
theorem nmX7 : ∀ a, a < 4 → ∀ b, b < 4 → a ≠ b → (TX7 a).2.1 ≠ (TX7 b).2.1 := by decide +kernel
theorem tyX7_ok : ∀ k, k < 4 → parseFieldDescriptor (TX7 k).2.2.1 = some (tyX7 k) := by decide +kernel
def RX8 : String := "DimStars$Text"
def TX8 : u_T := fun k => match k with
  | 0 => ("DimStars$Text", "noise", "I", false)
  | 1 => ("DimStars$Text", "beatFrom", "I", false)
  | 2 => ("DimStars$Text", "beatTo", "I", false)
  | 3 => ("DimStars$Text", "longFrom", "I", false)
  | 4 => ("DimStars$Text", "longTo", "I", false)
  | 5 => ("DimStars$Text", "least", "I", false)
  | 6 => ("DimStars$Text", "line", "I", false)
  | 7 => ("DimStars$Text", "clauses", "I", false)
  | 8 => ("DimStars$Text", "kinds", "[I", true)
  | 9 => ("DimStars$Text", "sumAt", "[I", true)
  | 10 => ("DimStars$Text", "testAt", "[I", true)
  | 11 => ("DimStars$Text", "endAt", "[I", true)
  | 12 => ("DimStars$Text", "code", "[I", true)
  | _ => ("DimStars$Text", "codeLength", "I", false)
def tyX8 : Nat → FieldType := fun k => match k with
  | 0 => .int
  | 1 => .int
  | 2 => .int
  | 3 => .int
  | 4 => .int
  | 5 => .int
  | 6 => .int
  | 7 => .int
  | 8 => .array .int
  | 9 => .array .int
  | 10 => .array .int
  | 11 => .array .int
  | 12 => .array .int
  | _ => .int
theorem nmX8 : ∀ a, a < 14 → ∀ b, b < 14 → a ≠ b → (TX8 a).2.1 ≠ (TX8 b).2.1 := by decide +kernel
theorem tyX8_ok : ∀ k, k < 14 → parseFieldDescriptor (TX8 k).2.2.1 = some (tyX8 k) := by decide +kernel
def RX9 : String := "DimStars$World"
def TX9 : u_T := fun k => match k with
  | 0 => ("DimStars$World", "star", "I", true)
  | 1 => ("DimStars$World", "beat", "I", true)
  | 2 => ("DimStars$World", "first", "I", true)
  | 3 => ("DimStars$World", "longs", "I", true)
  | 4 => ("DimStars$World", "deep", "I", true)
  | _ => ("DimStars$World", "isPut", "Z", true)
def tyX9 : Nat → FieldType := fun k => match k with
  | 0 => .int
  | 1 => .int
  | 2 => .int
  | 3 => .int
  | 4 => .int
  | _ => .boolean
theorem nmX9 : ∀ a, a < 6 → ∀ b, b < 6 → a ≠ b → (TX9 a).2.1 ≠ (TX9 b).2.1 := by decide +kernel
theorem tyX9_ok : ∀ k, k < 6 → parseFieldDescriptor (TX9 k).2.2.1 = some (tyX9 k) := by decide +kernel
def RX10 : String := "DimStars"
def TX10 : u_T := fun k => match k with
  | 0 => ("DimStars", "sky", "LDimStars$Sky;", true)
  | 1 => ("DimStars", "images", "[LDimStars$Sky;", true)
  | 2 => ("DimStars", "laws", "[LDimStars$Text;", true)
  | 3 => ("DimStars", "searches", "[LDimStars$Text;", true)
  | 4 => ("DimStars", "sorters", "[LDimStars$Text;", true)
  | 5 => ("DimStars", "lawCount", "I", false)
  | 6 => ("DimStars", "searchCount", "I", false)
  | 7 => ("DimStars", "sorterCount", "I", false)
  | 8 => ("DimStars", "parser", "LDimStars$Parser;", true)
  | 9 => ("DimStars", "reckoner", "LDimStars$Reckoner;", true)
  | 10 => ("DimStars", "look", "LDimStars$Look;", true)
  | 11 => ("DimStars", "finder", "LDimStars$Finder;", true)
  | 12 => ("DimStars", "signs", "LDimStars$Signs;", true)
  | 13 => ("DimStars", "nothing", "LDimStars$Finding;", true)
  | 14 => ("DimStars", "secondFound", "LDimStars$Finding;", true)
  | 15 => ("DimStars", "ofStars", "[LDimStars$Finding;", true)
  | 16 => ("DimStars", "ofWorlds", "[LDimStars$Finding;", true)
  | 17 => ("DimStars", "age", "I", false)
  | 18 => ("DimStars", "words", "[J", true)
  | _ => ("DimStars", "weights", "[I", true)
def tyX10 : Nat → FieldType := fun k => match k with
  | 0 => .object "DimStars$Sky"
  | 1 => .array (.object "DimStars$Sky")
  | 2 => .array (.object "DimStars$Text")
  | 3 => .array (.object "DimStars$Text")
  | 4 => .array (.object "DimStars$Text")
  | 5 => .int
  | 6 => .int
  | 7 => .int
  | 8 => .object "DimStars$Parser"
  | 9 => .object "DimStars$Reckoner"
  | 10 => .object "DimStars$Look"
  | 11 => .object "DimStars$Finder"
  | 12 => .object "DimStars$Signs"
  | 13 => .object "DimStars$Finding"
  | 14 => .object "DimStars$Finding"
  | 15 => .array (.object "DimStars$Finding")
  | 16 => .array (.object "DimStars$Finding")
  | 17 => .int
  | 18 => .array .long
  | _ => .array .int
theorem nmX10 : ∀ a, a < 20 → ∀ b, b < 20 → a ≠ b → (TX10 a).2.1 ≠ (TX10 b).2.1 := by decide +kernel
theorem tyX10_ok : ∀ k, k < 20 → parseFieldDescriptor (TX10 k).2.2.1 = some (tyX10 k) := by decide +kernel
def RX11 : String := "DimStarsModel"
def TX11 : u_T := fun k => match k with
  | 0 => ("DimStarsModel", "told", "[I", true)
  | 1 => ("DimStarsModel", "meanNow", "[I", true)
  | 2 => ("DimStarsModel", "tape", "[B", true)
  | 3 => ("DimStarsModel", "taped", "I", false)
  | 4 => ("DimStarsModel", "texts", "[I", true)
  | 5 => ("DimStarsModel", "sign", "[I", true)
  | 6 => ("DimStarsModel", "length", "[I", true)
  | 7 => ("DimStarsModel", "clause", "[I", true)
  | 8 => ("DimStarsModel", "clauses", "[I", true)
  | 9 => ("DimStarsModel", "noise", "[I", true)
  | 10 => ("DimStarsModel", "beatFrom", "[I", true)
  | 11 => ("DimStarsModel", "beatTo", "[I", true)
  | 12 => ("DimStarsModel", "longFrom", "[I", true)
  | 13 => ("DimStarsModel", "longTo", "[I", true)
  | 14 => ("DimStarsModel", "least", "[I", true)
  | 15 => ("DimStarsModel", "bar", "[I", true)
  | 16 => ("DimStarsModel", "next", "I", false)
  | 17 => ("DimStarsModel", "wrong", "I", false)
  | 18 => ("DimStarsModel", "said", "I", false)
  | 19 => ("DimStarsModel", "text", "I", false)
  | 20 => ("DimStarsModel", "made", "I", false)
  | 21 => ("DimStarsModel", "deep", "I", false)
  | 22 => ("DimStarsModel", "lines", "I", false)
  | 23 => ("DimStarsModel", "open", "[I", true)
  | 24 => ("DimStarsModel", "opened", "I", false)
  | 25 => ("DimStarsModel", "stack", "[J", true)
  | 26 => ("DimStarsModel", "top", "I", false)
  | 27 => ("DimStarsModel", "word", "[J", true)
  | 28 => ("DimStarsModel", "look", "[I", true)
  | 29 => ("DimStarsModel", "all", "I", false)
  | 30 => ("DimStarsModel", "sumAll", "J", false)
  | 31 => ("DimStarsModel", "spreadNow", "J", false)
  | 32 => ("DimStarsModel", "manyIn", "I", false)
  | 33 => ("DimStarsModel", "sumIn", "J", false)
  | 34 => ("DimStarsModel", "beatNow", "I", false)
  | 35 => ("DimStarsModel", "longNow", "I", false)
  | 36 => ("DimStarsModel", "firstNow", "I", false)
  | 37 => ("DimStarsModel", "deepNow", "J", false)
  | 38 => ("DimStarsModel", "scoreNow", "J", false)
  | 39 => ("DimStarsModel", "dipsNow", "I", false)
  | 40 => ("DimStarsModel", "restSum", "[J", true)
  | 41 => ("DimStarsModel", "restMany", "[I", true)
  | 42 => ("DimStarsModel", "withinSum", "[J", true)
  | 43 => ("DimStarsModel", "withinMany", "[I", true)
  | 44 => ("DimStarsModel", "putScore", "[J", true)
  | 45 => ("DimStarsModel", "starScore", "[J", true)
  | 46 => ("DimStarsModel", "weights", "[I", true)
  | 47 => ("DimStarsModel", "images", "[I", true)
  | _ => ("DimStarsModel", "isMade", "[Z", true)
def tyX11 : Nat → FieldType := fun k => match k with
  | 0 => .array .int
  | 1 => .array .int
  | 2 => .array .byte
  | 3 => .int
  | 4 => .array .int
  | 5 => .array .int
  | 6 => .array .int
  | 7 => .array .int
  | 8 => .array .int
  | 9 => .array .int
  | 10 => .array .int
  | 11 => .array .int
  | 12 => .array .int
  | 13 => .array .int
  | 14 => .array .int
  | 15 => .array .int
  | 16 => .int
  | 17 => .int
  | 18 => .int
  | 19 => .int
  | 20 => .int
  | 21 => .int
  | 22 => .int
  | 23 => .array .int
  | 24 => .int
  | 25 => .array .long
  | 26 => .int
  | 27 => .array .long
  | 28 => .array .int
  | 29 => .int
  | 30 => .long
  | 31 => .long
  | 32 => .int
  | 33 => .long
  | 34 => .int
  | 35 => .int
  | 36 => .int
  | 37 => .long
  | 38 => .long
  | 39 => .int
  | 40 => .array .long
  | 41 => .array .int
  | 42 => .array .long
  | 43 => .array .int
  | 44 => .array .long
  | 45 => .array .long
  | 46 => .array .int
  | 47 => .array .int
  | _ => .array .boolean
theorem nmX11 : ∀ a, a < 49 → ∀ b, b < 49 → a ≠ b → (TX11 a).2.1 ≠ (TX11 b).2.1 := by decide +kernel
theorem tyX11_ok : ∀ k, k < 49 → parseFieldDescriptor (TX11 k).2.2.1 = some (tyX11 k) := by decide +kernel
def RJ0 : String := "java/lang/String"
def RJ1 : String := "java/lang/StringLatin1"
def RJ10 : String := "java/lang/System"
def RJ2 : String := "java/lang/StringUTF16"
def RJ3 : String := "jdk/internal/util/Preconditions"
def RJ6 : String := "java/lang/Integer"
def RJ7 : String := "java/util/Arrays"
def RJ9 : String := "java/lang/Math"
def RJx145de : String := "java/io/Serializable"
def RJx3cf43 : String := "java/lang/constant/ConstantDesc"
def RJx9f9b0 : String := "java/lang/CharSequence"
def RJxb160c : String := "java/lang/Comparable"
def RJxfd54e : String := "java/lang/constant/Constable"
def RL : String := "DimStarsLaw"
abbrev vwCl : List vw_C := [(RX0, TX0, 2), (RX1, TX1, 7), (RX2, TX2, 8), (RX3, TX3, 12), (RX4, TX4, 1), (RX5, TX5, 4), (RX6, TX6, 13), (RX7, TX7, 4), (RX8, TX8, 14), (RX9, TX9, 6), (RX10, TX10, 20), (RX11, TX11, 49)]
def ZL : List (String × Nat × String) := [("DimStars$Parser", 15, ""), ("DimStars$Parser", 50, "hour season star cell size"), ("DimStars$Parser", 52, "beat long deep score dips odd shape same late size"), ("DimStars$Parser", 93, "bright noise"), ("DimStars$Parser", 95, "beat long least line"), ("DimStars$Parser", 97, "world pair spot glass chance"), ("DimStars$Parser", 121, "if"), ("DimStars$Parser", 151, "and or"), ("DimStars$Parser", 158, "not")]
