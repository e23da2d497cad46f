/-! names and fields of the classes, as printed for this claim; the tables of the abstract machine, by program (wip/whole/gen.py) -/
def RX0 : String := "NineNames$CenturiesText"
def TX0 : u_T := fun k => match k with
  | 0 => ("NineNames$CenturiesText", "reader", "LNineNames$Reader;", true)
  | 1 => ("NineNames$CenturiesText", "town", "LNineNames$Town;", true)
  | 2 => ("NineNames$CenturiesText", "script", "LNineNames$Script;", true)
  | 3 => ("NineNames$CenturiesText", "open", "[I", true)
  | _ => ("NineNames$CenturiesText", "depth", "I", false)
def tyX0 : Nat → FieldType := fun k => match k with
  | 0 => .object "NineNames$Reader"
  | 1 => .object "NineNames$Town"
  | 2 => .object "NineNames$Script"
  | 3 => .array .int
  | _ => .int
abbrev wsX00 : List Cond := u_ws RX0 TX0 5
theorem nmX0 : ∀ a, a < 5 → ∀ b, b < 5 → a ≠ b → (TX0 a).2.1 ≠ (TX0 b).2.1 := by decide +kernel
theorem tyX0_ok : ∀ k, k < 5 → parseFieldDescriptor (TX0 k).2.2.1 = some (tyX0 k) := by decide +kernel
def RX1 : String := "NineNames$Kin"
def TX1 : u_T := fun k => match k with
  | _ => ("", "", "", false)
def tyX1 : Nat → FieldType := fun k => match k with
  | _ => .int
abbrev wsX10 : List Cond := u_ws RX1 TX1 0
theorem nmX1 : ∀ a, a < 0 → ∀ b, b < 0 → a ≠ b → (TX1 a).2.1 ≠ (TX1 b).2.1 := by decide +kernel
theorem tyX1_ok : ∀ k, k < 0 → parseFieldDescriptor (TX1 k).2.2.1 = some (tyX1 k) := by decide +kernel
def RX2 : String := "NineNames$Life"
def TX2 : u_T := fun k => match k with
  | 0 => ("NineNames$Life", "steps", "I", false)
  | 1 => ("NineNames$Life", "missed", "I", false)
  | 2 => ("NineNames$Life", "years", "I", false)
  | 3 => ("NineNames$Life", "births", "I", false)
  | 4 => ("NineNames$Life", "deaths", "I", false)
  | 5 => ("NineNames$Life", "isCut", "Z", false)
  | 6 => ("NineNames$Life", "hasRun", "Z", false)
  | 7 => ("NineNames$Life", "seed", "I", false)
  | _ => ("NineNames$Life", "turns", "[I", true)
def tyX2 : Nat → FieldType := fun k => match k with
  | 0 => .int
  | 1 => .int
  | 2 => .int
  | 3 => .int
  | 4 => .int
  | 5 => .boolean
  | 6 => .boolean
  | 7 => .int
  | _ => .array .int
abbrev wsX20 : List Cond := u_ws RX2 TX2 9
theorem nmX2 : ∀ a, a < 9 → ∀ b, b < 9 → a ≠ b → (TX2 a).2.1 ≠ (TX2 b).2.1 := by decide +kernel
theorem tyX2_ok : ∀ k, k < 9 → parseFieldDescriptor (TX2 k).2.2.1 = some (tyX2 k) := by decide +kernel
def RX3 : String := "NineNames$Queue"
def TX3 : u_T := fun k => match k with
  | 0 => ("NineNames$Queue", "who", "[I", true)
  | 1 => ("NineNames$Queue", "wanted", "[I", true)
  | _ => ("NineNames$Queue", "count", "I", false)
def tyX3 : Nat → FieldType := fun k => match k with
  | 0 => .array .int
  | 1 => .array .int
  | _ => .int
abbrev wsX30 : List Cond := u_ws RX3 TX3 3
theorem nmX3 : ∀ a, a < 3 → ∀ b, b < 3 → a ≠ b → (TX3 a).2.1 ≠ (TX3 b).2.1 := by decide +kernel
theorem tyX3_ok : ∀ k, k < 3 → parseFieldDescriptor (TX3 k).2.2.1 = some (tyX3 k) := by decide +kernel
def RX4 : String := "NineNames$Reader"
def TX4 : u_T := fun k => match k with
  | 0 => ("NineNames$Reader", "reserved", "[J", true)
  | 1 => ("NineNames$Reader", "text", "[B", false)
  | 2 => ("NineNames$Reader", "length", "I", false)
  | 3 => ("NineNames$Reader", "next", "I", false)
  | 4 => ("NineNames$Reader", "place", "I", false)
  | 5 => ("NineNames$Reader", "kind", "I", false)
  | 6 => ("NineNames$Reader", "number", "I", false)
  | 7 => ("NineNames$Reader", "sign", "C", false)
  | 8 => ("NineNames$Reader", "word", "J", false)
  | 9 => ("NineNames$Reader", "key", "I", false)
  | 10 => ("NineNames$Reader", "fault", "I", false)
  | _ => ("NineNames$Reader", "faultPlace", "I", false)
def tyX4 : Nat → FieldType := fun k => match k with
  | 0 => .array .long
  | 1 => .array .byte
  | 2 => .int
  | 3 => .int
  | 4 => .int
  | 5 => .int
  | 6 => .int
  | 7 => .char
  | 8 => .long
  | 9 => .int
  | 10 => .int
  | _ => .int
abbrev wsX40 : List Cond := u_ws RX4 TX4 12
theorem nmX4 : ∀ a, a < 12 → ∀ b, b < 12 → a ≠ b → (TX4 a).2.1 ≠ (TX4 b).2.1 := by decide +kernel
theorem tyX4_ok : ∀ k, k < 12 → parseFieldDescriptor (TX4 k).2.2.1 = some (tyX4 k) := by decide +kernel
def RX5 : String := "NineNames$Rings"
def TX5 : u_T := fun k => match k with
  | 0 => ("NineNames$Rings", "gets", "[I", true)
  | 1 => ("NineNames$Rings", "count", "I", false)
  | 2 => ("NineNames$Rings", "pointsAt", "[I", true)
  | _ => ("NineNames$Rings", "in", "I", false)
def tyX5 : Nat → FieldType := fun k => match k with
  | 0 => .array .int
  | 1 => .int
  | 2 => .array .int
  | _ => .int
abbrev wsX50 : List Cond := u_ws RX5 TX5 4
theorem nmX5 : ∀ a, a < 4 → ∀ b, b < 4 → a ≠ b → (TX5 a).2.1 ≠ (TX5 b).2.1 := by decide +kernel
theorem tyX5_ok : ∀ k, k < 4 → parseFieldDescriptor (TX5 k).2.2.1 = some (tyX5 k) := by decide +kernel
def RX6 : String := "NineNames$Script"
def TX6 : u_T := fun k => match k with
  | 0 => ("NineNames$Script", "isThere", "Z", false)
  | 1 => ("NineNames$Script", "steps", "I", false)
  | 2 => ("NineNames$Script", "lines", "I", false)
  | 3 => ("NineNames$Script", "op", "[I", true)
  | 4 => ("NineNames$Script", "one", "[I", true)
  | 5 => ("NineNames$Script", "two", "[I", true)
  | 6 => ("NineNames$Script", "sign", "[I", true)
  | _ => ("NineNames$Script", "mate", "[I", true)
def tyX6 : Nat → FieldType := fun k => match k with
  | 0 => .boolean
  | 1 => .int
  | 2 => .int
  | 3 => .array .int
  | 4 => .array .int
  | 5 => .array .int
  | 6 => .array .int
  | _ => .array .int
abbrev wsX60 : List Cond := u_ws RX6 TX6 8
theorem nmX6 : ∀ a, a < 8 → ∀ b, b < 8 → a ≠ b → (TX6 a).2.1 ≠ (TX6 b).2.1 := by decide +kernel
theorem tyX6_ok : ∀ k, k < 8 → parseFieldDescriptor (TX6 k).2.2.1 = some (tyX6 k) := by decide +kernel
def RX7 : String := "NineNames$Town"
def TX7 : u_T := fun k => match k with
  | 0 => ("NineNames$Town", "year", "I", false)
  | 1 => ("NineNames$Town", "most", "I", false)
  | 2 => ("NineNames$Town", "life", "I", false)
  | 3 => ("NineNames$Town", "surnames", "I", false)
  | 4 => ("NineNames$Town", "persons", "I", false)
  | 5 => ("NineNames$Town", "misers", "I", false)
  | 6 => ("NineNames$Town", "surnameWords", "[J", true)
  | 7 => ("NineNames$Town", "worth", "[I", true)
  | 8 => ("NineNames$Town", "sold", "[I", true)
  | 9 => ("NineNames$Town", "personWords", "[J", true)
  | 10 => ("NineNames$Town", "born", "[I", true)
  | 11 => ("NineNames$Town", "died", "[I", true)
  | 12 => ("NineNames$Town", "bears", "[I", true)
  | 13 => ("NineNames$Town", "coins", "[I", true)
  | 14 => ("NineNames$Town", "wedTo", "[I", true)
  | 15 => ("NineNames$Town", "parents", "[I", true)
  | 16 => ("NineNames$Town", "awaySince", "[I", true)
  | 17 => ("NineNames$Town", "likes", "[I", true)
  | 18 => ("NineNames$Town", "likings", "[I", true)
  | _ => ("NineNames$Town", "queue", "LNineNames$Queue;", true)
def tyX7 : Nat → FieldType := fun k => match k with
  | 0 => .int
  | 1 => .int
  | 2 => .int
  | 3 => .int
  | 4 => .int
  | 5 => .int
  | 6 => .array .long
  | 7 => .array .int
  | 8 => .array .int
  | 9 => .array .long
  | 10 => .array .int
  | 11 => .array .int
  | 12 => .array .int
  | 13 => .array .int
  | 14 => .array .int
  | 15 => .array .int
  | 16 => .array .int
  | 17 => .array .int
  | 18 => .array .int
  | _ => .object "NineNames$Queue"
abbrev wsX70 : List Cond := u_ws RX7 TX7 20
theorem nmX7 : ∀ a, a < 20 → ∀ b, b < 20 → a ≠ b → (TX7 a).2.1 ≠ (TX7 b).2.1 := by decide +kernel
theorem tyX7_ok : ∀ k, k < 20 → parseFieldDescriptor (TX7 k).2.2.1 = some (tyX7 k) := by decide +kernel
def RX8 : String := "NineNames$TownText"
def TX8 : u_T := fun k => match k with
  | 0 => ("NineNames$TownText", "reader", "LNineNames$Reader;", true)
  | 1 => ("NineNames$TownText", "town", "LNineNames$Town;", true)
  | _ => ("NineNames$TownText", "toldHeads", "I", false)
def tyX8 : Nat → FieldType := fun k => match k with
  | 0 => .object "NineNames$Reader"
  | 1 => .object "NineNames$Town"
  | _ => .int
abbrev wsX80 : List Cond := u_ws RX8 TX8 3
theorem nmX8 : ∀ a, a < 3 → ∀ b, b < 3 → a ≠ b → (TX8 a).2.1 ≠ (TX8 b).2.1 := by decide +kernel
theorem tyX8_ok : ∀ k, k < 3 → parseFieldDescriptor (TX8 k).2.2.1 = some (tyX8 k) := by decide +kernel
def RX9 : String := "NineNames$Trays"
def TX9 : u_T := fun k => match k with
  | 0 => ("NineNames$Trays", "sorts", "[I", true)
  | 1 => ("NineNames$Trays", "lengths", "[I", true)
  | _ => ("NineNames$Trays", "rows", "[[J", true)
def tyX9 : Nat → FieldType := fun k => match k with
  | 0 => .array .int
  | 1 => .array .int
  | _ => .array (.array .long)
abbrev wsX90 : List Cond := u_ws RX9 TX9 3
theorem nmX9 : ∀ a, a < 3 → ∀ b, b < 3 → a ≠ b → (TX9 a).2.1 ≠ (TX9 b).2.1 := by decide +kernel
theorem tyX9_ok : ∀ k, k < 3 → parseFieldDescriptor (TX9 k).2.2.1 = some (tyX9 k) := by decide +kernel
def RX10 : String := "NineNames$Weddings"
def TX10 : u_T := fun k => match k with
  | 0 => ("NineNames$Weddings", "mates", "[I", true)
  | _ => ("NineNames$Weddings", "best", "[B", true)
def tyX10 : Nat → FieldType := fun k => match k with
  | 0 => .array .int
  | _ => .array .byte
abbrev wsX100 : List Cond := u_ws RX10 TX10 2
theorem nmX10 : ∀ a, a < 2 → ∀ b, b < 2 → a ≠ b → (TX10 a).2.1 ≠ (TX10 b).2.1 := by decide +kernel
theorem tyX10_ok : ∀ k, k < 2 → parseFieldDescriptor (TX10 k).2.2.1 = some (tyX10 k) := by decide +kernel
def RX11 : String := "NineNames"
def TX11 : u_T := fun k => match k with
  | 0 => ("NineNames", "status", "I", false)
  | 1 => ("NineNames", "top", "J", false)
  | 2 => ("NineNames", "bottom", "J", false)
  | 3 => ("NineNames", "trays", "LNineNames$Trays;", true)
  | 4 => ("NineNames", "tape", "[B", true)
  | 5 => ("NineNames", "taped", "I", false)
  | 6 => ("NineNames", "reader", "LNineNames$Reader;", true)
  | 7 => ("NineNames", "town", "LNineNames$Town;", true)
  | 8 => ("NineNames", "draft", "LNineNames$Town;", true)
  | 9 => ("NineNames", "script", "LNineNames$Script;", true)
  | 10 => ("NineNames", "scriptDraft", "LNineNames$Script;", true)
  | 11 => ("NineNames", "life", "LNineNames$Life;", true)
  | 12 => ("NineNames", "trial", "LNineNames$Life;", true)
  | 13 => ("NineNames", "weddings", "LNineNames$Weddings;", true)
  | 14 => ("NineNames", "market", "LNineNames$Rings;", true)
  | 15 => ("NineNames", "markedTowns", "[LNineNames$Town;", true)
  | 16 => ("NineNames", "markedScripts", "[LNineNames$Script;", true)
  | _ => ("NineNames", "marks", "I", false)
def tyX11 : Nat → FieldType := fun k => match k with
  | 0 => .int
  | 1 => .long
  | 2 => .long
  | 3 => .object "NineNames$Trays"
  | 4 => .array .byte
  | 5 => .int
  | 6 => .object "NineNames$Reader"
  | 7 => .object "NineNames$Town"
  | 8 => .object "NineNames$Town"
  | 9 => .object "NineNames$Script"
  | 10 => .object "NineNames$Script"
  | 11 => .object "NineNames$Life"
  | 12 => .object "NineNames$Life"
  | 13 => .object "NineNames$Weddings"
  | 14 => .object "NineNames$Rings"
  | 15 => .array (.object "NineNames$Town")
  | 16 => .array (.object "NineNames$Script")
  | _ => .int
abbrev wsX110 : List Cond := u_ws RX11 TX11 18
theorem nmX11 : ∀ a, a < 18 → ∀ b, b < 18 → a ≠ b → (TX11 a).2.1 ≠ (TX11 b).2.1 := by decide +kernel
theorem tyX11_ok : ∀ k, k < 18 → parseFieldDescriptor (TX11 k).2.2.1 = some (tyX11 k) := by decide +kernel
def RX12 : String := "NineNamesModel"
def TX12 : u_T := fun k => match k with
  | 0 => ("NineNamesModel", "status", "I", false)
  | 1 => ("NineNamesModel", "thrown", "I", false)
  | 2 => ("NineNamesModel", "above", "J", false)
  | 3 => ("NineNamesModel", "under", "J", false)
  | 4 => ("NineNamesModel", "traySort", "[I", true)
  | 5 => ("NineNamesModel", "trayMany", "[I", true)
  | 6 => ("NineNamesModel", "numbers", "[J", true)
  | 7 => ("NineNamesModel", "tape", "[B", true)
  | 8 => ("NineNamesModel", "taped", "I", false)
  | 9 => ("NineNamesModel", "textEnd", "I", false)
  | 10 => ("NineNamesModel", "faultKind", "I", false)
  | 11 => ("NineNamesModel", "faultAt", "I", false)
  | 12 => ("NineNamesModel", "bad", "I", false)
  | 13 => ("NineNamesModel", "badAt", "I", false)
  | 14 => ("NineNamesModel", "token", "I", false)
  | 15 => ("NineNamesModel", "at", "I", false)
  | 16 => ("NineNamesModel", "behind", "I", false)
  | 17 => ("NineNamesModel", "number", "I", false)
  | 18 => ("NineNamesModel", "letters", "I", false)
  | 19 => ("NineNamesModel", "word", "J", false)
  | 20 => ("NineNamesModel", "c", "[I", true)
  | 21 => ("NineNamesModel", "aside", "[I", true)
  | 22 => ("NineNamesModel", "before", "[I", true)
  | 23 => ("NineNamesModel", "words", "[J", true)
  | 24 => ("NineNamesModel", "markMany", "I", false)
  | 25 => ("NineNamesModel", "toldOnce", "I", false)
  | 26 => ("NineNamesModel", "newSteps", "I", false)
  | 27 => ("NineNamesModel", "chances", "[J", true)
  | 28 => ("NineNamesModel", "most", "[I", true)
  | 29 => ("NineNamesModel", "gets", "[I", true)
  | 30 => ("NineNamesModel", "points", "[I", true)
  | 31 => ("NineNamesModel", "ringMany", "I", false)
  | 32 => ("NineNamesModel", "given", "[I", true)
  | 33 => ("NineNamesModel", "livedLast", "[I", true)
  | 34 => ("NineNamesModel", "hasLived", "Z", false)
  | 35 => ("NineNamesModel", "isOver", "Z", false)
  | 36 => ("NineNamesModel", "random", "I", false)
  | 37 => ("NineNamesModel", "done", "I", false)
  | 38 => ("NineNamesModel", "missed", "I", false)
  | 39 => ("NineNamesModel", "years", "I", false)
  | 40 => ("NineNamesModel", "born", "I", false)
  | 41 => ("NineNamesModel", "died", "I", false)
  | _ => ("NineNamesModel", "leftOver", "I", false)
def tyX12 : Nat → FieldType := fun k => match k with
  | 0 => .int
  | 1 => .int
  | 2 => .long
  | 3 => .long
  | 4 => .array .int
  | 5 => .array .int
  | 6 => .array .long
  | 7 => .array .byte
  | 8 => .int
  | 9 => .int
  | 10 => .int
  | 11 => .int
  | 12 => .int
  | 13 => .int
  | 14 => .int
  | 15 => .int
  | 16 => .int
  | 17 => .int
  | 18 => .int
  | 19 => .long
  | 20 => .array .int
  | 21 => .array .int
  | 22 => .array .int
  | 23 => .array .long
  | 24 => .int
  | 25 => .int
  | 26 => .int
  | 27 => .array .long
  | 28 => .array .int
  | 29 => .array .int
  | 30 => .array .int
  | 31 => .int
  | 32 => .array .int
  | 33 => .array .int
  | 34 => .boolean
  | 35 => .boolean
  | 36 => .int
  | 37 => .int
  | 38 => .int
  | 39 => .int
  | 40 => .int
  | 41 => .int
  | _ => .int
abbrev wsX120 : List Cond := u_ws RX12 TX12 43
theorem nmX12 : ∀ a, a < 43 → ∀ b, b < 43 → a ≠ b → (TX12 a).2.1 ≠ (TX12 b).2.1 := by decide +kernel
theorem tyX12_ok : ∀ k, k < 43 → parseFieldDescriptor (TX12 k).2.2.1 = some (tyX12 k) := by decide +kernel
abbrev zCl : List vw_C := [(RX0, TX0, 5), (RX1, TX1, 0), (RX2, TX2, 9), (RX3, TX3, 3), (RX4, TX4, 12), (RX5, TX5, 4), (RX6, TX6, 8), (RX7, TX7, 20), (RX8, TX8, 3), (RX9, TX9, 3), (RX10, TX10, 2), (RX11, TX11, 18), (RX12, TX12, 43)]
def zTy : List (Nat → FieldType) := [tyX0, tyX1, tyX2, tyX3, tyX4, tyX5, tyX6, tyX7, tyX8, tyX9, tyX10, tyX11, tyX12]
def zOn : List String := ["NineNames$CenturiesText", "NineNames$Kin", "NineNames$Life", "NineNames$Queue", "NineNames$Reader", "NineNames$Rings", "NineNames$Script", "NineNames$Town", "NineNames$TownText", "NineNames$Trays", "NineNames$Weddings", "NineNames", "NineNamesModel", "java/lang/String", "NineNamesLaw", "java/lang/Integer", "java/lang/Math", "java/util/Arrays", "java/lang/StringLatin1", "jdk/internal/util/Preconditions"]
/-- methods: owner, name, bytes, room for variables, what is returned, is it static, how many arguments -/
def zMt_0 : List (Nat × MethodName × ByteArray × Nat × Option FieldType × Bool × Nat) := [(0, ⟨"NineNames$CenturiesText", "<init>", "(LNineNames$Reader;LNineNames$Town;LNineNames$Script;)V"⟩, prog_2_method_1_code, 4, none, false, 3),
  (0, ⟨"NineNames$CenturiesText", "readAll", "()Z"⟩, prog_2_method_2_code, 3, (some .boolean), false, 0),
  (0, ⟨"NineNames$CenturiesText", "endLine", "()Z"⟩, prog_2_method_3_code, 1, (some .boolean), false, 0),
  (0, ⟨"NineNames$CenturiesText", "isStep", "(I)Z"⟩, prog_2_method_4_code, 1, (some .boolean), true, 1),
  (0, ⟨"NineNames$CenturiesText", "isTest", "(I)Z"⟩, prog_2_method_5_code, 1, (some .boolean), true, 1),
  (0, ⟨"NineNames$CenturiesText", "stepLine", "(I)Z"⟩, prog_2_method_6_code, 4, (some .boolean), false, 1),
  (0, ⟨"NineNames$CenturiesText", "readRest", "(I)Z"⟩, prog_2_method_7_code, 2, (some .boolean), false, 1),
  (0, ⟨"NineNames$CenturiesText", "wordAlone", "(I)Z"⟩, prog_2_method_8_code, 2, (some .boolean), false, 1),
  (0, ⟨"NineNames$CenturiesText", "numberUpTo", "(II)Z"⟩, prog_2_method_9_code, 4, (some .boolean), false, 2),
  (0, ⟨"NineNames$CenturiesText", "takePerson", "()I"⟩, prog_2_method_10_code, 2, (some .int), false, 0),
  (0, ⟨"NineNames$CenturiesText", "takeSurname", "()I"⟩, prog_2_method_11_code, 2, (some .int), false, 0),
  (0, ⟨"NineNames$CenturiesText", "onePerson", "(I)Z"⟩, prog_2_method_12_code, 3, (some .boolean), false, 1),
  (0, ⟨"NineNames$CenturiesText", "twoPersons", "(I)Z"⟩, prog_2_method_13_code, 4, (some .boolean), false, 1),
  (0, ⟨"NineNames$CenturiesText", "bearsTest", "()Z"⟩, prog_2_method_14_code, 3, (some .boolean), false, 0),
  (0, ⟨"NineNames$CenturiesText", "freeTest", "()Z"⟩, prog_2_method_15_code, 4, (some .boolean), false, 0),
  (1, ⟨"NineNames$Kin", "bit", "(I)I"⟩, prog_3_method_2_code, 1, (some .int), true, 1),
  (1, ⟨"NineNames$Kin", "parentsOf", "(LNineNames$Town;I)I"⟩, prog_3_method_3_code, 2, (some .int), true, 2),
  (1, ⟨"NineNames$Kin", "childrenOf", "(LNineNames$Town;I)I"⟩, prog_3_method_4_code, 4, (some .int), true, 2),
  (1, ⟨"NineNames$Kin", "areNear", "(LNineNames$Town;II)Z"⟩, prog_3_method_5_code, 5, (some .boolean), true, 3),
  (1, ⟨"NineNames$Kin", "eldersOf", "(LNineNames$Town;I)I"⟩, prog_3_method_6_code, 5, (some .int), true, 2),
  (1, ⟨"NineNames$Kin", "steps", "(LNineNames$Town;II)I"⟩, prog_3_method_7_code, 5, (some .int), true, 3),
  (1, ⟨"NineNames$Kin", "around", "(LNineNames$Town;I)I"⟩, prog_3_method_8_code, 4, (some .int), true, 2),
  (1, ⟨"NineNames$Kin", "couldHave", "(LNineNames$Town;III)Z"⟩, prog_3_method_9_code, 8, (some .boolean), true, 4),
  (2, ⟨"NineNames$Life", "<init>", "()V"⟩, prog_4_method_1_code, 1, none, false, 0),
  (2, ⟨"NineNames$Life", "run", "(LNineNames$Script;LNineNames$Town;I)V"⟩, prog_4_method_2_code, 7, none, false, 3),
  (2, ⟨"NineNames$Life", "behindEnd", "(LNineNames$Script;I)I"⟩, prog_4_method_3_code, 4, (some .int), false, 2),
  (2, ⟨"NineNames$Life", "inside", "(LNineNames$Script;LNineNames$Town;I)I"⟩, prog_4_method_4_code, 5, (some .int), false, 3),
  (2, ⟨"NineNames$Life", "holds", "(LNineNames$Script;LNineNames$Town;I)Z"⟩, prog_4_method_5_code, 4, (some .boolean), true, 3),
  (2, ⟨"NineNames$Life", "compares", "(III)Z"⟩, prog_4_method_6_code, 3, (some .boolean), true, 3),
  (2, ⟨"NineNames$Life", "act", "(LNineNames$Town;III)Z"⟩, prog_4_method_7_code, 5, (some .boolean), false, 4),
  (2, ⟨"NineNames$Life", "letYearsPass", "(LNineNames$Town;I)Z"⟩, prog_4_method_8_code, 3, (some .boolean), false, 2),
  (2, ⟨"NineNames$Life", "bury", "(LNineNames$Town;I)Z"⟩, prog_4_method_9_code, 3, (some .boolean), false, 2),
  (2, ⟨"NineNames$Life", "bear", "(LNineNames$Town;II)Z"⟩, prog_4_method_10_code, 4, (some .boolean), false, 3),
  (2, ⟨"NineNames$Life", "marry", "(LNineNames$Town;II)Z"⟩, prog_4_method_11_code, 3, (some .boolean), true, 3),
  (2, ⟨"NineNames$Life", "handOver", "(LNineNames$Town;II)Z"⟩, prog_4_method_12_code, 3, (some .boolean), true, 3),
  (2, ⟨"NineNames$Life", "exchange", "(LNineNames$Town;II)Z"⟩, prog_4_method_13_code, 3, (some .boolean), true, 3),
  (2, ⟨"NineNames$Life", "drawLiving", "(LNineNames$Town;)I"⟩, prog_4_method_14_code, 5, (some .int), false, 1),
  (3, ⟨"NineNames$Queue", "<init>", "()V"⟩, prog_5_method_1_code, 1, none, false, 0),
  (3, ⟨"NineNames$Queue", "copyFrom", "(LNineNames$Queue;)V"⟩, prog_5_method_2_code, 2, none, false, 1),
  (3, ⟨"NineNames$Queue", "placeOf", "(I)I"⟩, prog_5_method_3_code, 3, (some .int), false, 1),
  (3, ⟨"NineNames$Queue", "add", "(II)V"⟩, prog_5_method_4_code, 3, none, false, 2),
  (3, ⟨"NineNames$Queue", "drop", "(I)V"⟩, prog_5_method_5_code, 4, none, false, 1),
  (3, ⟨"NineNames$Queue", "dropServed", "([I)V"⟩, prog_5_method_6_code, 4, none, false, 1),
  (4, ⟨"NineNames$Reader", "<init>", "()V"⟩, prog_6_method_1_code, 6, none, false, 0),
  (4, ⟨"NineNames$Reader", "begin", "([BI)V"⟩, prog_6_method_2_code, 3, none, false, 2),
  (4, ⟨"NineNames$Reader", "advance", "()V"⟩, prog_6_method_3_code, 3, none, false, 0),
  (4, ⟨"NineNames$Reader", "behindRun", "(CC)I"⟩, prog_6_method_4_code, 4, (some .int), false, 2),
  (4, ⟨"NineNames$Reader", "readWord", "(I)V"⟩, prog_6_method_5_code, 3, none, false, 1),
  (4, ⟨"NineNames$Reader", "readNumber", "(I)V"⟩, prog_6_method_6_code, 3, none, false, 1),
  (4, ⟨"NineNames$Reader", "readSign", "()V"⟩, prog_6_method_7_code, 1, none, false, 0),
  (4, ⟨"NineNames$Reader", "atEnd", "()Z"⟩, prog_6_method_8_code, 1, (some .boolean), false, 0),
  (4, ⟨"NineNames$Reader", "atName", "()Z"⟩, prog_6_method_9_code, 1, (some .boolean), false, 0),
  (4, ⟨"NineNames$Reader", "atCompare", "()Z"⟩, prog_6_method_10_code, 1, (some .boolean), false, 0),
  (4, ⟨"NineNames$Reader", "fail", "(I)Z"⟩, prog_6_method_11_code, 2, (some .boolean), false, 1),
  (4, ⟨"NineNames$Reader", "failHere", "()Z"⟩, prog_6_method_12_code, 1, (some .boolean), false, 0),
  (4, ⟨"NineNames$Reader", "takeKey", "(I)Z"⟩, prog_6_method_13_code, 2, (some .boolean), false, 1),
  (4, ⟨"NineNames$Reader", "takeStop", "()Z"⟩, prog_6_method_14_code, 1, (some .boolean), false, 0),
  (4, ⟨"NineNames$Reader", "takeNumber", "(II)I"⟩, prog_6_method_15_code, 4, (some .int), false, 2),
  (4, ⟨"NineNames$Reader", "personHere", "(LNineNames$Town;)I"⟩, prog_6_method_16_code, 2, (some .int), false, 1),
  (4, ⟨"NineNames$Reader", "surnameHere", "(LNineNames$Town;)I"⟩, prog_6_method_17_code, 2, (some .int), false, 1)]
def zMt_1 : List (Nat × MethodName × ByteArray × Nat × Option FieldType × Bool × Nat) := [(4, ⟨"NineNames$Reader", "placeHere", "([JI)I"⟩, prog_6_method_18_code, 4, (some .int), false, 2),
  (4, ⟨"NineNames$Reader", "isTaken", "(LNineNames$Town;)Z"⟩, prog_6_method_19_code, 2, (some .boolean), false, 1),
  (4, ⟨"NineNames$Reader", "placeIn", "([JIJ)I"⟩, prog_6_method_20_code, 5, (some .int), true, 3),
  (5, ⟨"NineNames$Rings", "<init>", "()V"⟩, prog_7_method_1_code, 1, none, false, 0),
  (5, ⟨"NineNames$Rings", "close", "(LNineNames$Town;)V"⟩, prog_7_method_2_code, 3, none, false, 1),
  (5, ⟨"NineNames$Rings", "pointAll", "(LNineNames$Town;)V"⟩, prog_7_method_3_code, 3, none, false, 1),
  (5, ⟨"NineNames$Rings", "dearestOf", "(LNineNames$Town;I)I"⟩, prog_7_method_4_code, 6, (some .int), false, 2),
  (5, ⟨"NineNames$Rings", "closeFirst", "(LNineNames$Town;)V"⟩, prog_7_method_5_code, 4, none, false, 1),
  (5, ⟨"NineNames$Rings", "lengthFrom", "(I)I"⟩, prog_7_method_6_code, 4, (some .int), false, 1),
  (5, ⟨"NineNames$Rings", "take", "(LNineNames$Town;II)V"⟩, prog_7_method_7_code, 6, none, false, 3),
  (6, ⟨"NineNames$Script", "<init>", "()V"⟩, prog_8_method_1_code, 1, none, false, 0),
  (6, ⟨"NineNames$Script", "clear", "()V"⟩, prog_8_method_2_code, 1, none, false, 0),
  (6, ⟨"NineNames$Script", "copyFrom", "(LNineNames$Script;)V"⟩, prog_8_method_3_code, 2, none, false, 1),
  (6, ⟨"NineNames$Script", "add", "(IIII)V"⟩, prog_8_method_4_code, 5, none, false, 4),
  (6, ⟨"NineNames$Script", "join", "(II)V"⟩, prog_8_method_5_code, 3, none, false, 2),
  (7, ⟨"NineNames$Town", "<init>", "()V"⟩, prog_9_method_1_code, 1, none, false, 0),
  (7, ⟨"NineNames$Town", "clear", "()V"⟩, prog_9_method_2_code, 1, none, false, 0),
  (7, ⟨"NineNames$Town", "copyFrom", "(LNineNames$Town;)V"⟩, prog_9_method_3_code, 2, none, false, 1),
  (7, ⟨"NineNames$Town", "addSurname", "(J)I"⟩, prog_9_method_4_code, 4, (some .int), false, 1),
  (7, ⟨"NineNames$Town", "addPerson", "(JI)I"⟩, prog_9_method_5_code, 5, (some .int), false, 2),
  (7, ⟨"NineNames$Town", "tellParents", "(III)V"⟩, prog_9_method_6_code, 4, none, false, 3),
  (7, ⟨"NineNames$Town", "hasSurname", "(I)Z"⟩, prog_9_method_7_code, 2, (some .boolean), false, 1),
  (7, ⟨"NineNames$Town", "hasPerson", "(I)Z"⟩, prog_9_method_8_code, 2, (some .boolean), false, 1),
  (7, ⟨"NineNames$Town", "isFull", "()Z"⟩, prog_9_method_9_code, 1, (some .boolean), false, 0),
  (7, ⟨"NineNames$Town", "lives", "(I)Z"⟩, prog_9_method_10_code, 2, (some .boolean), false, 1),
  (7, ⟨"NineNames$Town", "livesAs", "(II)Z"⟩, prog_9_method_11_code, 3, (some .boolean), false, 2),
  (7, ⟨"NineNames$Town", "takesPart", "(I)Z"⟩, prog_9_method_12_code, 2, (some .boolean), false, 1),
  (7, ⟨"NineNames$Town", "isAway", "(I)Z"⟩, prog_9_method_13_code, 2, (some .boolean), false, 1),
  (7, ⟨"NineNames$Town", "age", "(I)I"⟩, prog_9_method_14_code, 2, (some .int), false, 1),
  (7, ⟨"NineNames$Town", "isGrown", "(I)Z"⟩, prog_9_method_15_code, 2, (some .boolean), false, 1),
  (7, ⟨"NineNames$Town", "living", "()I"⟩, prog_9_method_16_code, 1, (some .int), false, 0),
  (7, ⟨"NineNames$Town", "bearers", "(I)I"⟩, prog_9_method_17_code, 4, (some .int), false, 1),
  (7, ⟨"NineNames$Town", "dashes", "()I"⟩, prog_9_method_18_code, 1, (some .int), false, 0),
  (7, ⟨"NineNames$Town", "free", "(I)I"⟩, prog_9_method_19_code, 4, (some .int), false, 1),
  (7, ⟨"NineNames$Town", "told", "([I)I"⟩, prog_9_method_20_code, 4, (some .int), false, 1),
  (7, ⟨"NineNames$Town", "livingCoins", "()I"⟩, prog_9_method_21_code, 3, (some .int), false, 0),
  (7, ⟨"NineNames$Town", "riches", "(I)I"⟩, prog_9_method_22_code, 2, (some .int), false, 1),
  (7, ⟨"NineNames$Town", "eldest", "(I)I"⟩, prog_9_method_23_code, 4, (some .int), false, 1),
  (7, ⟨"NineNames$Town", "least", "(I)I"⟩, prog_9_method_24_code, 2, (some .int), true, 1),
  (7, ⟨"NineNames$Town", "younger", "(II)I"⟩, prog_9_method_25_code, 3, (some .int), false, 2),
  (7, ⟨"NineNames$Town", "likedAt", "(II)I"⟩, prog_9_method_26_code, 3, (some .int), false, 2),
  (7, ⟨"NineNames$Town", "hasLiked", "(II)Z"⟩, prog_9_method_27_code, 4, (some .boolean), false, 2),
  (7, ⟨"NineNames$Town", "like", "(II)V"⟩, prog_9_method_28_code, 3, none, false, 2),
  (7, ⟨"NineNames$Town", "passYears", "(I)I"⟩, prog_9_method_29_code, 4, (some .int), false, 1),
  (7, ⟨"NineNames$Town", "passYear", "()I"⟩, prog_9_method_30_code, 3, (some .int), false, 0),
  (7, ⟨"NineNames$Town", "bury", "(I)V"⟩, prog_9_method_31_code, 2, none, false, 1),
  (7, ⟨"NineNames$Town", "divorce", "(I)V"⟩, prog_9_method_32_code, 3, none, false, 1),
  (7, ⟨"NineNames$Town", "canBear", "(II)Z"⟩, prog_9_method_33_code, 3, (some .boolean), false, 2),
  (7, ⟨"NineNames$Town", "bear", "(II)I"⟩, prog_9_method_34_code, 5, (some .int), false, 2),
  (7, ⟨"NineNames$Town", "placeUnder", "(I)I"⟩, prog_9_method_35_code, 2, (some .int), false, 1),
  (7, ⟨"NineNames$Town", "canMarry", "(III)Z"⟩, prog_9_method_36_code, 4, (some .boolean), false, 3),
  (7, ⟨"NineNames$Town", "canTake", "(II)Z"⟩, prog_9_method_37_code, 3, (some .boolean), false, 2),
  (7, ⟨"NineNames$Town", "marry", "(III)V"⟩, prog_9_method_38_code, 4, none, false, 3),
  (7, ⟨"NineNames$Town", "canHandOver", "(II)Z"⟩, prog_9_method_39_code, 5, (some .boolean), false, 2),
  (7, ⟨"NineNames$Town", "handOver", "(II)I"⟩, prog_9_method_40_code, 5, (some .int), false, 2),
  (7, ⟨"NineNames$Town", "canExchange", "(II)Z"⟩, prog_9_method_41_code, 3, (some .boolean), false, 2),
  (7, ⟨"NineNames$Town", "exchange", "(II)V"⟩, prog_9_method_42_code, 4, none, false, 2),
  (7, ⟨"NineNames$Town", "canFight", "(II)Z"⟩, prog_9_method_43_code, 3, (some .boolean), false, 2),
  (7, ⟨"NineNames$Town", "canAsk", "(II)Z"⟩, prog_9_method_44_code, 4, (some .boolean), false, 2),
  (7, ⟨"NineNames$Town", "settle", "()V"⟩, prog_9_method_45_code, 4, none, false, 0)]
def zMt_2 : List (Nat × MethodName × ByteArray × Nat × Option FieldType × Bool × Nat) := [(8, ⟨"NineNames$TownText", "<init>", "(LNineNames$Reader;LNineNames$Town;)V"⟩, prog_10_method_1_code, 3, none, false, 2),
  (8, ⟨"NineNames$TownText", "readAll", "()Z"⟩, prog_10_method_2_code, 2, (some .boolean), false, 0),
  (8, ⟨"NineNames$TownText", "readPart", "()Z"⟩, prog_10_method_3_code, 1, (some .boolean), false, 0),
  (8, ⟨"NineNames$TownText", "head", "(I)Z"⟩, prog_10_method_4_code, 2, (some .boolean), false, 1),
  (8, ⟨"NineNames$TownText", "newNameHere", "()Z"⟩, prog_10_method_5_code, 1, (some .boolean), false, 0),
  (8, ⟨"NineNames$TownText", "surnamePart", "()Z"⟩, prog_10_method_6_code, 2, (some .boolean), false, 0),
  (8, ⟨"NineNames$TownText", "personPart", "()Z"⟩, prog_10_method_7_code, 5, (some .boolean), false, 0),
  (8, ⟨"NineNames$TownText", "ofHere", "(I)Z"⟩, prog_10_method_8_code, 3, (some .boolean), false, 1),
  (8, ⟨"NineNames$TownText", "coinsHere", "(I)Z"⟩, prog_10_method_9_code, 2, (some .boolean), false, 1),
  (8, ⟨"NineNames$TownText", "miserHere", "(I)Z"⟩, prog_10_method_10_code, 2, (some .boolean), false, 1),
  (8, ⟨"NineNames$TownText", "otherHere", "(II)I"⟩, prog_10_method_11_code, 4, (some .int), false, 2),
  (8, ⟨"NineNames$TownText", "childPart", "()Z"⟩, prog_10_method_12_code, 4, (some .boolean), false, 0),
  (8, ⟨"NineNames$TownText", "wedPart", "()Z"⟩, prog_10_method_13_code, 3, (some .boolean), false, 0),
  (8, ⟨"NineNames$TownText", "singleHere", "(I)I"⟩, prog_10_method_14_code, 3, (some .int), false, 1),
  (8, ⟨"NineNames$TownText", "likesPart", "()Z"⟩, prog_10_method_15_code, 4, (some .boolean), false, 0),
  (8, ⟨"NineNames$TownText", "waitsPart", "()Z"⟩, prog_10_method_16_code, 3, (some .boolean), false, 0),
  (9, ⟨"NineNames$Trays", "<init>", "()V"⟩, prog_11_method_1_code, 1, none, false, 0),
  (9, ⟨"NineNames$Trays", "isTray", "(I)Z"⟩, prog_11_method_2_code, 1, (some .boolean), true, 1),
  (9, ⟨"NineNames$Trays", "isSort", "(I)Z"⟩, prog_11_method_3_code, 1, (some .boolean), true, 1),
  (9, ⟨"NineNames$Trays", "isMissing", "(I)Z"⟩, prog_11_method_4_code, 2, (some .boolean), false, 1),
  (9, ⟨"NineNames$Trays", "sortOf", "(I)I"⟩, prog_11_method_5_code, 2, (some .int), false, 1),
  (9, ⟨"NineNames$Trays", "length", "(I)I"⟩, prog_11_method_6_code, 2, (some .int), false, 1),
  (9, ⟨"NineNames$Trays", "hasRow", "(III)Z"⟩, prog_11_method_7_code, 4, (some .boolean), false, 3),
  (9, ⟨"NineNames$Trays", "lay", "(III)V"⟩, prog_11_method_8_code, 4, none, false, 3),
  (9, ⟨"NineNames$Trays", "put", "(IIJ)V"⟩, prog_11_method_9_code, 5, none, false, 3),
  (9, ⟨"NineNames$Trays", "at", "(II)J"⟩, prog_11_method_10_code, 3, (some .long), false, 2),
  (9, ⟨"NineNames$Trays", "move", "(IIIII)V"⟩, prog_11_method_11_code, 6, none, false, 5),
  (9, ⟨"NineNames$Trays", "cut", "(IJ)J"⟩, prog_11_method_12_code, 3, (some .long), true, 2),
  (10, ⟨"NineNames$Weddings", "<init>", "()V"⟩, prog_12_method_1_code, 1, none, false, 0),
  (10, ⟨"NineNames$Weddings", "suitableFor", "(LNineNames$Town;I)I"⟩, prog_12_method_2_code, 4, (some .int), true, 2),
  (10, ⟨"NineNames$Weddings", "bestFor", "(LNineNames$Town;I)I"⟩, prog_12_method_3_code, 5, (some .int), true, 2),
  (10, ⟨"NineNames$Weddings", "mostCouples", "(LNineNames$Town;I)I"⟩, prog_12_method_4_code, 7, (some .int), false, 2),
  (10, ⟨"NineNames$Weddings", "mostWithin", "(I)B"⟩, prog_12_method_5_code, 6, (some .byte), false, 1),
  (11, ⟨"NineNames", "<init>", "()V"⟩, prog_1_method_1_code, 2, none, false, 0),
  (11, ⟨"NineNames", "status", "()I"⟩, prog_1_method_2_code, 1, (some .int), false, 0),
  (11, ⟨"NineNames", "top", "()J"⟩, prog_1_method_3_code, 1, (some .long), false, 0),
  (11, ⟨"NineNames", "bottom", "()J"⟩, prog_1_method_4_code, 1, (some .long), false, 0),
  (11, ⟨"NineNames", "tray", "(III)Z"⟩, prog_1_method_5_code, 4, (some .boolean), false, 3),
  (11, ⟨"NineNames", "write", "(IIJ)Z"⟩, prog_1_method_6_code, 6, (some .boolean), false, 3),
  (11, ⟨"NineNames", "read", "(II)J"⟩, prog_1_method_7_code, 4, (some .long), false, 2),
  (11, ⟨"NineNames", "pour", "(IIIII)Z"⟩, prog_1_method_8_code, 6, (some .boolean), false, 5),
  (11, ⟨"NineNames", "feed", "(IIIII)I"⟩, prog_1_method_9_code, 6, (some .int), false, 5),
  (11, ⟨"NineNames", "town", "(I)I"⟩, prog_1_method_10_code, 2, (some .int), false, 1),
  (11, ⟨"NineNames", "centuries", "(I)I"⟩, prog_1_method_11_code, 2, (some .int), false, 1),
  (11, ⟨"NineNames", "fault", "(I)I"⟩, prog_1_method_12_code, 2, (some .int), false, 1),
  (11, ⟨"NineNames", "many", "(I)I"⟩, prog_1_method_13_code, 2, (some .int), false, 1),
  (11, ⟨"NineNames", "surname", "(II)I"⟩, prog_1_method_14_code, 3, (some .int), false, 2),
  (11, ⟨"NineNames", "person", "(II)I"⟩, prog_1_method_15_code, 3, (some .int), false, 2),
  (11, ⟨"NineNames", "waiting", "(II)I"⟩, prog_1_method_16_code, 3, (some .int), false, 2),
  (11, ⟨"NineNames", "liked", "(II)I"⟩, prog_1_method_17_code, 3, (some .int), false, 2),
  (11, ⟨"NineNames", "copyNames", "(I)I"⟩, prog_1_method_18_code, 4, (some .int), false, 1),
  (11, ⟨"NineNames", "year", "(I)I"⟩, prog_1_method_19_code, 2, (some .int), false, 1),
  (11, ⟨"NineNames", "die", "(I)I"⟩, prog_1_method_20_code, 2, (some .int), false, 1),
  (11, ⟨"NineNames", "birth", "(II)I"⟩, prog_1_method_21_code, 4, (some .int), false, 2),
  (11, ⟨"NineNames", "wed", "(III)Z"⟩, prog_1_method_22_code, 4, (some .boolean), false, 3),
  (11, ⟨"NineNames", "part", "(II)Z"⟩, prog_1_method_23_code, 3, (some .boolean), false, 2),
  (11, ⟨"NineNames", "sell", "(II)I"⟩, prog_1_method_24_code, 4, (some .int), false, 2),
  (11, ⟨"NineNames", "swap", "(II)Z"⟩, prog_1_method_25_code, 3, (some .boolean), false, 2),
  (11, ⟨"NineNames", "duel", "(II)I"⟩, prog_1_method_26_code, 4, (some .int), false, 2),
  (11, ⟨"NineNames", "abroad", "(IZ)Z"⟩, prog_1_method_27_code, 3, (some .boolean), false, 2)]
def zMt_3 : List (Nat × MethodName × ByteArray × Nat × Option FieldType × Bool × Nat) := [(11, ⟨"NineNames", "ask", "(II)I"⟩, prog_1_method_28_code, 3, (some .int), false, 2),
  (11, ⟨"NineNames", "leave", "(I)Z"⟩, prog_1_method_29_code, 2, (some .boolean), false, 1),
  (11, ⟨"NineNames", "earn", "(II)I"⟩, prog_1_method_30_code, 3, (some .int), false, 2),
  (11, ⟨"NineNames", "rule", "(I)Z"⟩, prog_1_method_31_code, 2, (some .boolean), false, 1),
  (11, ⟨"NineNames", "wish", "(III)Z"⟩, prog_1_method_32_code, 5, (some .boolean), false, 3),
  (11, ⟨"NineNames", "turn", "(I)I"⟩, prog_1_method_33_code, 5, (some .int), false, 1),
  (11, ⟨"NineNames", "gone", "(I)I"⟩, prog_1_method_34_code, 3, (some .int), false, 1),
  (11, ⟨"NineNames", "livingIn", "(I)I"⟩, prog_1_method_35_code, 2, (some .int), false, 1),
  (11, ⟨"NineNames", "bearsIn", "(II)I"⟩, prog_1_method_36_code, 3, (some .int), false, 2),
  (11, ⟨"NineNames", "dashesIn", "(I)I"⟩, prog_1_method_37_code, 2, (some .int), false, 1),
  (11, ⟨"NineNames", "luck", "(III)Z"⟩, prog_1_method_38_code, 8, (some .boolean), false, 3),
  (11, ⟨"NineNames", "canWed", "(III)I"⟩, prog_1_method_39_code, 4, (some .int), false, 3),
  (11, ⟨"NineNames", "couples", "()I"⟩, prog_1_method_40_code, 1, (some .int), false, 0),
  (11, ⟨"NineNames", "couplesOf", "(I)I"⟩, prog_1_method_41_code, 2, (some .int), false, 1),
  (11, ⟨"NineNames", "match", "(I)I"⟩, prog_1_method_42_code, 2, (some .int), false, 1),
  (11, ⟨"NineNames", "suitors", "(I)I"⟩, prog_1_method_43_code, 2, (some .int), false, 1),
  (11, ⟨"NineNames", "ringed", "(I)I"⟩, prog_1_method_44_code, 2, (some .int), false, 1),
  (11, ⟨"NineNames", "rings", "()I"⟩, prog_1_method_45_code, 1, (some .int), false, 0),
  (11, ⟨"NineNames", "trade", "()I"⟩, prog_1_method_46_code, 4, (some .int), false, 0),
  (11, ⟨"NineNames", "content", "()I"⟩, prog_1_method_47_code, 4, (some .int), false, 0),
  (11, ⟨"NineNames", "kin", "(II)I"⟩, prog_1_method_48_code, 3, (some .int), false, 2),
  (11, ⟨"NineNames", "children", "(I)I"⟩, prog_1_method_49_code, 2, (some .int), false, 1),
  (11, ⟨"NineNames", "elders", "(I)I"⟩, prog_1_method_50_code, 2, (some .int), false, 1),
  (11, ⟨"NineNames", "near", "(II)I"⟩, prog_1_method_51_code, 3, (some .int), false, 2),
  (11, ⟨"NineNames", "parents", "(I)I"⟩, prog_1_method_52_code, 5, (some .int), false, 1),
  (11, ⟨"NineNames", "couldBe", "(III)I"⟩, prog_1_method_53_code, 4, (some .int), false, 3),
  (11, ⟨"NineNames", "wealth", "(I)I"⟩, prog_1_method_54_code, 2, (some .int), false, 1),
  (11, ⟨"NineNames", "richest", "()I"⟩, prog_1_method_55_code, 3, (some .int), false, 0),
  (11, ⟨"NineNames", "buyers", "(I)I"⟩, prog_1_method_56_code, 6, (some .int), false, 1),
  (11, ⟨"NineNames", "recount", "(I)I"⟩, prog_1_method_57_code, 5, (some .int), false, 1),
  (11, ⟨"NineNames", "live", "(I)I"⟩, prog_1_method_58_code, 2, (some .int), false, 1),
  (11, ⟨"NineNames", "lived", "(I)I"⟩, prog_1_method_59_code, 2, (some .int), false, 1),
  (11, ⟨"NineNames", "mean", "(II)Z"⟩, prog_1_method_60_code, 5, (some .boolean), false, 2),
  (11, ⟨"NineNames", "mark", "()I"⟩, prog_1_method_61_code, 1, (some .int), false, 0),
  (11, ⟨"NineNames", "back", "()I"⟩, prog_1_method_62_code, 1, (some .int), false, 0),
  (11, ⟨"NineNames", "answer", "(I)I"⟩, prog_1_method_63_code, 2, (some .int), false, 1),
  (11, ⟨"NineNames", "answerIfAny", "(I)I"⟩, prog_1_method_64_code, 2, (some .int), false, 1),
  (11, ⟨"NineNames", "refuse", "(I)I"⟩, prog_1_method_65_code, 2, (some .int), false, 1),
  (11, ⟨"NineNames", "grant", "()Z"⟩, prog_1_method_66_code, 1, (some .boolean), false, 0),
  (11, ⟨"NineNames", "deny", "(I)Z"⟩, prog_1_method_67_code, 2, (some .boolean), false, 1),
  (11, ⟨"NineNames", "done", "()Z"⟩, prog_1_method_68_code, 1, (some .boolean), false, 0),
  (11, ⟨"NineNames", "trayTrouble", "(I)I"⟩, prog_1_method_69_code, 2, (some .int), false, 1),
  (11, ⟨"NineNames", "placeTrouble", "(II)I"⟩, prog_1_method_70_code, 4, (some .int), false, 2),
  (11, ⟨"NineNames", "tellsSurnames", "(II)Z"⟩, prog_1_method_71_code, 7, (some .boolean), false, 2),
  (11, ⟨"NineNames", "putOnTape", "(I)V"⟩, prog_1_method_72_code, 3, none, false, 1),
  (11, ⟨"NineNames", "arePersons", "(II)Z"⟩, prog_1_method_73_code, 3, (some .boolean), false, 2),
  (11, ⟨"NineNames", "isWay", "(I)Z"⟩, prog_1_method_74_code, 1, (some .boolean), true, 1),
  (11, ⟨"NineNames", "isMost", "(I)Z"⟩, prog_1_method_75_code, 1, (some .boolean), true, 1),
  (11, ⟨"NineNames", "isForecast", "(I)Z"⟩, prog_1_method_76_code, 1, (some .boolean), true, 1),
  (11, ⟨"NineNames", "lookAhead", "(I)V"⟩, prog_1_method_77_code, 2, none, false, 1),
  (11, ⟨"NineNames", "firstWithPlace", "(I)I"⟩, prog_1_method_78_code, 5, (some .int), false, 1),
  (11, ⟨"NineNames", "tell", "(JJ)V"⟩, prog_1_method_79_code, 12, none, false, 2),
  (11, ⟨"NineNames", "choose", "(II)J"⟩, prog_1_method_80_code, 5, (some .long), true, 2),
  (11, ⟨"NineNames", "power", "(II)J"⟩, prog_1_method_81_code, 5, (some .long), true, 2),
  (12, ⟨"NineNamesModel", "<init>", "()V"⟩, prog_14_method_1_code, 2, none, false, 0),
  (12, ⟨"NineNamesModel", "status", "()I"⟩, prog_14_method_3_code, 1, (some .int), false, 0),
  (12, ⟨"NineNamesModel", "top", "()J"⟩, prog_14_method_4_code, 1, (some .long), false, 0),
  (12, ⟨"NineNamesModel", "bottom", "()J"⟩, prog_14_method_5_code, 1, (some .long), false, 0),
  (12, ⟨"NineNamesModel", "refuse", "(I)I"⟩, prog_14_method_6_code, 2, (some .int), false, 1),
  (12, ⟨"NineNamesModel", "no", "(I)Z"⟩, prog_14_method_7_code, 2, (some .boolean), false, 1)]
def zMt_4 : List (Nat × MethodName × ByteArray × Nat × Option FieldType × Bool × Nat) := [(12, ⟨"NineNamesModel", "isIn", "(JJJ)Z"⟩, prog_14_method_8_code, 6, (some .boolean), true, 3),
  (12, ⟨"NineNamesModel", "fraction", "(JJ)Z"⟩, prog_14_method_9_code, 11, (some .boolean), false, 2),
  (12, ⟨"NineNamesModel", "cut", "(IJ)J"⟩, prog_14_method_10_code, 3, (some .long), true, 2),
  (12, ⟨"NineNamesModel", "tray", "(III)Z"⟩, prog_14_method_11_code, 5, (some .boolean), false, 3),
  (12, ⟨"NineNamesModel", "trayed", "(I)I"⟩, prog_14_method_12_code, 2, (some .int), false, 1),
  (12, ⟨"NineNamesModel", "placed", "(II)I"⟩, prog_14_method_13_code, 4, (some .int), false, 2),
  (12, ⟨"NineNamesModel", "write", "(IIJ)Z"⟩, prog_14_method_14_code, 5, (some .boolean), false, 3),
  (12, ⟨"NineNamesModel", "read", "(II)J"⟩, prog_14_method_15_code, 3, (some .long), false, 2),
  (12, ⟨"NineNamesModel", "pour", "(IIIII)Z"⟩, prog_14_method_16_code, 9, (some .boolean), false, 5),
  (12, ⟨"NineNamesModel", "numberOf", "(II)J"⟩, prog_14_method_17_code, 3, (some .long), false, 2),
  (12, ⟨"NineNamesModel", "isTray", "(I)Z"⟩, prog_14_method_18_code, 2, (some .boolean), false, 1),
  (12, ⟨"NineNamesModel", "has", "(II)Z"⟩, prog_14_method_19_code, 2, (some .boolean), true, 2),
  (12, ⟨"NineNamesModel", "sizeOf", "(I)I"⟩, prog_14_method_20_code, 3, (some .int), true, 1),
  (12, ⟨"NineNamesModel", "look2", "(I)I"⟩, prog_14_method_21_code, 2, (some .int), false, 1),
  (12, ⟨"NineNamesModel", "isLetter", "(I)Z"⟩, prog_14_method_22_code, 1, (some .boolean), true, 1),
  (12, ⟨"NineNamesModel", "isDigit", "(I)Z"⟩, prog_14_method_23_code, 1, (some .boolean), true, 1),
  (12, ⟨"NineNamesModel", "isSignByte", "(I)Z"⟩, prog_14_method_24_code, 2, (some .boolean), false, 1),
  (12, ⟨"NineNamesModel", "advance", "()V"⟩, prog_14_method_25_code, 2, none, false, 0),
  (12, ⟨"NineNamesModel", "isSign", "(I)Z"⟩, prog_14_method_26_code, 2, (some .boolean), false, 1),
  (12, ⟨"NineNamesModel", "spelled", "(IIIIII)J"⟩, prog_14_method_27_code, 8, (some .long), true, 6),
  (12, ⟨"NineNamesModel", "isWord", "(J)Z"⟩, prog_14_method_28_code, 3, (some .boolean), false, 1),
  (12, ⟨"NineNamesModel", "isMost", "()Z"⟩, prog_14_method_29_code, 1, (some .boolean), false, 0),
  (12, ⟨"NineNamesModel", "isLife", "()Z"⟩, prog_14_method_30_code, 1, (some .boolean), false, 0),
  (12, ⟨"NineNamesModel", "isNameWord", "()Z"⟩, prog_14_method_31_code, 1, (some .boolean), false, 0),
  (12, ⟨"NineNamesModel", "isWorth", "()Z"⟩, prog_14_method_32_code, 1, (some .boolean), false, 0),
  (12, ⟨"NineNamesModel", "isPerson", "()Z"⟩, prog_14_method_33_code, 1, (some .boolean), false, 0),
  (12, ⟨"NineNamesModel", "isBorn", "()Z"⟩, prog_14_method_34_code, 1, (some .boolean), false, 0),
  (12, ⟨"NineNamesModel", "isOf", "()Z"⟩, prog_14_method_35_code, 1, (some .boolean), false, 0),
  (12, ⟨"NineNamesModel", "isCoins", "()Z"⟩, prog_14_method_36_code, 1, (some .boolean), false, 0),
  (12, ⟨"NineNamesModel", "isMiser", "()Z"⟩, prog_14_method_37_code, 1, (some .boolean), false, 0),
  (12, ⟨"NineNamesModel", "isChild", "()Z"⟩, prog_14_method_38_code, 1, (some .boolean), false, 0),
  (12, ⟨"NineNamesModel", "isLikes", "()Z"⟩, prog_14_method_39_code, 1, (some .boolean), false, 0),
  (12, ⟨"NineNamesModel", "isWaits", "()Z"⟩, prog_14_method_40_code, 1, (some .boolean), false, 0),
  (12, ⟨"NineNamesModel", "isFor", "()Z"⟩, prog_14_method_41_code, 1, (some .boolean), false, 0),
  (12, ⟨"NineNamesModel", "stepWord", "()I"⟩, prog_14_method_42_code, 1, (some .int), false, 0),
  (12, ⟨"NineNamesModel", "testWord", "()I"⟩, prog_14_method_43_code, 1, (some .int), false, 0),
  (12, ⟨"NineNamesModel", "isEnd", "()Z"⟩, prog_14_method_44_code, 1, (some .boolean), false, 0),
  (12, ⟨"NineNamesModel", "isKept", "()Z"⟩, prog_14_method_45_code, 1, (some .boolean), false, 0),
  (12, ⟨"NineNamesModel", "isName", "()Z"⟩, prog_14_method_46_code, 1, (some .boolean), false, 0),
  (12, ⟨"NineNamesModel", "fail", "(II)V"⟩, prog_14_method_47_code, 3, none, false, 2),
  (12, ⟨"NineNamesModel", "amiss", "()V"⟩, prog_14_method_48_code, 1, none, false, 0),
  (12, ⟨"NineNamesModel", "must", "(Z)V"⟩, prog_14_method_49_code, 2, none, false, 1),
  (12, ⟨"NineNamesModel", "count", "(II)I"⟩, prog_14_method_50_code, 4, (some .int), false, 2),
  (12, ⟨"NineNamesModel", "behindWord", "(ZII)I"⟩, prog_14_method_51_code, 4, (some .int), false, 3),
  (12, ⟨"NineNamesModel", "perhaps", "(Z)Z"⟩, prog_14_method_52_code, 2, (some .boolean), false, 1),
  (12, ⟨"NineNamesModel", "feed", "(IIIII)I"⟩, prog_14_method_53_code, 6, (some .int), false, 5),
  (12, ⟨"NineNamesModel", "lay", "(I)V"⟩, prog_14_method_54_code, 3, none, false, 1),
  (12, ⟨"NineNamesModel", "starts", "(II)Z"⟩, prog_14_method_55_code, 3, (some .boolean), false, 2),
  (12, ⟨"NineNamesModel", "isWell", "()Z"⟩, prog_14_method_56_code, 1, (some .boolean), false, 0),
  (12, ⟨"NineNamesModel", "fault", "(I)I"⟩, prog_14_method_57_code, 2, (some .int), false, 1),
  (12, ⟨"NineNamesModel", "empties", "(I)V"⟩, prog_14_method_58_code, 4, none, false, 1),
  (12, ⟨"NineNamesModel", "bares", "(II)V"⟩, prog_14_method_59_code, 3, none, false, 2),
  (12, ⟨"NineNamesModel", "named", "(II)I"⟩, prog_14_method_60_code, 4, (some .int), false, 2),
  (12, ⟨"NineNamesModel", "readNew", "(II)I"⟩, prog_14_method_61_code, 4, (some .int), false, 2),
  (12, ⟨"NineNamesModel", "told", "(II)I"⟩, prog_14_method_62_code, 4, (some .int), false, 2),
  (12, ⟨"NineNamesModel", "readTold", "(II)I"⟩, prog_14_method_63_code, 4, (some .int), false, 2),
  (12, ⟨"NineNamesModel", "readOnce", "(IIII)V"⟩, prog_14_method_64_code, 5, none, false, 4),
  (12, ⟨"NineNamesModel", "readSurname", "()V"⟩, prog_14_method_65_code, 2, none, false, 0),
  (12, ⟨"NineNamesModel", "bornBy", "(II)I"⟩, prog_14_method_66_code, 5, (some .int), false, 2),
  (12, ⟨"NineNamesModel", "readPerson", "()V"⟩, prog_14_method_67_code, 3, none, false, 0)]
def zMt_5 : List (Nat × MethodName × ByteArray × Nat × Option FieldType × Bool × Nat) := [(12, ⟨"NineNamesModel", "readChild", "()V"⟩, prog_14_method_68_code, 4, none, false, 0),
  (12, ⟨"NineNamesModel", "readWed", "()V"⟩, prog_14_method_69_code, 3, none, false, 0),
  (12, ⟨"NineNamesModel", "readLikes", "()V"⟩, prog_14_method_70_code, 5, none, false, 0),
  (12, ⟨"NineNamesModel", "isQueued", "(II)Z"⟩, prog_14_method_71_code, 4, (some .boolean), false, 2),
  (12, ⟨"NineNamesModel", "readWaits", "()V"⟩, prog_14_method_72_code, 3, none, false, 0),
  (12, ⟨"NineNamesModel", "readPart", "()V"⟩, prog_14_method_73_code, 1, none, false, 0),
  (12, ⟨"NineNamesModel", "town", "(I)I"⟩, prog_14_method_74_code, 2, (some .int), false, 1),
  (12, ⟨"NineNamesModel", "readTest", "(I)V"⟩, prog_14_method_75_code, 3, none, false, 1),
  (12, ⟨"NineNamesModel", "readRest", "(I)V"⟩, prog_14_method_76_code, 3, none, false, 1),
  (12, ⟨"NineNamesModel", "readStep", "(I)V"⟩, prog_14_method_77_code, 5, none, false, 1),
  (12, ⟨"NineNamesModel", "centuries", "(I)I"⟩, prog_14_method_78_code, 3, (some .int), false, 1),
  (12, ⟨"NineNamesModel", "isPersonAt", "(I)Z"⟩, prog_14_method_79_code, 2, (some .boolean), false, 1),
  (12, ⟨"NineNamesModel", "isSurname", "(I)Z"⟩, prog_14_method_80_code, 2, (some .boolean), false, 1),
  (12, ⟨"NineNamesModel", "lives", "(I)Z"⟩, prog_14_method_81_code, 2, (some .boolean), false, 1),
  (12, ⟨"NineNamesModel", "living", "()I"⟩, prog_14_method_82_code, 3, (some .int), false, 0),
  (12, ⟨"NineNamesModel", "bearers", "(I)I"⟩, prog_14_method_83_code, 4, (some .int), false, 1),
  (12, ⟨"NineNamesModel", "freeOf", "(I)I"⟩, prog_14_method_84_code, 2, (some .int), false, 1),
  (12, ⟨"NineNamesModel", "dashes", "()I"⟩, prog_14_method_85_code, 1, (some .int), false, 0),
  (12, ⟨"NineNamesModel", "ageOf", "(I)I"⟩, prog_14_method_86_code, 2, (some .int), false, 1),
  (12, ⟨"NineNamesModel", "that", "(II)I"⟩, prog_14_method_87_code, 5, (some .int), false, 2),
  (12, ⟨"NineNamesModel", "allCoins", "()I"⟩, prog_14_method_88_code, 3, (some .int), false, 0),
  (12, ⟨"NineNamesModel", "many", "(I)I"⟩, prog_14_method_89_code, 2, (some .int), false, 1),
  (12, ⟨"NineNamesModel", "surname", "(II)I"⟩, prog_14_method_90_code, 3, (some .int), false, 2),
  (12, ⟨"NineNamesModel", "person", "(II)I"⟩, prog_14_method_91_code, 4, (some .int), false, 2),
  (12, ⟨"NineNamesModel", "waiting", "(II)I"⟩, prog_14_method_92_code, 3, (some .int), false, 2),
  (12, ⟨"NineNamesModel", "liked", "(II)I"⟩, prog_14_method_93_code, 3, (some .int), false, 2),
  (12, ⟨"NineNamesModel", "copyNames", "(I)I"⟩, prog_14_method_94_code, 3, (some .int), false, 1),
  (12, ⟨"NineNamesModel", "placeOf", "(I)I"⟩, prog_14_method_95_code, 3, (some .int), false, 1),
  (12, ⟨"NineNamesModel", "drops", "(I)V"⟩, prog_14_method_96_code, 3, none, false, 1),
  (12, ⟨"NineNamesModel", "settles", "()V"⟩, prog_14_method_97_code, 4, none, false, 0),
  (12, ⟨"NineNamesModel", "unweds", "(I)V"⟩, prog_14_method_98_code, 3, none, false, 1),
  (12, ⟨"NineNamesModel", "dies", "(I)V"⟩, prog_14_method_99_code, 3, none, false, 1),
  (12, ⟨"NineNamesModel", "goesYear", "()I"⟩, prog_14_method_100_code, 3, (some .int), false, 0),
  (12, ⟨"NineNamesModel", "year", "(I)I"⟩, prog_14_method_101_code, 4, (some .int), false, 1),
  (12, ⟨"NineNamesModel", "die", "(I)I"⟩, prog_14_method_102_code, 2, (some .int), false, 1),
  (12, ⟨"NineNamesModel", "isGrown", "(I)Z"⟩, prog_14_method_103_code, 2, (some .boolean), false, 1),
  (12, ⟨"NineNamesModel", "areParents", "(II)Z"⟩, prog_14_method_104_code, 3, (some .boolean), false, 2),
  (12, ⟨"NineNamesModel", "births", "(II)I"⟩, prog_14_method_105_code, 5, (some .int), false, 2),
  (12, ⟨"NineNamesModel", "birth", "(II)I"⟩, prog_14_method_106_code, 3, (some .int), false, 2),
  (12, ⟨"NineNamesModel", "isChildOf", "(II)Z"⟩, prog_14_method_107_code, 3, (some .boolean), false, 2),
  (12, ⟨"NineNamesModel", "areNear", "(II)Z"⟩, prog_14_method_108_code, 5, (some .boolean), false, 2),
  (12, ⟨"NineNamesModel", "isPlace", "(I)Z"⟩, prog_14_method_109_code, 2, (some .boolean), false, 1),
  (12, ⟨"NineNamesModel", "canTake", "(II)Z"⟩, prog_14_method_110_code, 3, (some .boolean), false, 2),
  (12, ⟨"NineNamesModel", "canBeWed", "(III)Z"⟩, prog_14_method_111_code, 4, (some .boolean), false, 3),
  (12, ⟨"NineNamesModel", "weds", "(III)Z"⟩, prog_14_method_112_code, 4, (some .boolean), false, 3),
  (12, ⟨"NineNamesModel", "wed", "(III)Z"⟩, prog_14_method_113_code, 4, (some .boolean), false, 3),
  (12, ⟨"NineNamesModel", "part", "(II)Z"⟩, prog_14_method_114_code, 3, (some .boolean), false, 2),
  (12, ⟨"NineNamesModel", "canSell", "(II)Z"⟩, prog_14_method_115_code, 4, (some .boolean), false, 2),
  (12, ⟨"NineNamesModel", "sells", "(II)Z"⟩, prog_14_method_116_code, 4, (some .boolean), false, 2),
  (12, ⟨"NineNamesModel", "sell", "(II)I"⟩, prog_14_method_117_code, 4, (some .int), false, 2),
  (12, ⟨"NineNamesModel", "swaps", "(II)Z"⟩, prog_14_method_118_code, 4, (some .boolean), false, 2),
  (12, ⟨"NineNamesModel", "swap", "(II)Z"⟩, prog_14_method_119_code, 3, (some .boolean), false, 2),
  (12, ⟨"NineNamesModel", "duel", "(II)I"⟩, prog_14_method_120_code, 5, (some .int), false, 2),
  (12, ⟨"NineNamesModel", "abroad", "(IZ)Z"⟩, prog_14_method_121_code, 3, (some .boolean), false, 2),
  (12, ⟨"NineNamesModel", "ask", "(II)I"⟩, prog_14_method_122_code, 4, (some .int), false, 2),
  (12, ⟨"NineNamesModel", "leave", "(I)Z"⟩, prog_14_method_123_code, 3, (some .boolean), false, 1),
  (12, ⟨"NineNamesModel", "earn", "(II)I"⟩, prog_14_method_124_code, 3, (some .int), false, 2),
  (12, ⟨"NineNamesModel", "rule", "(I)Z"⟩, prog_14_method_125_code, 2, (some .boolean), false, 1),
  (12, ⟨"NineNamesModel", "wish", "(III)Z"⟩, prog_14_method_126_code, 8, (some .boolean), false, 3),
  (12, ⟨"NineNamesModel", "keeps", "()V"⟩, prog_14_method_127_code, 2, none, false, 0)]
def zMt_6 : List (Nat × MethodName × ByteArray × Nat × Option FieldType × Bool × Nat) := [(12, ⟨"NineNamesModel", "gives", "()V"⟩, prog_14_method_128_code, 2, none, false, 0),
  (12, ⟨"NineNamesModel", "turn", "(I)I"⟩, prog_14_method_129_code, 6, (some .int), false, 1),
  (12, ⟨"NineNamesModel", "gone", "(I)I"⟩, prog_14_method_130_code, 4, (some .int), false, 1),
  (12, ⟨"NineNamesModel", "livingIn", "(I)I"⟩, prog_14_method_131_code, 3, (some .int), false, 1),
  (12, ⟨"NineNamesModel", "bearsIn", "(II)I"⟩, prog_14_method_132_code, 4, (some .int), false, 2),
  (12, ⟨"NineNamesModel", "dashesIn", "(I)I"⟩, prog_14_method_133_code, 3, (some .int), false, 1),
  (12, ⟨"NineNamesModel", "luck", "(III)Z"⟩, prog_14_method_134_code, 10, (some .boolean), false, 3),
  (12, ⟨"NineNamesModel", "canWed", "(III)I"⟩, prog_14_method_135_code, 4, (some .int), false, 3),
  (12, ⟨"NineNamesModel", "mostCouples", "(I)I"⟩, prog_14_method_136_code, 8, (some .int), false, 1),
  (12, ⟨"NineNamesModel", "couples", "()I"⟩, prog_14_method_137_code, 1, (some .int), false, 0),
  (12, ⟨"NineNamesModel", "couplesOf", "(I)I"⟩, prog_14_method_138_code, 2, (some .int), false, 1),
  (12, ⟨"NineNamesModel", "match", "(I)I"⟩, prog_14_method_139_code, 4, (some .int), false, 1),
  (12, ⟨"NineNamesModel", "suitors", "(I)I"⟩, prog_14_method_140_code, 4, (some .int), false, 1),
  (12, ⟨"NineNamesModel", "firstWith", "(II)I"⟩, prog_14_method_141_code, 4, (some .int), false, 2),
  (12, ⟨"NineNamesModel", "pointOf", "(II)I"⟩, prog_14_method_142_code, 5, (some .int), false, 2),
  (12, ⟨"NineNamesModel", "ringOf", "(I)I"⟩, prog_14_method_143_code, 5, (some .int), false, 1),
  (12, ⟨"NineNamesModel", "laysRings", "()I"⟩, prog_14_method_144_code, 6, (some .int), false, 0),
  (12, ⟨"NineNamesModel", "ringed", "(I)I"⟩, prog_14_method_145_code, 2, (some .int), false, 1),
  (12, ⟨"NineNamesModel", "rings", "()I"⟩, prog_14_method_146_code, 1, (some .int), false, 0),
  (12, ⟨"NineNamesModel", "trade", "()I"⟩, prog_14_method_147_code, 4, (some .int), false, 0),
  (12, ⟨"NineNamesModel", "content", "()I"⟩, prog_14_method_148_code, 3, (some .int), false, 0),
  (12, ⟨"NineNamesModel", "kin", "(II)I"⟩, prog_14_method_149_code, 8, (some .int), false, 2),
  (12, ⟨"NineNamesModel", "children", "(I)I"⟩, prog_14_method_150_code, 4, (some .int), false, 1),
  (12, ⟨"NineNamesModel", "elders", "(I)I"⟩, prog_14_method_151_code, 6, (some .int), false, 1),
  (12, ⟨"NineNamesModel", "near", "(II)I"⟩, prog_14_method_152_code, 3, (some .int), false, 2),
  (12, ⟨"NineNamesModel", "couldBeBy", "(III)Z"⟩, prog_14_method_153_code, 5, (some .boolean), false, 3),
  (12, ⟨"NineNamesModel", "parents", "(I)I"⟩, prog_14_method_154_code, 5, (some .int), false, 1),
  (12, ⟨"NineNamesModel", "couldBe", "(III)I"⟩, prog_14_method_155_code, 4, (some .int), false, 3),
  (12, ⟨"NineNamesModel", "wealthOf", "(I)I"⟩, prog_14_method_156_code, 2, (some .int), false, 1),
  (12, ⟨"NineNamesModel", "wealth", "(I)I"⟩, prog_14_method_157_code, 2, (some .int), false, 1),
  (12, ⟨"NineNamesModel", "richest", "()I"⟩, prog_14_method_158_code, 3, (some .int), false, 0),
  (12, ⟨"NineNamesModel", "buyers", "(I)I"⟩, prog_14_method_159_code, 5, (some .int), false, 1),
  (12, ⟨"NineNamesModel", "anew", "(II)I"⟩, prog_14_method_160_code, 5, (some .int), false, 2),
  (12, ⟨"NineNamesModel", "recount", "(I)I"⟩, prog_14_method_161_code, 6, (some .int), false, 1),
  (12, ⟨"NineNamesModel", "draw", "(I)I"⟩, prog_14_method_162_code, 2, (some .int), false, 1),
  (12, ⟨"NineNamesModel", "anyYears", "(I)Z"⟩, prog_14_method_163_code, 3, (some .boolean), false, 1),
  (12, ⟨"NineNamesModel", "isDying", "(I)Z"⟩, prog_14_method_164_code, 2, (some .boolean), false, 1),
  (12, ⟨"NineNamesModel", "anyLiving", "()I"⟩, prog_14_method_165_code, 4, (some .int), false, 0),
  (12, ⟨"NineNamesModel", "isGiven", "(II)Z"⟩, prog_14_method_166_code, 3, (some .boolean), false, 2),
  (12, ⟨"NineNamesModel", "does", "(I)Z"⟩, prog_14_method_167_code, 5, (some .boolean), false, 1),
  (12, ⟨"NineNamesModel", "isSo", "(I)Z"⟩, prog_14_method_168_code, 5, (some .boolean), false, 1),
  (12, ⟨"NineNamesModel", "doOne", "(I)V"⟩, prog_14_method_169_code, 5, none, false, 1),
  (12, ⟨"NineNamesModel", "doAll", "(II)V"⟩, prog_14_method_170_code, 4, none, false, 2),
  (12, ⟨"NineNamesModel", "runsCenturies", "(I)V"⟩, prog_14_method_171_code, 2, none, false, 1),
  (12, ⟨"NineNamesModel", "live", "(I)I"⟩, prog_14_method_172_code, 2, (some .int), false, 1),
  (12, ⟨"NineNamesModel", "lived", "(I)I"⟩, prog_14_method_173_code, 2, (some .int), false, 1),
  (12, ⟨"NineNamesModel", "mean", "(II)Z"⟩, prog_14_method_174_code, 7, (some .boolean), false, 2),
  (12, ⟨"NineNamesModel", "copy", "(II)V"⟩, prog_14_method_175_code, 4, none, false, 2),
  (12, ⟨"NineNamesModel", "mark", "()I"⟩, prog_14_method_176_code, 1, (some .int), false, 0),
  (12, ⟨"NineNamesModel", "back", "()I"⟩, prog_14_method_177_code, 1, (some .int), false, 0),
  (13, ⟨"java/lang/String", "length", "()I"⟩, prog_17_method_54_code, 1, (some .int), false, 0),
  (13, ⟨"java/lang/String", "charAt", "(I)C"⟩, prog_17_method_56_code, 2, (some .char), false, 1),
  (13, ⟨"java/lang/String", "coder", "()B"⟩, prog_17_method_152_code, 1, (some .byte), false, 0),
  (13, ⟨"java/lang/String", "isLatin1", "()Z"⟩, prog_17_method_154_code, 1, (some .boolean), false, 0),
  (13, ⟨"java/lang/String", "checkIndex", "(II)V"⟩, prog_17_method_155_code, 2, none, true, 2),
  (14, ⟨"NineNamesLaw", "law", "([I)Z"⟩, code, 4, (some .boolean), true, 1),
  (15, ⟨"java/lang/Integer", "bitCount", "(I)I"⟩, prog_15_method_49_code, 1, (some .int), true, 1),
  (16, ⟨"java/lang/Math", "abs", "(J)J"⟩, prog_16_method_61_code, 2, (some .long), true, 1),
  (16, ⟨"java/lang/Math", "max", "(II)I"⟩, prog_16_method_65_code, 2, (some .int), true, 2),
  (16, ⟨"java/lang/Math", "min", "(II)I"⟩, prog_16_method_69_code, 2, (some .int), true, 2)]
def zMt_7 : List (Nat × MethodName × ByteArray × Nat × Option FieldType × Bool × Nat) := [(17, ⟨"java/util/Arrays", "fill", "([JJ)V"⟩, prog_21_method_101_code, 5, none, true, 2),
  (17, ⟨"java/util/Arrays", "fill", "([II)V"⟩, prog_21_method_103_code, 4, none, true, 2),
  (18, ⟨"java/lang/StringLatin1", "charAt", "([BI)C"⟩, prog_18_method_2_code, 2, (some .char), true, 2),
  (19, ⟨"jdk/internal/util/Preconditions", "checkIndex", "(IILjava/util/function/BiFunction;)I"⟩, prog_22_method_11_code, 3, (some .int), true, 3)]
def zMt : List (Nat × MethodName × ByteArray × Nat × Option FieldType × Bool × Nat) := zMt_0 ++ (zMt_1 ++ (zMt_2 ++ (zMt_3 ++ (zMt_4 ++ (zMt_5 ++ (zMt_6 ++ (zMt_7)))))))
def zFk : List (List (Nat × Nat × Nat)) := [[(11, 0, 3), (15, 0, 0), (19, 0, 1), (23, 0, 2), (38, 4, 9), (52, 0, 4), (58, 6, 0), (66, 6, 2), (79, 6, 1), (114, 7, 9), (120, 7, 4), (127, 7, 6), (130, 7, 3), (143, 4, 7)],
  [(9, 7, 15), (21, 7, 4), (35, 7, 10), (38, 7, 12)],
  [(13, 2, 8), (17, 2, 0), (21, 2, 1), (24, 2, 2), (27, 2, 3), (30, 2, 4), (33, 2, 5), (37, 2, 6), (40, 2, 7), (43, 6, 2), (46, 6, 3), (55, 6, 7), (62, 6, 4), (65, 6, 5), (89, 6, 6), (120, 7, 0), (170, 7, 4)],
  [(11, 3, 0), (17, 3, 1), (26, 3, 2)],
  [(11, 4, 0), (15, 4, 1), (19, 4, 10), (23, 4, 11), (49, 4, 2), (51, 4, 3), (57, 4, 4), (60, 4, 9), (67, 4, 5), (74, 4, 8), (90, 4, 6), (93, 4, 7), (105, 7, 9), (110, 7, 4), (117, 7, 6), (120, 7, 3)],
  [(11, 5, 0), (17, 5, 2), (26, 5, 1), (30, 5, 3), (33, 7, 4), (51, 7, 17), (58, 7, 12)],
  [(11, 6, 3), (15, 6, 4), (18, 6, 5), (21, 6, 6), (24, 6, 7), (27, 6, 0), (31, 6, 1), (35, 6, 2)],
  [(11, 7, 6), (15, 7, 7), (19, 7, 8), (22, 7, 9), (25, 7, 10), (28, 7, 11), (31, 7, 12), (34, 7, 13), (37, 7, 14), (40, 7, 15), (43, 7, 16), (46, 7, 17), (49, 7, 18), (55, 7, 19), (62, 7, 0), (66, 7, 1), (69, 7, 2), (72, 7, 3), (75, 7, 4), (78, 7, 5), (81, 3, 2), (182, 3, 1), (189, 3, 0)],
  [(9, 8, 0), (15, 8, 1), (36, 4, 9), (65, 7, 4), (71, 8, 2), (81, 7, 0), (84, 7, 1), (87, 7, 2), (97, 7, 3), (103, 4, 8), (111, 7, 7), (142, 7, 12), (145, 7, 13), (148, 7, 5), (167, 7, 14), (170, 7, 17), (181, 7, 19)],
  [(11, 9, 0), (15, 9, 1), (20, 9, 2)],
  [(11, 10, 0), (17, 10, 1), (21, 7, 4), (29, 7, 7), (32, 7, 12)],
  [(7, 11, 2), (16, 11, 3), (20, 11, 4), (27, 11, 6), (34, 11, 7), (38, 11, 8), (44, 11, 9), (48, 11, 10), (54, 11, 11), (58, 11, 12), (64, 11, 13), (71, 11, 14), (75, 11, 15), (79, 11, 16), (83, 11, 0), (87, 11, 1), (138, 11, 5), (164, 7, 4), (179, 6, 1), (182, 4, 10), (185, 4, 11), (188, 7, 3), (198, 7, 0), (201, 7, 1), (204, 7, 2), (206, 7, 19), (210, 3, 2), (215, 7, 14), (223, 7, 16), (232, 7, 7), (241, 7, 8), (250, 7, 10), (256, 7, 12), (259, 7, 13), (262, 7, 15), (265, 7, 5), (271, 3, 0), (274, 3, 1), (277, 7, 17), (409, 5, 0), (412, 5, 1), (450, 6, 0), (458, 2, 0), (459, 2, 6), (462, 2, 1), (465, 2, 2), (468, 2, 3), (471, 2, 4), (474, 2, 5), (477, 11, 17)],
  [(7, 12, 3), (13, 12, 4), (17, 12, 5), (20, 12, 6), (24, 12, 7), (28, 12, 10), (32, 12, 11), (35, 12, 20), (38, 12, 21), (41, 12, 22), (44, 12, 23), (47, 12, 27), (50, 12, 28), (53, 12, 29), (56, 12, 30), (59, 12, 32), (62, 12, 33), (69, 12, 1), (72, 12, 0), (75, 12, 2), (112, 12, 9), (115, 12, 16), (118, 12, 15), (124, 12, 14), (130, 12, 19), (137, 12, 18), (143, 12, 17), (210, 12, 12), (213, 12, 13), (233, 12, 8), (254, 12, 25), (317, 12, 26), (461, 12, 31), (482, 12, 36), (486, 12, 41), (489, 12, 39), (495, 12, 40), (510, 12, 37), (513, 12, 35), (517, 12, 42), (520, 12, 38), (540, 12, 34), (547, 12, 24)],
  [(9, 13, 0), (15, 13, 1)],
  [],
  [],
  [],
  [],
  [],
  []]
def zMk : List (List (Nat × Nat × Nat)) := [[(3, 3, 0), (27, 0, 71), (32, 0, 50), (42, 0, 2), (45, 0, 5), (49, 0, 56), (55, 0, 54), (62, 0, 73), (69, 0, 74), (73, 0, 45), (76, 1, 3), (82, 0, 53), (85, 1, 4), (88, 0, 6), (91, 0, 8), (95, 0, 11), (98, 0, 13), (101, 0, 14), (104, 0, 7), (107, 0, 12), (110, 0, 57), (123, 0, 60), (133, 0, 9), (137, 0, 10), (140, 0, 52)],
  [(15, 1, 15), (25, 1, 16), (29, 1, 21), (32, 1, 17)],
  [(5, 3, 0), (51, 0, 25), (58, 0, 26), (68, 0, 29), (72, 0, 119), (77, 1, 27), (81, 0, 85), (85, 0, 93), (92, 1, 28), (96, 0, 30), (100, 0, 31), (103, 0, 32), (107, 1, 33), (110, 1, 34), (113, 1, 35), (116, 0, 36), (123, 0, 103), (126, 1, 416), (131, 0, 84), (135, 0, 105), (138, 0, 107), (141, 0, 83), (145, 0, 108), (148, 0, 110), (151, 0, 112), (154, 0, 113), (157, 0, 114), (159, 0, 115), (162, 0, 116), (165, 0, 90)],
  [(3, 3, 0), (20, 4, 0)],
  [(3, 3, 0), (28, 0, 410), (34, 0, 411), (40, 1, 419), (46, 1, 418), (54, 0, 45), (63, 0, 46), (70, 0, 47), (78, 1, 62), (82, 0, 48), (85, 0, 49), (97, 0, 54), (101, 0, 53), (113, 0, 60), (123, 0, 51)],
  [(3, 3, 0), (20, 1, 421), (36, 0, 86), (40, 0, 65), (44, 0, 67), (47, 0, 66), (54, 0, 100), (61, 0, 91), (65, 1, 98), (68, 0, 68), (71, 0, 69)],
  [(5, 3, 0), (38, 4, 0)],
  [(3, 3, 0), (54, 2, 37), (59, 0, 76), (84, 4, 0), (90, 0, 38), (94, 0, 80), (98, 0, 84), (102, 0, 94), (106, 0, 91), (110, 1, 418), (116, 0, 100), (119, 0, 104), (123, 0, 88), (126, 0, 105), (130, 0, 87), (133, 0, 119), (136, 0, 41), (139, 0, 106), (142, 0, 89), (145, 0, 109), (150, 0, 79), (154, 0, 93), (157, 0, 107), (161, 1, 18), (167, 0, 111), (170, 1, 419), (173, 0, 86), (176, 0, 85), (179, 0, 39), (185, 0, 42)],
  [(3, 3, 0), (19, 0, 76), (24, 0, 50), (30, 0, 122), (33, 0, 56), (40, 0, 123), (44, 0, 125), (47, 0, 126), (50, 0, 131), (53, 0, 132), (56, 0, 134), (59, 0, 135), (62, 0, 54), (68, 0, 53), (74, 0, 45), (77, 0, 57), (90, 0, 51), (93, 0, 61), (100, 0, 124), (107, 0, 78), (115, 0, 83), (118, 0, 55), (121, 0, 79), (125, 0, 127), (128, 0, 128), (131, 0, 129), (134, 0, 59), (138, 0, 93), (151, 0, 58), (154, 0, 130), (157, 0, 80), (161, 0, 133), (164, 0, 112), (173, 0, 101), (177, 0, 102), (185, 0, 39), (190, 0, 40)],
  [(3, 3, 0), (23, 1, 421), (29, 1, 420), (32, 1, 147), (36, 4, 0)],
  [(3, 3, 0), (25, 0, 110), (35, 0, 90), (39, 0, 91), (43, 1, 149), (47, 0, 152), (51, 1, 98), (54, 1, 418)],
  [(1, 3, 0), (15, 2, 136), (26, 2, 43), (33, 2, 75), (43, 2, 70), (53, 2, 23), (63, 2, 148), (70, 2, 63), (90, 1, 137), (94, 1, 138), (97, 0, 219), (100, 0, 143), (104, 0, 218), (108, 0, 222), (112, 0, 144), (116, 0, 217), (120, 0, 145), (124, 0, 139), (127, 0, 140), (130, 0, 142), (134, 0, 146), (141, 0, 224), (145, 0, 44), (151, 2, 120), (154, 0, 121), (157, 0, 77), (161, 0, 71), (167, 0, 215), (172, 2, 0), (175, 0, 1), (176, 0, 72), (191, 0, 90), (195, 0, 92), (219, 0, 94), (226, 0, 95), (229, 0, 81), (235, 0, 93), (238, 0, 91), (244, 0, 216), (247, 0, 82), (253, 0, 88), (268, 0, 84), (280, 0, 100), (283, 0, 221), (286, 0, 141), (289, 0, 103), (292, 0, 105), (295, 0, 119), (298, 1, 416), (303, 0, 225), (307, 0, 107), (310, 0, 83), (313, 0, 108), (316, 1, 226), (319, 0, 110), (322, 0, 112), (325, 0, 220), (328, 0, 106), (331, 0, 113), (334, 0, 114), (337, 0, 115), (340, 0, 116), (344, 0, 117), (347, 0, 99), (350, 0, 87), (353, 0, 118), (356, 0, 41), (359, 0, 40), (362, 0, 39), (365, 1, 227), (368, 0, 223), (371, 0, 102), (374, 0, 104), (377, 0, 85), (380, 1, 228), (383, 0, 229), (386, 1, 232), (389, 1, 233), (392, 0, 231), (396, 0, 151), (400, 1, 150), (403, 1, 149), (406, 0, 64), (413, 0, 86), (416, 1, 20), (421, 1, 17), (424, 1, 19), (427, 1, 18), (431, 1, 22), (435, 0, 96), (438, 1, 421), (444, 0, 97), (447, 0, 230), (454, 0, 24)],
  [(1, 3, 0), (65, 0, 290), (78, 1, 417), (84, 0, 239), (88, 0, 244), (92, 0, 245), (96, 1, 242), (104, 1, 240), (108, 1, 251), (121, 0, 253), (127, 1, 254), (140, 1, 255), (146, 0, 256), (149, 1, 259), (153, 0, 260), (157, 0, 261), (161, 0, 262), (164, 0, 263), (167, 0, 264), (170, 0, 265), (173, 0, 266), (176, 0, 267), (179, 0, 268), (182, 0, 269), (185, 0, 270), (188, 0, 271), (191, 0, 272), (194, 0, 273), (197, 0, 274), (201, 0, 275), (204, 0, 276), (207, 0, 277), (216, 0, 279), (220, 0, 257), (223, 0, 280), (226, 0, 281), (230, 0, 282), (236, 0, 286), (239, 0, 291), (242, 0, 278), (245, 0, 292), (248, 1, 418), (251, 0, 294), (257, 0, 293), (260, 0, 284), (264, 0, 283), (268, 0, 298), (271, 0, 295), (274, 0, 303), (277, 0, 296), (281, 0, 297), (284, 0, 299), (287, 0, 300), (290, 0, 301), (293, 0, 302), (296, 0, 304), (299, 0, 287), (302, 0, 305), (305, 0, 258), (308, 0, 288), (311, 0, 407), (314, 0, 307), (320, 0, 308), (323, 0, 309), (326, 0, 313), (329, 0, 315), (332, 1, 252), (337, 0, 238), (340, 0, 314), (343, 0, 317), (346, 0, 319), (349, 0, 320), (352, 0, 312), (355, 0, 316), (358, 0, 311), (363, 0, 318), (366, 0, 250), (369, 0, 328), (372, 0, 330), (375, 0, 327), (378, 0, 331), (381, 0, 329), (386, 0, 332), (389, 0, 335), (392, 0, 336), (395, 0, 337), (398, 0, 339), (401, 0, 341), (404, 0, 340), (407, 0, 342), (410, 0, 343), (416, 0, 344), (419, 0, 347), (422, 1, 419), (425, 0, 348), (428, 0, 350), (435, 0, 249), (439, 0, 359), (442, 0, 360), (451, 0, 241), (455, 0, 368), (458, 0, 373), (464, 0, 374), (467, 0, 375), (470, 0, 376), (473, 0, 385), (476, 0, 388), (479, 0, 392), (492, 0, 394), (498, 0, 395), (501, 0, 396), (504, 0, 397), (507, 0, 398), (523, 0, 399), (526, 0, 400), (529, 0, 402), (532, 0, 401), (537, 0, 403)],
  [(335, 0, 412), (492, 0, 413), (495, 1, 422), (1059, 1, 423)],
  [(9, 2, 153), (12, 2, 234), (13, 0, 154), (17, 0, 235), (18, 0, 155), (22, 0, 236), (23, 0, 156), (26, 0, 237), (27, 0, 157), (31, 0, 243), (34, 0, 158), (38, 0, 246), (39, 0, 159), (43, 0, 247), (44, 0, 160), (48, 0, 248), (49, 0, 161), (53, 0, 285), (54, 0, 162), (58, 0, 306), (59, 0, 163), (62, 0, 310), (63, 0, 164), (66, 0, 289), (67, 0, 165), (70, 0, 321), (71, 0, 166), (75, 0, 322), (76, 0, 167), (79, 0, 323), (80, 0, 168), (83, 0, 324), (84, 0, 169), (87, 0, 325), (88, 0, 170), (91, 0, 326), (92, 0, 171), (95, 0, 333), (96, 0, 172), (99, 0, 334), (100, 0, 173), (103, 0, 338), (104, 0, 174), (107, 0, 345), (108, 0, 175), (112, 0, 346), (113, 0, 176), (116, 0, 349), (117, 0, 177), (120, 0, 351), (121, 0, 178), (124, 0, 352), (125, 0, 179), (129, 0, 353), (130, 0, 180), (133, 0, 354), (134, 0, 181), (138, 0, 355), (139, 0, 182), (142, 0, 356), (143, 0, 183), (146, 0, 357), (147, 0, 184), (150, 0, 358), (151, 0, 185), (154, 0, 361), (155, 0, 186), (158, 0, 362), (159, 0, 187), (162, 0, 363), (163, 0, 188), (166, 0, 364), (167, 0, 189), (170, 0, 365), (171, 0, 190), (174, 0, 366), (175, 0, 191), (179, 0, 367), (180, 0, 192), (183, 0, 369), (184, 0, 193), (187, 0, 370), (188, 0, 194), (191, 0, 371), (192, 0, 195), (195, 0, 372), (196, 0, 196), (199, 0, 377), (200, 0, 197), (203, 0, 378), (204, 0, 198), (207, 0, 379), (208, 0, 199), (211, 0, 380), (212, 0, 200), (215, 0, 381), (216, 0, 201), (219, 0, 382), (220, 0, 202), (223, 0, 383), (224, 0, 203), (227, 0, 384), (228, 0, 204), (231, 0, 386), (232, 0, 205), (235, 0, 387), (236, 0, 206), (239, 0, 389), (240, 0, 207), (243, 0, 390), (244, 0, 208), (247, 0, 391), (248, 0, 209), (251, 0, 393), (252, 0, 210), (255, 0, 404), (256, 0, 211), (259, 0, 405), (260, 0, 212), (263, 0, 406), (264, 0, 213), (267, 0, 408), (268, 0, 214), (271, 0, 409)],
  [],
  [],
  [],
  [(9, 1, 414)],
  []]
def zKk : List (List (Nat × Int32)) := [[],
  [],
  [(169, 65536)],
  [],
  [],
  [],
  [],
  [],
  [],
  [],
  [],
  [],
  [(485, 65536)],
  [],
  [],
  [(265, 1431655765), (266, 858993459), (267, 252645135)],
  [],
  [],
  [],
  []]
def zJk : List (List (Nat × Int64)) := [[],
  [],
  [],
  [],
  [(38, 32), (88, (-1))],
  [],
  [],
  [(148, (-1))],
  [],
  [],
  [],
  [],
  [(100, (-1)), (102, 3), (133, 32), (135, 96), (335, 10), (361, 9), (384, 99), (414, 2), (431, 999), (433, 6), (445, 150), (447, 12), (449, 16), (535, 9999), (543, 4), (545, 20)],
  [],
  [(32, 4294967295)],
  [],
  [],
  [],
  [],
  []]
def zGk : List (List (Nat × Nat)) := [[],
  [],
  [],
  [],
  [],
  [],
  [],
  [],
  [],
  [],
  [],
  [],
  [],
  [(38, 0), (1053, 1)],
  [],
  [],
  [],
  [],
  [],
  []]
def zCk : List (List (Nat × Nat)) := [[],
  [],
  [],
  [],
  [],
  [],
  [],
  [(52, 3)],
  [],
  [],
  [],
  [(13, 9), (24, 4), (31, 7), (41, 6), (51, 2), (61, 10), (68, 5), (149, 8), (170, 0)],
  [],
  [],
  [(7, 11), (10, 12)],
  [],
  [],
  [],
  [],
  []]
/-! code -/
