/-! names and fields of the classes, as printed for this claim; the tables of the abstract machine, by program (wip/whole/gen.py) -/
def RX0 : String := "NineNames$CenturiesText"
def TX0 : u_T := fun k => match k with
  | 0 => ("NineNames$CenturiesText", "reader", "LNineNames$Reader;", true)
  | 1 => ("NineNames$CenturiesText", "town", "LNineNames$Town;", true)
  | 2 => ("NineNames$CenturiesText", "script", "LNineNames$Script;", true)
  | 3 => ("NineNames$CenturiesText", "open", "[I", true)
  | _ => ("NineNames$CenturiesText", "depth", "I", false)
def tyX0 : Nat → FieldType := fun k => match k with
  | 0 => .object "NineNames$Reader"
  | 1 => .object "NineNames$Town"
  | 2 => .object "NineNames$Script"
  | 3 => .array .int
  | _ => .int
abbrev wsX00 : List Cond := u_ws RX0 TX0 5
theorem nmX0 : ∀ a, a < 5 → ∀ b, b < 5 → a ≠ b → (TX0 a).2.1 ≠ (TX0 b).2.1 := by decide +kernel
theorem tyX0_ok : ∀ k, k < 5 → parseFieldDescriptor (TX0 k).2.2.1 = some (tyX0 k) := by decide +kernel
def RX1 : String := "NineNames$Kin"
def TX1 : u_T := fun k => match k with
  | _ => ("", "", "", false)
def tyX1 : Nat → FieldType := fun k => match k with
  | _ => .int
abbrev wsX10 : List Cond := u_ws RX1 TX1 0
theorem nmX1 : ∀ a, a < 0 → ∀ b, b < 0 → a ≠ b → (TX1 a).2.1 ≠ (TX1 b).2.1 := by decide +kernel
theorem tyX1_ok : ∀ k, k < 0 → parseFieldDescriptor (TX1 k).2.2.1 = some (tyX1 k) := by decide +kernel
def RX2 : String := "NineNames$Life"
def TX2 : u_T := fun k => match k with
  | 0 => ("NineNames$Life", "steps", "I", false)
  | 1 => ("NineNames$Life", "missed", "I", false)
  | 2 => ("NineNames$Life", "years", "I", false)
  | 3 => ("NineNames$Life", "births", "I", false)
  | 4 => ("NineNames$Life", "deaths", "I", false)
  | 5 => ("NineNames$Life", "isCut", "Z", false)
  | 6 => ("NineNames$Life", "hasRun", "Z", false)
  | 7 => ("NineNames$Life", "seed", "I", false)
  | _ => ("NineNames$Life", "turns", "[I", true)
def tyX2 : Nat → FieldType := fun k => match k with
  | 0 => .int
  | 1 => .int
  | 2 => .int
  | 3 => .int
  | 4 => .int
  | 5 => .boolean
  | 6 => .boolean
  | 7 => .int
  | _ => .array .int
abbrev wsX20 : List Cond := u_ws RX2 TX2 9
theorem nmX2 : ∀ a, a < 9 → ∀ b, b < 9 → a ≠ b → (TX2 a).2.1 ≠ (TX2 b).2.1 := by decide +kernel
theorem tyX2_ok : ∀ k, k < 9 → parseFieldDescriptor (TX2 k).2.2.1 = some (tyX2 k) := by decide +kernel
def RX3 : String := "NineNames$Queue"
def TX3 : u_T := fun k => match k with
  | 0 => ("NineNames$Queue", "who", "[I", true)
  | 1 => ("NineNames$Queue", "wanted", "[I", true)
  | _ => ("NineNames$Queue", "count", "I", false)
def tyX3 : Nat → FieldType := fun k => match k with
  | 0 => .array .int
  | 1 => .array .int
  | _ => .int
abbrev wsX30 : List Cond := u_ws RX3 TX3 3
theorem nmX3 : ∀ a, a < 3 → ∀ b, b < 3 → a ≠ b → (TX3 a).2.1 ≠ (TX3 b).2.1 := by decide +kernel
theorem tyX3_ok : ∀ k, k < 3 → parseFieldDescriptor (TX3 k).2.2.1 = some (tyX3 k) := by decide +kernel
def RX4 : String := "NineNames$Reader"
def TX4 : u_T := fun k => match k with
  | 0 => ("NineNames$Reader", "reserved", "[J", true)
  | 1 => ("NineNames$Reader", "text", "[B", false)
  | 2 => ("NineNames$Reader", "length", "I", false)
  | 3 => ("NineNames$Reader", "next", "I", false)
  | 4 => ("NineNames$Reader", "place", "I", false)
  | 5 => ("NineNames$Reader", "kind", "I", false)
  | 6 => ("NineNames$Reader", "number", "I", false)
  | 7 => ("NineNames$Reader", "sign", "C", false)
  | 8 => ("NineNames$Reader", "word", "J", false)
  | 9 => ("NineNames$Reader", "key", "I", false)
  | 10 => ("NineNames$Reader", "fault", "I", false)
  | _ => ("NineNames$Reader", "faultPlace", "I", false)
def tyX4 : Nat → FieldType := fun k => match k with
  | 0 => .array .long
  | 1 => .array .byte
  | 2 => .int
  | 3 => .int
  | 4 => .int
  | 5 => .int
  | 6 => .int
  | 7 => .char
  | 8 => .long
  | 9 => .int
  | 10 => .int
  | _ => .int
abbrev wsX40 : List Cond := u_ws RX4 TX4 12
theorem nmX4 : ∀ a, a < 12 → ∀ b, b < 12 → a ≠ b → (TX4 a).2.1 ≠ (TX4 b).2.1 := by decide +kernel
theorem tyX4_ok : ∀ k, k < 12 → parseFieldDescriptor (TX4 k).2.2.1 = some (tyX4 k) := by decide +kernel
def RX5 : String := "NineNames$Rings"
def TX5 : u_T := fun k => match k with
  | 0 => ("NineNames$Rings", "gets", "[I", true)
  | 1 => ("NineNames$Rings", "count", "I", false)
  | 2 => ("NineNames$Rings", "pointsAt", "[I", true)
  | _ => ("NineNames$Rings", "in", "I", false)
def tyX5 : Nat → FieldType := fun k => match k with
  | 0 => .array .int
  | 1 => .int
  | 2 => .array .int
  | _ => .int
abbrev wsX50 : List Cond := u_ws RX5 TX5 4
theorem nmX5 : ∀ a, a < 4 → ∀ b, b < 4 → a ≠ b → (TX5 a).2.1 ≠ (TX5 b).2.1 := by decide +kernel
theorem tyX5_ok : ∀ k, k < 4 → parseFieldDescriptor (TX5 k).2.2.1 = some (tyX5 k) := by decide +kernel
def RX6 : String := "NineNames$Script"
def TX6 : u_T := fun k => match k with
  | 0 => ("NineNames$Script", "isThere", "Z", false)
  | 1 => ("NineNames$Script", "steps", "I", false)
  | 2 => ("NineNames$Script", "lines", "I", false)
  | 3 => ("NineNames$Script", "op", "[I", true)
  | 4 => ("NineNames$Script", "one", "[I", true)
  | 5 => ("NineNames$Script", "two", "[I", true)
  | 6 => ("NineNames$Script", "sign", "[I", true)
  | _ => ("NineNames$Script", "mate", "[I", true)
def tyX6 : Nat → FieldType := fun k => match k with
  | 0 => .boolean
  | 1 => .int
  | 2 => .int
  | 3 => .array .int
  | 4 => .array .int
  | 5 => .array .int
  | 6 => .array .int
  | _ => .array .int
abbrev wsX60 : List Cond := u_ws RX6 TX6 8
theorem nmX6 : ∀ a, a < 8 → ∀ b, b < 8 → a ≠ b → (TX6 a).2.1 ≠ (TX6 b).2.1 := by decide +kernel
theorem tyX6_ok : ∀ k, k < 8 → parseFieldDescriptor (TX6 k).2.2.1 = some (tyX6 k) := by decide +kernel
def RX7 : String := "NineNames$Town"
def TX7 : u_T := fun k => match k with
  | 0 => ("NineNames$Town", "year", "I", false)
  | 1 => ("NineNames$Town", "most", "I", false)
  | 2 => ("NineNames$Town", "life", "I", false)
  | 3 => ("NineNames$Town", "surnames", "I", false)
  | 4 => ("NineNames$Town", "persons", "I", false)
  | 5 => ("NineNames$Town", "misers", "I", false)
  | 6 => ("NineNames$Town", "surnameWords", "[J", true)
  | 7 => ("NineNames$Town", "worth", "[I", true)
  | 8 => ("NineNames$Town", "sold", "[I", true)
  | 9 => ("NineNames$Town", "personWords", "[J", true)
  | 10 => ("NineNames$Town", "born", "[I", true)
  | 11 => ("NineNames$Town", "died", "[I", true)
  | 12 => ("NineNames$Town", "bears", "[I", true)
  | 13 => ("NineNames$Town", "coins", "[I", true)
  | 14 => ("NineNames$Town", "wedTo", "[I", true)
  | 15 => ("NineNames$Town", "parents", "[I", true)
  | 16 => ("NineNames$Town", "awaySince", "[I", true)
  | 17 => ("NineNames$Town", "likes", "[I", true)
  | 18 => ("NineNames$Town", "likings", "[I", true)
  | _ => ("NineNames$Town", "queue", "LNineNames$Queue;", true)
def tyX7 : Nat → FieldType := fun k => match k with
  | 0 => .int
  | 1 => .int
  | 2 => .int
  | 3 => .int
  | 4 => .int
  | 5 => .int
  | 6 => .array .long
  | 7 => .array .int
  | 8 => .array .int
  | 9 => .array .long
  | 10 => .array .int
  | 11 => .array .int
  | 12 => .array .int
  | 13 => .array .int
  | 14 => .array .int
  | 15 => .array .int
  | 16 => .array .int
  | 17 => .array .int
  | 18 => .array .int
  | _ => .object "NineNames$Queue"
abbrev wsX70 : List Cond := u_ws RX7 TX7 20
theorem nmX7 : ∀ a, a < 20 → ∀ b, b < 20 → a ≠ b → (TX7 a).2.1 ≠ (TX7 b).2.1 := by decide +kernel
theorem tyX7_ok : ∀ k, k < 20 → parseFieldDescriptor (TX7 k).2.2.1 = some (tyX7 k) := by decide +kernel
def RX8 : String := "NineNames$TownText"
def TX8 : u_T := fun k => match k with
  | 0 => ("NineNames$TownText", "reader", "LNineNames$Reader;", true)
  | 1 => ("NineNames$TownText", "town", "LNineNames$Town;", true)
  | _ => ("NineNames$TownText", "toldHeads", "I", false)
def tyX8 : Nat → FieldType := fun k => match k with
  | 0 => .object "NineNames$Reader"
  | 1 => .object "NineNames$Town"
  | _ => .int
abbrev wsX80 : List Cond := u_ws RX8 TX8 3
theorem nmX8 : ∀ a, a < 3 → ∀ b, b < 3 → a ≠ b → (TX8 a).2.1 ≠ (TX8 b).2.1 := by decide +kernel
theorem tyX8_ok : ∀ k, k < 3 → parseFieldDescriptor (TX8 k).2.2.1 = some (tyX8 k) := by decide +kernel
def RX9 : String := "NineNames$Trays"
def TX9 : u_T := fun k => match k with
  | 0 => ("NineNames$Trays", "sorts", "[I", true)
  | 1 => ("NineNames$Trays", "lengths", "[I", true)
  | _ => ("NineNames$Trays", "rows", "[[J", true)
def tyX9 : Nat → FieldType := fun k => match k with
  | 0 => .array .int
  | 1 => .array .int
  | _ => .array (.array .long)
abbrev wsX90 : List Cond := u_ws RX9 TX9 3
theorem nmX9 : ∀ a, a < 3 → ∀ b, b < 3 → a ≠ b → (TX9 a).2.1 ≠ (TX9 b).2.1 := by decide +kernel
theorem tyX9_ok : ∀ k, k < 3 → parseFieldDescriptor (TX9 k).2.2.1 = some (tyX9 k) := by decide +kernel
def RX10 : String := "NineNames$Weddings"
def TX10 : u_T := fun k => match k with
  | 0 => ("NineNames$Weddings", "mates", "[I", true)
  | _ => ("NineNames$Weddings", "best", "[B", true)
def tyX10 : Nat → FieldType := fun k => match k with
  | 0 => .array .int
  | _ => .array .byte
abbrev wsX100 : List Cond := u_ws RX10 TX10 2
theorem nmX10 : ∀ a, a < 2 → ∀ b, b < 2 → a ≠ b → (TX10 a).2.1 ≠ (TX10 b).2.1 := by decide +kernel
theorem tyX10_ok : ∀ k, k < 2 → parseFieldDescriptor (TX10 k).2.2.1 = some (tyX10 k) := by decide +kernel
def RX11 : String := "NineNames"
def TX11 : u_T := fun k => match k with
  | 0 => ("NineNames", "status", "I", false)
  | 1 => ("NineNames", "top", "J", false)
  | 2 => ("NineNames", "bottom", "J", false)
  | 3 => ("NineNames", "trays", "LNineNames$Trays;", true)
  | 4 => ("NineNames", "tape", "[B", true)
  | 5 => ("NineNames", "taped", "I", false)
  | 6 => ("NineNames", "reader", "LNineNames$Reader;", true)
  | 7 => ("NineNames", "town", "LNineNames$Town;", true)
  | 8 => ("NineNames", "draft", "LNineNames$Town;", true)
  | 9 => ("NineNames", "script", "LNineNames$Script;", true)
  | 10 => ("NineNames", "scriptDraft", "LNineNames$Script;", true)
  | 11 => ("NineNames", "life", "LNineNames$Life;", true)
  | 12 => ("NineNames", "trial", "LNineNames$Life;", true)
  | 13 => ("NineNames", "weddings", "LNineNames$Weddings;", true)
  | 14 => ("NineNames", "market", "LNineNames$Rings;", true)
  | 15 => ("NineNames", "markedTowns", "[LNineNames$Town;", true)
  | 16 => ("NineNames", "markedScripts", "[LNineNames$Script;", true)
  | _ => ("NineNames", "marks", "I", false)
def tyX11 : Nat → FieldType := fun k => match k with
  | 0 => .int
  | 1 => .long
  | 2 => .long
  | 3 => .object "NineNames$Trays"
  | 4 => .array .byte
  | 5 => .int
  | 6 => .object "NineNames$Reader"
  | 7 => .object "NineNames$Town"
  | 8 => .object "NineNames$Town"
  | 9 => .object "NineNames$Script"
  | 10 => .object "NineNames$Script"
  | 11 => .object "NineNames$Life"
  | 12 => .object "NineNames$Life"
  | 13 => .object "NineNames$Weddings"
  | 14 => .object "NineNames$Rings"
  | 15 => .array (.object "NineNames$Town")
  | 16 => .array (.object "NineNames$Script")
  | _ => .int
abbrev wsX110 : List Cond := u_ws RX11 TX11 18
theorem nmX11 : ∀ a, a < 18 → ∀ b, b < 18 → a ≠ b → (TX11 a).2.1 ≠ (TX11 b).2.1 := by decide +kernel
theorem tyX11_ok : ∀ k, k < 18 → parseFieldDescriptor (TX11 k).2.2.1 = some (tyX11 k) := by decide +kernel
def RX12 : String := "NineNamesModel"
def TX12 : u_T := fun k => match k with
  | 0 => ("NineNamesModel", "status", "I", false)
  | 1 => ("NineNamesModel", "thrown", "I", false)
  | 2 => ("NineNamesModel", "above", "J", false)
  | 3 => ("NineNamesModel", "under", "J", false)
  | 4 => ("NineNamesModel", "traySort", "[I", true)
  | 5 => ("NineNamesModel", "trayMany", "[I", true)
  | 6 => ("NineNamesModel", "numbers", "[J", true)
  | 7 => ("NineNamesModel", "tape", "[B", true)
  | 8 => ("NineNamesModel", "taped", "I", false)
  | 9 => ("NineNamesModel", "textEnd", "I", false)
  | 10 => ("NineNamesModel", "faultKind", "I", false)
  | 11 => ("NineNamesModel", "faultAt", "I", false)
  | 12 => ("NineNamesModel", "bad", "I", false)
  | 13 => ("NineNamesModel", "badAt", "I", false)
  | 14 => ("NineNamesModel", "token", "I", false)
  | 15 => ("NineNamesModel", "at", "I", false)
  | 16 => ("NineNamesModel", "behind", "I", false)
  | 17 => ("NineNamesModel", "number", "I", false)
  | 18 => ("NineNamesModel", "letters", "I", false)
  | 19 => ("NineNamesModel", "word", "J", false)
  | 20 => ("NineNamesModel", "c", "[I", true)
  | 21 => ("NineNamesModel", "aside", "[I", true)
  | 22 => ("NineNamesModel", "before", "[I", true)
  | 23 => ("NineNamesModel", "words", "[J", true)
  | 24 => ("NineNamesModel", "markMany", "I", false)
  | 25 => ("NineNamesModel", "toldOnce", "I", false)
  | 26 => ("NineNamesModel", "newSteps", "I", false)
  | 27 => ("NineNamesModel", "chances", "[J", true)
  | 28 => ("NineNamesModel", "most", "[I", true)
  | 29 => ("NineNamesModel", "gets", "[I", true)
  | 30 => ("NineNamesModel", "points", "[I", true)
  | 31 => ("NineNamesModel", "ringMany", "I", false)
  | 32 => ("NineNamesModel", "given", "[I", true)
  | 33 => ("NineNamesModel", "livedLast", "[I", true)
  | 34 => ("NineNamesModel", "hasLived", "Z", false)
  | 35 => ("NineNamesModel", "isOver", "Z", false)
  | 36 => ("NineNamesModel", "random", "I", false)
  | 37 => ("NineNamesModel", "done", "I", false)
  | 38 => ("NineNamesModel", "missed", "I", false)
  | 39 => ("NineNamesModel", "years", "I", false)
  | 40 => ("NineNamesModel", "born", "I", false)
  | 41 => ("NineNamesModel", "died", "I", false)
  | _ => ("NineNamesModel", "leftOver", "I", false)
def tyX12 : Nat → FieldType := fun k => match k with
  | 0 => .int
  | 1 => .int
  | 2 => .long
  | 3 => .long
  | 4 => .array .int
  | 5 => .array .int
  | 6 => .array .long
  | 7 => .array .byte
  | 8 => .int
  | 9 => .int
  | 10 => .int
  | 11 => .int
  | 12 => .int
  | 13 => .int
  | 14 => .int
  | 15 => .int
  | 16 => .int
  | 17 => .int
  | 18 => .int
  | 19 => .long
  | 20 => .array .int
  | 21 => .array .int
  | 22 => .array .int
  | 23 => .array .long
  | 24 => .int
  | 25 => .int
  | 26 => .int
  | 27 => .array .long
  | 28 => .array .int
  | 29 => .array .int
  | 30 => .array .int
  | 31 => .int
  | 32 => .array .int
  | 33 => .array .int
  | 34 => .boolean
  | 35 => .boolean
  | 36 => .int
  | 37 => .int
  | 38 => .int
  | 39 => .int
  | 40 => .int
  | 41 => .int
  | _ => .int
abbrev wsX120 : List Cond := u_ws RX12 TX12 43
theorem nmX12 : ∀ a, a < 43 → ∀ b, b < 43 → a ≠ b → (TX12 a).2.1 ≠ (TX12 b).2.1 := by decide +kernel
theorem tyX12_ok : ∀ k, k < 43 → parseFieldDescriptor (TX12 k).2.2.1 = some (tyX12 k) := by decide +kernel
/-- number 1 (Kin) has no objects: number 0 stands there a second time -/
abbrev zCl : List vw_C := [(RX0, TX0, 5), (RX0, TX0, 5), (RX2, TX2, 9), (RX3, TX3, 3), (RX4, TX4, 12), (RX5, TX5, 4), (RX6, TX6, 8), (RX7, TX7, 20), (RX8, TX8, 3), (RX9, TX9, 3), (RX10, TX10, 2), (RX11, TX11, 18), (RX12, TX12, 43)]
def zTy : List (Nat → FieldType) := [tyX0, tyX0, tyX2, tyX3, tyX4, tyX5, tyX6, tyX7, tyX8, tyX9, tyX10, tyX11, tyX12]
def zOn : List String := ["NineNames$CenturiesText", "NineNames$Kin", "NineNames$Life", "NineNames$Queue", "NineNames$Reader", "NineNames$Rings", "NineNames$Script", "NineNames$Town", "NineNames$TownText", "NineNames$Trays", "NineNames$Weddings", "NineNames", "NineNamesModel", "java/lang/String", "NineNamesLaw", "java/lang/Integer", "java/lang/Math", "java/util/Arrays", "java/lang/StringLatin1", "jdk/internal/util/Preconditions"]
def zFk : List (List (Nat × Nat × Nat)) := [[(11, 0, 3), (15, 0, 0), (19, 0, 1), (23, 0, 2), (38, 4, 9), (52, 0, 4), (58, 6, 0), (66, 6, 2), (79, 6, 1), (114, 7, 9), (120, 7, 4), (127, 7, 6), (130, 7, 3), (143, 4, 7)],
  [(9, 7, 15), (21, 7, 4), (35, 7, 10), (38, 7, 12)],
  [(13, 2, 8), (17, 2, 0), (21, 2, 1), (24, 2, 2), (27, 2, 3), (30, 2, 4), (33, 2, 5), (37, 2, 6), (40, 2, 7), (43, 6, 2), (46, 6, 3), (55, 6, 7), (62, 6, 4), (65, 6, 5), (89, 6, 6), (120, 7, 0), (170, 7, 4)],
  [(11, 3, 0), (17, 3, 1), (26, 3, 2)],
  [(11, 4, 0), (15, 4, 1), (19, 4, 10), (23, 4, 11), (49, 4, 2), (51, 4, 3), (57, 4, 4), (60, 4, 9), (67, 4, 5), (74, 4, 8), (90, 4, 6), (93, 4, 7), (105, 7, 9), (110, 7, 4), (117, 7, 6), (120, 7, 3)],
  [(11, 5, 0), (17, 5, 2), (26, 5, 1), (30, 5, 3), (33, 7, 4), (51, 7, 17), (58, 7, 12)],
  [(11, 6, 3), (15, 6, 4), (18, 6, 5), (21, 6, 6), (24, 6, 7), (27, 6, 0), (31, 6, 1), (35, 6, 2)],
  [(11, 7, 6), (15, 7, 7), (19, 7, 8), (22, 7, 9), (25, 7, 10), (28, 7, 11), (31, 7, 12), (34, 7, 13), (37, 7, 14), (40, 7, 15), (43, 7, 16), (46, 7, 17), (49, 7, 18), (55, 7, 19), (62, 7, 0), (66, 7, 1), (69, 7, 2), (72, 7, 3), (75, 7, 4), (78, 7, 5), (81, 3, 2), (182, 3, 1), (189, 3, 0)],
  [(9, 8, 0), (15, 8, 1), (36, 4, 9), (65, 7, 4), (71, 8, 2), (81, 7, 0), (84, 7, 1), (87, 7, 2), (97, 7, 3), (103, 4, 8), (111, 7, 7), (142, 7, 12), (145, 7, 13), (148, 7, 5), (167, 7, 14), (170, 7, 17), (181, 7, 19)],
  [(11, 9, 0), (15, 9, 1), (20, 9, 2)],
  [(11, 10, 0), (17, 10, 1), (21, 7, 4), (29, 7, 7), (32, 7, 12)],
  [(7, 11, 2), (16, 11, 3), (20, 11, 4), (27, 11, 6), (34, 11, 7), (38, 11, 8), (44, 11, 9), (48, 11, 10), (54, 11, 11), (58, 11, 12), (64, 11, 13), (71, 11, 14), (75, 11, 15), (79, 11, 16), (83, 11, 0), (87, 11, 1), (138, 11, 5), (164, 7, 4), (179, 6, 1), (182, 4, 10), (185, 4, 11), (188, 7, 3), (198, 7, 0), (201, 7, 1), (204, 7, 2), (206, 7, 19), (210, 3, 2), (215, 7, 14), (223, 7, 16), (232, 7, 7), (241, 7, 8), (250, 7, 10), (256, 7, 12), (259, 7, 13), (262, 7, 15), (265, 7, 5), (271, 3, 0), (274, 3, 1), (277, 7, 17), (409, 5, 0), (412, 5, 1), (450, 6, 0), (458, 2, 0), (459, 2, 6), (462, 2, 1), (465, 2, 2), (468, 2, 3), (471, 2, 4), (474, 2, 5), (477, 11, 17)],
  [(7, 12, 3), (13, 12, 4), (17, 12, 5), (20, 12, 6), (24, 12, 7), (28, 12, 10), (32, 12, 11), (35, 12, 20), (38, 12, 21), (41, 12, 22), (44, 12, 23), (47, 12, 27), (50, 12, 28), (53, 12, 29), (56, 12, 30), (59, 12, 32), (62, 12, 33), (69, 12, 1), (72, 12, 0), (75, 12, 2), (112, 12, 9), (115, 12, 16), (118, 12, 15), (124, 12, 14), (130, 12, 19), (137, 12, 18), (143, 12, 17), (210, 12, 12), (213, 12, 13), (233, 12, 8), (254, 12, 25), (317, 12, 26), (461, 12, 31), (482, 12, 36), (486, 12, 41), (489, 12, 39), (495, 12, 40), (510, 12, 37), (513, 12, 35), (517, 12, 42), (520, 12, 38), (540, 12, 34), (547, 12, 24)],
  [(9, 13, 0), (15, 13, 1)],
  [],
  [],
  [],
  [],
  [],
  []]
def zMk_0 : List (Nat × Nat × Nat) := [(3, 3, 0), (27, 0, 71), (32, 0, 50), (42, 0, 2), (45, 0, 5), (49, 0, 56), (55, 0, 54), (62, 0, 73), (69, 0, 74), (73, 0, 45), (76, 1, 3), (82, 0, 53), (85, 1, 4), (88, 0, 6), (91, 0, 8), (95, 0, 11), (98, 0, 13), (101, 0, 14), (104, 0, 7), (107, 0, 12), (110, 0, 57), (123, 0, 60), (133, 0, 9), (137, 0, 10), (140, 0, 52)]
def zMk_1 : List (Nat × Nat × Nat) := [(15, 1, 15), (25, 1, 16), (29, 1, 21), (32, 1, 17)]
def zMk_2 : List (Nat × Nat × Nat) := [(5, 3, 0), (51, 0, 25), (58, 0, 26), (68, 0, 29), (72, 0, 119), (77, 1, 27), (81, 0, 85), (85, 0, 93), (92, 1, 28), (96, 0, 30), (100, 0, 31), (103, 0, 32), (107, 1, 33), (110, 1, 34), (113, 1, 35), (116, 0, 36), (123, 0, 103), (126, 1, 416), (131, 0, 84), (135, 0, 105), (138, 0, 107), (141, 0, 83), (145, 0, 108), (148, 0, 110), (151, 0, 112), (154, 0, 113), (157, 0, 114), (159, 0, 115), (162, 0, 116), (165, 0, 90)]
def zMk_3 : List (Nat × Nat × Nat) := [(3, 3, 0), (20, 4, 0)]
def zMk_4 : List (Nat × Nat × Nat) := [(3, 3, 0), (28, 0, 410), (34, 0, 411), (40, 1, 419), (46, 1, 418), (54, 0, 45), (63, 0, 46), (70, 0, 47), (78, 1, 62), (82, 0, 48), (85, 0, 49), (97, 0, 54), (101, 0, 53), (113, 0, 60), (123, 0, 51)]
def zMk_5 : List (Nat × Nat × Nat) := [(3, 3, 0), (20, 1, 421), (36, 0, 86), (40, 0, 65), (44, 0, 67), (47, 0, 66), (54, 0, 100), (61, 0, 91), (65, 1, 98), (68, 0, 68), (71, 0, 69)]
def zMk_6 : List (Nat × Nat × Nat) := [(5, 3, 0), (38, 4, 0)]
def zMk_7 : List (Nat × Nat × Nat) := [(3, 3, 0), (54, 2, 37), (59, 0, 76), (84, 4, 0), (90, 0, 38), (94, 0, 80), (98, 0, 84), (102, 0, 94), (106, 0, 91), (110, 1, 418), (116, 0, 100), (119, 0, 104), (123, 0, 88), (126, 0, 105), (130, 0, 87), (133, 0, 119), (136, 0, 41), (139, 0, 106), (142, 0, 89), (145, 0, 109), (150, 0, 79), (154, 0, 93), (157, 0, 107), (161, 1, 18), (167, 0, 111), (170, 1, 419), (173, 0, 86), (176, 0, 85), (179, 0, 39), (185, 0, 42)]
def zMk_8 : List (Nat × Nat × Nat) := [(3, 3, 0), (19, 0, 76), (24, 0, 50), (30, 0, 122), (33, 0, 56), (40, 0, 123), (44, 0, 125), (47, 0, 126), (50, 0, 131), (53, 0, 132), (56, 0, 134), (59, 0, 135), (62, 0, 54), (68, 0, 53), (74, 0, 45), (77, 0, 57), (90, 0, 51), (93, 0, 61), (100, 0, 124), (107, 0, 78), (115, 0, 83), (118, 0, 55), (121, 0, 79), (125, 0, 127), (128, 0, 128), (131, 0, 129), (134, 0, 59), (138, 0, 93), (151, 0, 58), (154, 0, 130), (157, 0, 80), (161, 0, 133), (164, 0, 112), (173, 0, 101), (177, 0, 102), (185, 0, 39), (190, 0, 40)]
def zMk_9 : List (Nat × Nat × Nat) := [(3, 3, 0), (23, 1, 421), (29, 1, 420), (32, 1, 147), (36, 4, 0)]
def zMk_10 : List (Nat × Nat × Nat) := [(3, 3, 0), (25, 0, 110), (35, 0, 90), (39, 0, 91), (43, 1, 149), (47, 0, 152), (51, 1, 98), (54, 1, 418)]
def zMk_11 : List (Nat × Nat × Nat) := [(1, 3, 0), (15, 2, 136), (26, 2, 43), (33, 2, 75), (43, 2, 70), (53, 2, 23), (63, 2, 148), (70, 2, 63), (90, 1, 137), (94, 1, 138), (97, 0, 219), (100, 0, 143), (104, 0, 218), (108, 0, 222), (112, 0, 144), (116, 0, 217), (120, 0, 145), (124, 0, 139), (127, 0, 140), (130, 0, 142), (134, 0, 146), (141, 0, 224), (145, 0, 44), (151, 2, 120), (154, 0, 121), (157, 0, 77), (161, 0, 71), (167, 0, 215), (172, 2, 0), (175, 0, 1), (176, 0, 72), (191, 0, 90), (195, 0, 92), (219, 0, 94), (226, 0, 95), (229, 0, 81), (235, 0, 93), (238, 0, 91), (244, 0, 216), (247, 0, 82), (253, 0, 88), (268, 0, 84), (280, 0, 100), (283, 0, 221), (286, 0, 141), (289, 0, 103), (292, 0, 105), (295, 0, 119), (298, 1, 416), (303, 0, 225), (307, 0, 107), (310, 0, 83), (313, 0, 108), (316, 1, 226), (319, 0, 110), (322, 0, 112), (325, 0, 220), (328, 0, 106), (331, 0, 113), (334, 0, 114), (337, 0, 115), (340, 0, 116), (344, 0, 117), (347, 0, 99), (350, 0, 87), (353, 0, 118), (356, 0, 41), (359, 0, 40), (362, 0, 39), (365, 1, 227), (368, 0, 223), (371, 0, 102), (374, 0, 104), (377, 0, 85), (380, 1, 228), (383, 0, 229), (386, 1, 232), (389, 1, 233), (392, 0, 231), (396, 0, 151), (400, 1, 150), (403, 1, 149), (406, 0, 64), (413, 0, 86), (416, 1, 20), (421, 1, 17), (424, 1, 19), (427, 1, 18), (431, 1, 22), (435, 0, 96), (438, 1, 421), (444, 0, 97), (447, 0, 230), (454, 0, 24)]
def zMk_12 : List (Nat × Nat × Nat) := [(1, 3, 0), (65, 0, 290), (78, 1, 417), (84, 0, 239), (88, 0, 244), (92, 0, 245), (96, 1, 242), (104, 1, 240), (108, 1, 251), (121, 0, 253), (127, 1, 254), (140, 1, 255), (146, 0, 256), (149, 1, 259), (153, 0, 260), (157, 0, 261), (161, 0, 262), (164, 0, 263), (167, 0, 264), (170, 0, 265), (173, 0, 266), (176, 0, 267), (179, 0, 268), (182, 0, 269), (185, 0, 270), (188, 0, 271), (191, 0, 272), (194, 0, 273), (197, 0, 274), (201, 0, 275), (204, 0, 276), (207, 0, 277), (216, 0, 279), (220, 0, 257), (223, 0, 280), (226, 0, 281), (230, 0, 282), (236, 0, 286), (239, 0, 291), (242, 0, 278), (245, 0, 292), (248, 1, 418), (251, 0, 294), (257, 0, 293), (260, 0, 284), (264, 0, 283), (268, 0, 298), (271, 0, 295), (274, 0, 303), (277, 0, 296), (281, 0, 297), (284, 0, 299), (287, 0, 300), (290, 0, 301), (293, 0, 302), (296, 0, 304), (299, 0, 287), (302, 0, 305), (305, 0, 258), (308, 0, 288), (311, 0, 407), (314, 0, 307), (320, 0, 308), (323, 0, 309), (326, 0, 313), (329, 0, 315), (332, 1, 252), (337, 0, 238), (340, 0, 314), (343, 0, 317), (346, 0, 319), (349, 0, 320), (352, 0, 312), (355, 0, 316), (358, 0, 311), (363, 0, 318), (366, 0, 250), (369, 0, 328), (372, 0, 330), (375, 0, 327), (378, 0, 331), (381, 0, 329), (386, 0, 332), (389, 0, 335), (392, 0, 336), (395, 0, 337), (398, 0, 339), (401, 0, 341), (404, 0, 340), (407, 0, 342), (410, 0, 343), (416, 0, 344), (419, 0, 347), (422, 1, 419), (425, 0, 348), (428, 0, 350), (435, 0, 249), (439, 0, 359), (442, 0, 360), (451, 0, 241), (455, 0, 368), (458, 0, 373), (464, 0, 374), (467, 0, 375), (470, 0, 376), (473, 0, 385), (476, 0, 388), (479, 0, 392), (492, 0, 394), (498, 0, 395), (501, 0, 396), (504, 0, 397), (507, 0, 398), (523, 0, 399), (526, 0, 400), (529, 0, 402), (532, 0, 401), (537, 0, 403)]
def zMk_13 : List (Nat × Nat × Nat) := [(335, 0, 412), (492, 0, 413), (495, 1, 422), (1059, 1, 423)]
def zMk_14 : List (Nat × Nat × Nat) := [(9, 2, 153), (12, 2, 234), (13, 0, 154), (17, 0, 235), (18, 0, 155), (22, 0, 236), (23, 0, 156), (26, 0, 237), (27, 0, 157), (31, 0, 243), (34, 0, 158), (38, 0, 246), (39, 0, 159), (43, 0, 247), (44, 0, 160), (48, 0, 248), (49, 0, 161), (53, 0, 285), (54, 0, 162), (58, 0, 306), (59, 0, 163), (62, 0, 310), (63, 0, 164), (66, 0, 289), (67, 0, 165), (70, 0, 321), (71, 0, 166), (75, 0, 322), (76, 0, 167), (79, 0, 323), (80, 0, 168), (83, 0, 324), (84, 0, 169), (87, 0, 325), (88, 0, 170), (91, 0, 326), (92, 0, 171), (95, 0, 333), (96, 0, 172), (99, 0, 334), (100, 0, 173), (103, 0, 338), (104, 0, 174), (107, 0, 345), (108, 0, 175), (112, 0, 346), (113, 0, 176), (116, 0, 349), (117, 0, 177), (120, 0, 351), (121, 0, 178), (124, 0, 352), (125, 0, 179), (129, 0, 353), (130, 0, 180), (133, 0, 354), (134, 0, 181), (138, 0, 355), (139, 0, 182), (142, 0, 356), (143, 0, 183), (146, 0, 357), (147, 0, 184), (150, 0, 358), (151, 0, 185), (154, 0, 361), (155, 0, 186), (158, 0, 362), (159, 0, 187), (162, 0, 363), (163, 0, 188), (166, 0, 364), (167, 0, 189), (170, 0, 365), (171, 0, 190), (174, 0, 366), (175, 0, 191), (179, 0, 367), (180, 0, 192), (183, 0, 369), (184, 0, 193), (187, 0, 370), (188, 0, 194), (191, 0, 371), (192, 0, 195), (195, 0, 372), (196, 0, 196), (199, 0, 377), (200, 0, 197), (203, 0, 378), (204, 0, 198), (207, 0, 379), (208, 0, 199), (211, 0, 380), (212, 0, 200), (215, 0, 381), (216, 0, 201), (219, 0, 382), (220, 0, 202), (223, 0, 383), (224, 0, 203), (227, 0, 384), (228, 0, 204), (231, 0, 386), (232, 0, 205), (235, 0, 387), (236, 0, 206), (239, 0, 389), (240, 0, 207), (243, 0, 390), (244, 0, 208), (247, 0, 391), (248, 0, 209), (251, 0, 393), (252, 0, 210), (255, 0, 404), (256, 0, 211), (259, 0, 405), (260, 0, 212), (263, 0, 406), (264, 0, 213), (267, 0, 408), (268, 0, 214), (271, 0, 409)]
def zMk_15 : List (Nat × Nat × Nat) := []
def zMk_16 : List (Nat × Nat × Nat) := []
def zMk_17 : List (Nat × Nat × Nat) := []
def zMk_18 : List (Nat × Nat × Nat) := [(9, 1, 414)]
def zMk_19 : List (Nat × Nat × Nat) := []
def zMk : List (List (Nat × Nat × Nat)) := [zMk_0, zMk_1, zMk_2, zMk_3, zMk_4, zMk_5, zMk_6, zMk_7, zMk_8, zMk_9, zMk_10, zMk_11, zMk_12, zMk_13, zMk_14, zMk_15, zMk_16, zMk_17, zMk_18, zMk_19]
def zKk : List (List (Nat × Int32)) := [[],
  [],
  [(169, 65536)],
  [],
  [],
  [],
  [],
  [],
  [],
  [],
  [],
  [],
  [(485, 65536)],
  [],
  [],
  [(265, 1431655765), (266, 858993459), (267, 252645135)],
  [],
  [],
  [],
  []]
def zJk : List (List (Nat × Int64)) := [[],
  [],
  [],
  [],
  [(38, 32), (88, (-1))],
  [],
  [],
  [(148, (-1))],
  [],
  [],
  [],
  [],
  [(100, (-1)), (102, 3), (133, 32), (135, 96), (335, 10), (361, 9), (384, 99), (414, 2), (431, 999), (433, 6), (445, 150), (447, 12), (449, 16), (535, 9999), (543, 4), (545, 20)],
  [],
  [(32, 4294967295)],
  [],
  [],
  [],
  [],
  []]
def zGk : List (List (Nat × Nat)) := [[],
  [],
  [],
  [],
  [],
  [],
  [],
  [],
  [],
  [],
  [],
  [],
  [],
  [(38, 0), (1053, 1)],
  [],
  [],
  [],
  [],
  [],
  []]
def zCk : List (List (Nat × Nat)) := [[],
  [],
  [],
  [],
  [],
  [],
  [],
  [(52, 3)],
  [],
  [],
  [],
  [(13, 9), (24, 4), (31, 7), (41, 6), (51, 2), (61, 10), (68, 5), (149, 8), (170, 0)],
  [],
  [],
  [(7, 11), (10, 12)],
  [],
  [],
  [],
  [],
  []]
/-! code -/
