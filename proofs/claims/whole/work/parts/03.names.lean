def RX0 : String := "VeneerLoft$Flitch"
def TX0 : u_T := fun k => match k with
  | 0 => ("VeneerLoft$Flitch", "thickness", "I", true)
  | 1 => ("VeneerLoft$Flitch", "length", "I", true)
  | 2 => ("VeneerLoft$Flitch", "swelling", "I", true)
  | 3 => ("VeneerLoft$Flitch", "count", "I", true)
  | 4 => ("VeneerLoft$Flitch", "widths", "[I", true)
  | 5 => ("VeneerLoft$Flitch", "figures", "[I", true)
  | 6 => ("VeneerLoft$Flitch", "taken", "[Z", true)
  | _ => ("VeneerLoft$Flitch", "usedCount", "I", false)
def tyX0 : Nat → FieldType := fun k => match k with
  | 0 => .int
  | 1 => .int
  | 2 => .int
  | 3 => .int
  | 4 => .array .int
  | 5 => .array .int
  | 6 => .array .boolean
  | _ => .int
theorem nmX0 : ∀ a, a < 8 → ∀ b, b < 8 → a ≠ b → (TX0 a).2.1 ≠ (TX0 b).2.1 := by decide +kernel
theorem tyX0_ok : ∀ k, k < 8 → parseFieldDescriptor (TX0 k).2.2.1 = some (tyX0 k) := by decide +kernel
abbrev cX0_init : ByteArray := prog_2_method_1_code
def yX0_init : MethodName := ⟨RX0, "<init>", "(LVeneerLoft$Log;CI)V"⟩
abbrev cX0_countLeaves : ByteArray := prog_2_method_2_code
def yX0_countLeaves : MethodName := ⟨RX0, "countLeaves", "(ICI)I"⟩
abbrev cX0_cutWidth : ByteArray := prog_2_method_3_code
def yX0_cutWidth : MethodName := ⟨RX0, "cutWidth", "(LVeneerLoft$Log;CI)I"⟩
abbrev cX0_rootOf : ByteArray := prog_2_method_4_code
def yX0_rootOf : MethodName := ⟨RX0, "rootOf", "(I)I"⟩
abbrev cX0_formFigure : ByteArray := prog_2_method_5_code
def yX0_formFigure : MethodName := ⟨RX0, "formFigure", "(C)I"⟩
abbrev cX0_wayFigure : ByteArray := prog_2_method_6_code
def yX0_wayFigure : MethodName := ⟨RX0, "wayFigure", "(LVeneerLoft$Log;CI)I"⟩
abbrev cX0_hasLeaf : ByteArray := prog_2_method_7_code
def yX0_hasLeaf : MethodName := ⟨RX0, "hasLeaf", "(I)Z"⟩
abbrev cX0_widthOf : ByteArray := prog_2_method_8_code
def yX0_widthOf : MethodName := ⟨RX0, "widthOf", "(I)I"⟩
abbrev cX0_areaOf : ByteArray := prog_2_method_9_code
def yX0_areaOf : MethodName := ⟨RX0, "areaOf", "(I)I"⟩
abbrev cX0_figureOf : ByteArray := prog_2_method_10_code
def yX0_figureOf : MethodName := ⟨RX0, "figureOf", "(I)I"⟩
abbrev cX0_isTaken : ByteArray := prog_2_method_11_code
def yX0_isTaken : MethodName := ⟨RX0, "isTaken", "(I)Z"⟩
abbrev cX0_isFree : ByteArray := prog_2_method_12_code
def yX0_isFree : MethodName := ⟨RX0, "isFree", "(III)Z"⟩
abbrev cX0_use : ByteArray := prog_2_method_13_code
def yX0_use : MethodName := ⟨RX0, "use", "(II)I"⟩
def RX1 : String := "VeneerLoft$Log"
def TX1 : u_T := fun k => match k with
  | 0 => ("VeneerLoft$Log", "wood", "C", true)
  | 1 => ("VeneerLoft$Log", "diameter", "I", true)
  | 2 => ("VeneerLoft$Log", "length", "I", true)
  | 3 => ("VeneerLoft$Log", "form", "C", true)
  | _ => ("VeneerLoft$Log", "sliced", "Z", false)
def tyX1 : Nat → FieldType := fun k => match k with
  | 0 => .char
  | 1 => .int
  | 2 => .int
  | 3 => .char
  | _ => .boolean
theorem nmX1 : ∀ a, a < 5 → ∀ b, b < 5 → a ≠ b → (TX1 a).2.1 ≠ (TX1 b).2.1 := by decide +kernel
theorem tyX1_ok : ∀ k, k < 5 → parseFieldDescriptor (TX1 k).2.2.1 = some (tyX1 k) := by decide +kernel
abbrev cX1_init : ByteArray := prog_3_method_1_code
def yX1_init : MethodName := ⟨RX1, "<init>", "(CIIC)V"⟩
abbrev cX1_radius : ByteArray := prog_3_method_2_code
def yX1_radius : MethodName := ⟨RX1, "radius", "()I"⟩
abbrev cX1_swelling : ByteArray := prog_3_method_3_code
def yX1_swelling : MethodName := ⟨RX1, "swelling", "()I"⟩
def RX2 : String := "VeneerLoft$Offcut"
def TX2 : u_T := fun k => match k with
  | 0 => ("VeneerLoft$Offcut", "width", "I", true)
  | _ => ("VeneerLoft$Offcut", "height", "I", true)
def tyX2 : Nat → FieldType := fun k => match k with
  | 0 => .int
  | _ => .int
theorem nmX2 : ∀ a, a < 2 → ∀ b, b < 2 → a ≠ b → (TX2 a).2.1 ≠ (TX2 b).2.1 := by decide +kernel
theorem tyX2_ok : ∀ k, k < 2 → parseFieldDescriptor (TX2 k).2.2.1 = some (tyX2 k) := by decide +kernel
abbrev cX2_init : ByteArray := prog_4_method_1_code
def yX2_init : MethodName := ⟨RX2, "<init>", "(II)V"⟩
abbrev cX2_surface : ByteArray := prog_4_method_2_code
def yX2_surface : MethodName := ⟨RX2, "surface", "()I"⟩
abbrev cX2_isSmallerThan : ByteArray := prog_4_method_3_code
def yX2_isSmallerThan : MethodName := ⟨RX2, "isSmallerThan", "(LVeneerLoft$Offcut;)Z"⟩
def RX3 : String := "VeneerLoft$Packet"
def TX3 : u_T := fun k => match k with
  | 0 => ("VeneerLoft$Packet", "flitch", "LVeneerLoft$Flitch;", true)
  | 1 => ("VeneerLoft$Packet", "first", "I", true)
  | _ => ("VeneerLoft$Packet", "many", "I", true)
def tyX3 : Nat → FieldType := fun k => match k with
  | 0 => .object "VeneerLoft$Flitch"
  | 1 => .int
  | _ => .int
theorem nmX3 : ∀ a, a < 3 → ∀ b, b < 3 → a ≠ b → (TX3 a).2.1 ≠ (TX3 b).2.1 := by decide +kernel
theorem tyX3_ok : ∀ k, k < 3 → parseFieldDescriptor (TX3 k).2.2.1 = some (tyX3 k) := by decide +kernel
abbrev cX3_init : ByteArray := prog_5_method_1_code
def yX3_init : MethodName := ⟨RX3, "<init>", "(LVeneerLoft$Flitch;II)V"⟩
abbrev cX3_holds : ByteArray := prog_5_method_2_code
def yX3_holds : MethodName := ⟨RX3, "holds", "(LVeneerLoft$Flitch;I)Z"⟩
abbrev cX3_leafFor : ByteArray := prog_5_method_3_code
def yX3_leafFor : MethodName := ⟨RX3, "leafFor", "(II)I"⟩
abbrev cX3_pullBy : ByteArray := prog_5_method_4_code
def yX3_pullBy : MethodName := ⟨RX3, "pullBy", "(I)I"⟩
def RX4 : String := "VeneerLoft$Panel"
def TX4 : u_T := fun k => match k with
  | 0 => ("VeneerLoft$Panel", "width", "I", true)
  | 1 => ("VeneerLoft$Panel", "height", "I", true)
  | 2 => ("VeneerLoft$Panel", "core", "C", true)
  | 3 => ("VeneerLoft$Panel", "thickness", "I", true)
  | 4 => ("VeneerLoft$Panel", "face", "LVeneerLoft$Packet;", false)
  | 5 => ("VeneerLoft$Panel", "back", "LVeneerLoft$Packet;", false)
  | 6 => ("VeneerLoft$Panel", "faceJump", "I", false)
  | 7 => ("VeneerLoft$Panel", "pressed", "Z", false)
  | 8 => ("VeneerLoft$Panel", "pressedAir", "I", false)
  | 9 => ("VeneerLoft$Panel", "blisters", "I", false)
  | 10 => ("VeneerLoft$Panel", "left", "I", false)
  | 11 => ("VeneerLoft$Panel", "shine", "I", false)
  | 12 => ("VeneerLoft$Panel", "charges", "I", false)
  | _ => ("VeneerLoft$Panel", "ghostCount", "I", false)
def tyX4 : Nat → FieldType := fun k => match k with
  | 0 => .int
  | 1 => .int
  | 2 => .char
  | 3 => .int
  | 4 => .object "VeneerLoft$Packet"
  | 5 => .object "VeneerLoft$Packet"
  | 6 => .int
  | 7 => .boolean
  | 8 => .int
  | 9 => .int
  | 10 => .int
  | 11 => .int
  | 12 => .int
  | _ => .int
theorem nmX4 : ∀ a, a < 14 → ∀ b, b < 14 → a ≠ b → (TX4 a).2.1 ≠ (TX4 b).2.1 := by decide +kernel
theorem tyX4_ok : ∀ k, k < 14 → parseFieldDescriptor (TX4 k).2.2.1 = some (tyX4 k) := by decide +kernel
abbrev cX4_init : ByteArray := prog_6_method_1_code
def yX4_init : MethodName := ⟨RX4, "<init>", "(IICI)V"⟩
abbrev cX4_surface : ByteArray := prog_6_method_2_code
def yX4_surface : MethodName := ⟨RX4, "surface", "()I"⟩
abbrev cX4_cupAt : ByteArray := prog_6_method_3_code
def yX4_cupAt : MethodName := ⟨RX4, "cupAt", "(I)I"⟩
abbrev cX4_pullOf : ByteArray := prog_6_method_4_code
def yX4_pullOf : MethodName := ⟨RX4, "pullOf", "(LVeneerLoft$Packet;I)I"⟩
abbrev cX4_isFlatAt : ByteArray := prog_6_method_5_code
def yX4_isFlatAt : MethodName := ⟨RX4, "isFlatAt", "(I)Z"⟩
abbrev cX4_isWornThrough : ByteArray := prog_6_method_6_code
def yX4_isWornThrough : MethodName := ⟨RX4, "isWornThrough", "()Z"⟩
abbrev cX4_polish : ByteArray := prog_6_method_7_code
def yX4_polish : MethodName := ⟨RX4, "polish", "(I)V"⟩
abbrev cX4_worth : ByteArray := prog_6_method_8_code
def yX4_worth : MethodName := ⟨RX4, "worth", "()I"⟩
def RX5 : String := "VeneerLoft$Picture"
def TX5 : u_T := fun k => match k with
  | 0 => ("VeneerLoft$Picture", "fields", "[I", true)
  | 1 => ("VeneerLoft$Picture", "shades", "[I", true)
  | 2 => ("VeneerLoft$Picture", "seen", "[Z", true)
  | 3 => ("VeneerLoft$Picture", "queue", "[I", true)
  | 4 => ("VeneerLoft$Picture", "packet", "LVeneerLoft$Packet;", false)
  | 5 => ("VeneerLoft$Picture", "pieceCount", "I", false)
  | 6 => ("VeneerLoft$Picture", "islandCount", "I", false)
  | _ => ("VeneerLoft$Picture", "placeCount", "I", false)
def tyX5 : Nat → FieldType := fun k => match k with
  | 0 => .array .int
  | 1 => .array .int
  | 2 => .array .boolean
  | 3 => .array .int
  | 4 => .object "VeneerLoft$Packet"
  | 5 => .int
  | 6 => .int
  | _ => .int
theorem nmX5 : ∀ a, a < 8 → ∀ b, b < 8 → a ≠ b → (TX5 a).2.1 ≠ (TX5 b).2.1 := by decide +kernel
theorem tyX5_ok : ∀ k, k < 8 → parseFieldDescriptor (TX5 k).2.2.1 = some (tyX5 k) := by decide +kernel
abbrev cX5_init : ByteArray := prog_7_method_1_code
def yX5_init : MethodName := ⟨RX5, "<init>", "()V"⟩
abbrev cX5_fieldOf : ByteArray := prog_7_method_2_code
def yX5_fieldOf : MethodName := ⟨RX5, "fieldOf", "(I)I"⟩
abbrev cX5_paint : ByteArray := prog_7_method_3_code
def yX5_paint : MethodName := ⟨RX5, "paint", "(IIII)V"⟩
abbrev cX5_countPieces : ByteArray := prog_7_method_4_code
def yX5_countPieces : MethodName := ⟨RX5, "countPieces", "()V"⟩
abbrev cX5_gatherPiece : ByteArray := prog_7_method_5_code
def yX5_gatherPiece : MethodName := ⟨RX5, "gatherPiece", "(I)I"⟩
abbrev cX5_enqueue : ByteArray := prog_7_method_6_code
def yX5_enqueue : MethodName := ⟨RX5, "enqueue", "(II)I"⟩
abbrev cX5_isIsland : ByteArray := prog_7_method_7_code
def yX5_isIsland : MethodName := ⟨RX5, "isIsland", "(I)Z"⟩
abbrev cX5_darken : ByteArray := prog_7_method_8_code
def yX5_darken : MethodName := ⟨RX5, "darken", "(II)I"⟩
abbrev cX5_countBurnt : ByteArray := prog_7_method_9_code
def yX5_countBurnt : MethodName := ⟨RX5, "countBurnt", "()I"⟩
def RX6 : String := "VeneerLoft"
def TX6 : u_T := fun k => match k with
  | 0 => ("VeneerLoft", "logs", "Ljava/util/ArrayList;", true)
  | 1 => ("VeneerLoft", "flitches", "Ljava/util/ArrayList;", true)
  | 2 => ("VeneerLoft", "panels", "Ljava/util/ArrayList;", true)
  | 3 => ("VeneerLoft", "pictures", "Ljava/util/ArrayList;", true)
  | 4 => ("VeneerLoft", "offcutList", "Ljava/util/ArrayList;", true)
  | 5 => ("VeneerLoft", "airNow", "I", false)
  | 6 => ("VeneerLoft", "faceArea", "I", false)
  | 7 => ("VeneerLoft", "backArea", "I", false)
  | 8 => ("VeneerLoft", "pictureArea", "I", false)
  | 9 => ("VeneerLoft", "repairArea", "I", false)
  | _ => ("VeneerLoft", "wasteArea", "I", false)
def tyX6 : Nat → FieldType := fun k => match k with
  | 0 => .object "java/util/ArrayList"
  | 1 => .object "java/util/ArrayList"
  | 2 => .object "java/util/ArrayList"
  | 3 => .object "java/util/ArrayList"
  | 4 => .object "java/util/ArrayList"
  | 5 => .int
  | 6 => .int
  | 7 => .int
  | 8 => .int
  | 9 => .int
  | _ => .int
theorem nmX6 : ∀ a, a < 11 → ∀ b, b < 11 → a ≠ b → (TX6 a).2.1 ≠ (TX6 b).2.1 := by decide +kernel
theorem tyX6_ok : ∀ k, k < 11 → parseFieldDescriptor (TX6 k).2.2.1 = some (tyX6 k) := by decide +kernel
abbrev cX6_init : ByteArray := prog_1_method_1_code
def yX6_init : MethodName := ⟨RX6, "<init>", "()V"⟩
abbrev cX6_log : ByteArray := prog_1_method_2_code
def yX6_log : MethodName := ⟨RX6, "log", "(CIIC)I"⟩
abbrev cX6_slice : ByteArray := prog_1_method_3_code
def yX6_slice : MethodName := ⟨RX6, "slice", "(ICI)I"⟩
abbrev cX6_leaves : ByteArray := prog_1_method_4_code
def yX6_leaves : MethodName := ⟨RX6, "leaves", "(I)I"⟩
abbrev cX6_width : ByteArray := prog_1_method_5_code
def yX6_width : MethodName := ⟨RX6, "width", "(II)I"⟩
abbrev cX6_area : ByteArray := prog_1_method_6_code
def yX6_area : MethodName := ⟨RX6, "area", "(II)I"⟩
abbrev cX6_figure : ByteArray := prog_1_method_7_code
def yX6_figure : MethodName := ⟨RX6, "figure", "(II)I"⟩
abbrev cX6_isUsed : ByteArray := prog_1_method_8_code
def yX6_isUsed : MethodName := ⟨RX6, "isUsed", "(II)Z"⟩
abbrev cX6_panel : ByteArray := prog_1_method_9_code
def yX6_panel : MethodName := ⟨RX6, "panel", "(IICI)I"⟩
abbrev cX6_face : ByteArray := prog_1_method_10_code
def yX6_face : MethodName := ⟨RX6, "face", "(IIIIC)I"⟩
abbrev cX6_back : ByteArray := prog_1_method_11_code
def yX6_back : MethodName := ⟨RX6, "back", "(IIII)I"⟩
abbrev cX6_jump : ByteArray := prog_1_method_12_code
def yX6_jump : MethodName := ⟨RX6, "jump", "(I)I"⟩
abbrev cX6_bestFirst : ByteArray := prog_1_method_13_code
def yX6_bestFirst : MethodName := ⟨RX6, "bestFirst", "(IIIC)I"⟩
abbrev cX6_press : ByteArray := prog_1_method_14_code
def yX6_press : MethodName := ⟨RX6, "press", "(IIII)I"⟩
abbrev cX6_slit : ByteArray := prog_1_method_15_code
def yX6_slit : MethodName := ⟨RX6, "slit", "(I)I"⟩
abbrev cX6_air : ByteArray := prog_1_method_16_code
def yX6_air : MethodName := ⟨RX6, "air", "(I)I"⟩
abbrev cX6_cup : ByteArray := prog_1_method_17_code
def yX6_cup : MethodName := ⟨RX6, "cup", "(II)I"⟩
abbrev cX6_isFlat : ByteArray := prog_1_method_18_code
def yX6_isFlat : MethodName := ⟨RX6, "isFlat", "(I)Z"⟩
abbrev cX6_cupMonth : ByteArray := prog_1_method_19_code
def yX6_cupMonth : MethodName := ⟨RX6, "cupMonth", "(I)I"⟩
abbrev cX6_scrape : ByteArray := prog_1_method_20_code
def yX6_scrape : MethodName := ⟨RX6, "scrape", "(II)I"⟩
abbrev cX6_isThrough : ByteArray := prog_1_method_21_code
def yX6_isThrough : MethodName := ⟨RX6, "isThrough", "(I)Z"⟩
abbrev cX6_pad : ByteArray := prog_1_method_22_code
def yX6_pad : MethodName := ⟨RX6, "pad", "(II)I"⟩
abbrev cX6_rest : ByteArray := prog_1_method_23_code
def yX6_rest : MethodName := ⟨RX6, "rest", "()I"⟩
abbrev cX6_ghosts : ByteArray := prog_1_method_24_code
def yX6_ghosts : MethodName := ⟨RX6, "ghosts", "(I)I"⟩
abbrev cX6_picture : ByteArray := prog_1_method_25_code
def yX6_picture : MethodName := ⟨RX6, "picture", "()I"⟩
abbrev cX6_draw : ByteArray := prog_1_method_26_code
def yX6_draw : MethodName := ⟨RX6, "draw", "(IIIIC)I"⟩
abbrev cX6_fieldAt : ByteArray := prog_1_method_27_code
def yX6_fieldAt : MethodName := ⟨RX6, "fieldAt", "(III)C"⟩
abbrev cX6_pieces : ByteArray := prog_1_method_28_code
def yX6_pieces : MethodName := ⟨RX6, "pieces", "(I)I"⟩
abbrev cX6_islands : ByteArray := prog_1_method_29_code
def yX6_islands : MethodName := ⟨RX6, "islands", "(I)I"⟩
abbrev cX6_saw : ByteArray := prog_1_method_30_code
def yX6_saw : MethodName := ⟨RX6, "saw", "(IIII)I"⟩
abbrev cX6_leafAt : ByteArray := prog_1_method_31_code
def yX6_leafAt : MethodName := ⟨RX6, "leafAt", "(IIII)I"⟩
abbrev cX6_contrast : ByteArray := prog_1_method_32_code
def yX6_contrast : MethodName := ⟨RX6, "contrast", "(II)I"⟩
abbrev cX6_sand : ByteArray := prog_1_method_33_code
def yX6_sand : MethodName := ⟨RX6, "sand", "(ICII)I"⟩
abbrev cX6_burnt : ByteArray := prog_1_method_34_code
def yX6_burnt : MethodName := ⟨RX6, "burnt", "(I)I"⟩
abbrev cX6_gap : ByteArray := prog_1_method_35_code
def yX6_gap : MethodName := ⟨RX6, "gap", "(III)I"⟩
abbrev cX6_offcuts : ByteArray := prog_1_method_36_code
def yX6_offcuts : MethodName := ⟨RX6, "offcuts", "(I)I"⟩
abbrev cX6_takeOffcut : ByteArray := prog_1_method_37_code
def yX6_takeOffcut : MethodName := ⟨RX6, "takeOffcut", "(II)I"⟩
abbrev cX6_account : ByteArray := prog_1_method_38_code
def yX6_account : MethodName := ⟨RX6, "account", "(C)I"⟩
abbrev cX6_price : ByteArray := prog_1_method_39_code
def yX6_price : MethodName := ⟨RX6, "price", "(I)I"⟩
abbrev cX6_usedShare : ByteArray := prog_1_method_40_code
def yX6_usedShare : MethodName := ⟨RX6, "usedShare", "()F"⟩
abbrev cX6_meanFigure : ByteArray := prog_1_method_41_code
def yX6_meanFigure : MethodName := ⟨RX6, "meanFigure", "()D"⟩
abbrev cX6_checksum : ByteArray := prog_1_method_42_code
def yX6_checksum : MethodName := ⟨RX6, "checksum", "()J"⟩
abbrev cX6_isTrue : ByteArray := prog_1_method_43_code
def yX6_isTrue : MethodName := ⟨RX6, "isTrue", "()Z"⟩
abbrev cX6_logOf : ByteArray := prog_1_method_44_code
def yX6_logOf : MethodName := ⟨RX6, "logOf", "(I)LVeneerLoft$Log;"⟩
abbrev cX6_flitchOf : ByteArray := prog_1_method_45_code
def yX6_flitchOf : MethodName := ⟨RX6, "flitchOf", "(I)LVeneerLoft$Flitch;"⟩
abbrev cX6_flitchWithLeaf : ByteArray := prog_1_method_46_code
def yX6_flitchWithLeaf : MethodName := ⟨RX6, "flitchWithLeaf", "(II)LVeneerLoft$Flitch;"⟩
abbrev cX6_flitchWithLeaves : ByteArray := prog_1_method_47_code
def yX6_flitchWithLeaves : MethodName := ⟨RX6, "flitchWithLeaves", "(III)LVeneerLoft$Flitch;"⟩
abbrev cX6_panelOf : ByteArray := prog_1_method_48_code
def yX6_panelOf : MethodName := ⟨RX6, "panelOf", "(I)LVeneerLoft$Panel;"⟩
abbrev cX6_pressedOnly : ByteArray := prog_1_method_49_code
def yX6_pressedOnly : MethodName := ⟨RX6, "pressedOnly", "(LVeneerLoft$Panel;)LVeneerLoft$Panel;"⟩
abbrev cX6_pictureOf : ByteArray := prog_1_method_50_code
def yX6_pictureOf : MethodName := ⟨RX6, "pictureOf", "(I)LVeneerLoft$Picture;"⟩
abbrev cX6_pictureWithPlace : ByteArray := prog_1_method_51_code
def yX6_pictureWithPlace : MethodName := ⟨RX6, "pictureWithPlace", "(III)LVeneerLoft$Picture;"⟩
abbrev cX6_packetWithCopy : ByteArray := prog_1_method_52_code
def yX6_packetWithCopy : MethodName := ⟨RX6, "packetWithCopy", "(LVeneerLoft$Picture;I)LVeneerLoft$Packet;"⟩
abbrev cX6_isIn : ByteArray := prog_1_method_53_code
def yX6_isIn : MethodName := ⟨RX6, "isIn", "(III)Z"⟩
abbrev cX6_within : ByteArray := prog_1_method_54_code
def yX6_within : MethodName := ⟨RX6, "within", "(III)I"⟩
abbrev cX6_isOneOf : ByteArray := prog_1_method_55_code
def yX6_isOneOf : MethodName := ⟨RX6, "isOneOf", "(Ljava/lang/String;C)Z"⟩
abbrev cX6_isField : ByteArray := prog_1_method_56_code
def yX6_isField : MethodName := ⟨RX6, "isField", "(C)Z"⟩
abbrev cX6_isPlace : ByteArray := prog_1_method_57_code
def yX6_isPlace : MethodName := ⟨RX6, "isPlace", "(II)Z"⟩
abbrev cX6_neighbour : ByteArray := prog_1_method_58_code
def yX6_neighbour : MethodName := ⟨RX6, "neighbour", "(II)I"⟩
abbrev cX6_stripOf : ByteArray := prog_1_method_59_code
def yX6_stripOf : MethodName := ⟨RX6, "stripOf", "(LVeneerLoft$Panel;I)I"⟩
abbrev cX6_canCover : ByteArray := prog_1_method_60_code
def yX6_canCover : MethodName := ⟨RX6, "canCover", "(LVeneerLoft$Panel;LVeneerLoft$Flitch;II)Z"⟩
abbrev cX6_jumpOf : ByteArray := prog_1_method_61_code
def yX6_jumpOf : MethodName := ⟨RX6, "jumpOf", "(LVeneerLoft$Flitch;IIC)I"⟩
abbrev cX6_edgeContrast : ByteArray := prog_1_method_62_code
def yX6_edgeContrast : MethodName := ⟨RX6, "edgeContrast", "(LVeneerLoft$Picture;LVeneerLoft$Packet;III)I"⟩
abbrev cX6_layOn : ByteArray := prog_1_method_63_code
def yX6_layOn : MethodName := ⟨RX6, "layOn", "(LVeneerLoft$Panel;LVeneerLoft$Packet;)I"⟩
abbrev cX6_offcutArea : ByteArray := prog_1_method_64_code
def yX6_offcutArea : MethodName := ⟨RX6, "offcutArea", "()I"⟩
abbrev cX6_unusedArea : ByteArray := prog_1_method_65_code
def yX6_unusedArea : MethodName := ⟨RX6, "unusedArea", "()I"⟩
abbrev cX6_areasAgree : ByteArray := prog_1_method_66_code
def yX6_areasAgree : MethodName := ⟨RX6, "areasAgree", "()Z"⟩
abbrev cX6_usesAgree : ByteArray := prog_1_method_67_code
def yX6_usesAgree : MethodName := ⟨RX6, "usesAgree", "()Z"⟩
abbrev cX6_countUses : ByteArray := prog_1_method_68_code
def yX6_countUses : MethodName := ⟨RX6, "countUses", "(LVeneerLoft$Flitch;I)I"⟩
abbrev cX6_usesIn : ByteArray := prog_1_method_69_code
def yX6_usesIn : MethodName := ⟨RX6, "usesIn", "(LVeneerLoft$Packet;LVeneerLoft$Flitch;I)I"⟩
abbrev cX6_placesAgree : ByteArray := prog_1_method_70_code
def yX6_placesAgree : MethodName := ⟨RX6, "placesAgree", "()Z"⟩
def RX7 : String := "VeneerLoftModel$Flitch"
def TX7 : u_T := fun k => match k with
  | 0 => ("VeneerLoftModel$Flitch", "log", "LVeneerLoftModel$Log;", true)
  | 1 => ("VeneerLoftModel$Flitch", "way", "C", true)
  | 2 => ("VeneerLoftModel$Flitch", "thick", "I", true)
  | _ => ("VeneerLoftModel$Flitch", "used", "[Z", true)
def tyX7 : Nat → FieldType := fun k => match k with
  | 0 => .object "VeneerLoftModel$Log"
  | 1 => .char
  | 2 => .int
  | _ => .array .boolean
theorem nmX7 : ∀ a, a < 4 → ∀ b, b < 4 → a ≠ b → (TX7 a).2.1 ≠ (TX7 b).2.1 := by decide +kernel
theorem tyX7_ok : ∀ k, k < 4 → parseFieldDescriptor (TX7 k).2.2.1 = some (tyX7 k) := by decide +kernel
abbrev cX7_init : ByteArray := prog_10_method_1_code
def yX7_init : MethodName := ⟨RX7, "<init>", "(LVeneerLoftModel$Log;CI)V"⟩
abbrev cX7_width : ByteArray := prog_10_method_2_code
def yX7_width : MethodName := ⟨RX7, "width", "(I)I"⟩
abbrev cX7_area : ByteArray := prog_10_method_3_code
def yX7_area : MethodName := ⟨RX7, "area", "(I)I"⟩
abbrev cX7_figure : ByteArray := prog_10_method_4_code
def yX7_figure : MethodName := ⟨RX7, "figure", "(I)I"⟩
def RX8 : String := "VeneerLoftModel$Laid"
def TX8 : u_T := fun k => match k with
  | 0 => ("VeneerLoftModel$Laid", "flitch", "LVeneerLoftModel$Flitch;", true)
  | 1 => ("VeneerLoftModel$Laid", "first", "I", true)
  | _ => ("VeneerLoftModel$Laid", "many", "I", true)
def tyX8 : Nat → FieldType := fun k => match k with
  | 0 => .object "VeneerLoftModel$Flitch"
  | 1 => .int
  | _ => .int
theorem nmX8 : ∀ a, a < 3 → ∀ b, b < 3 → a ≠ b → (TX8 a).2.1 ≠ (TX8 b).2.1 := by decide +kernel
theorem tyX8_ok : ∀ k, k < 3 → parseFieldDescriptor (TX8 k).2.2.1 = some (tyX8 k) := by decide +kernel
abbrev cX8_init : ByteArray := prog_11_method_1_code
def yX8_init : MethodName := ⟨RX8, "<init>", "(LVeneerLoftModel$Flitch;II)V"⟩
abbrev cX8_jump : ByteArray := prog_11_method_2_code
def yX8_jump : MethodName := ⟨RX8, "jump", "(C)I"⟩
def RX9 : String := "VeneerLoftModel$Log"
def TX9 : u_T := fun k => match k with
  | 0 => ("VeneerLoftModel$Log", "wood", "I", true)
  | 1 => ("VeneerLoftModel$Log", "diameter", "I", true)
  | 2 => ("VeneerLoftModel$Log", "length", "I", true)
  | 3 => ("VeneerLoftModel$Log", "form", "C", true)
  | _ => ("VeneerLoftModel$Log", "sliced", "Z", false)
def tyX9 : Nat → FieldType := fun k => match k with
  | 0 => .int
  | 1 => .int
  | 2 => .int
  | 3 => .char
  | _ => .boolean
theorem nmX9 : ∀ a, a < 5 → ∀ b, b < 5 → a ≠ b → (TX9 a).2.1 ≠ (TX9 b).2.1 := by decide +kernel
theorem tyX9_ok : ∀ k, k < 5 → parseFieldDescriptor (TX9 k).2.2.1 = some (tyX9 k) := by decide +kernel
abbrev cX9_init : ByteArray := prog_12_method_1_code
def yX9_init : MethodName := ⟨RX9, "<init>", "(IIIC)V"⟩
def RX10 : String := "VeneerLoftModel$Panel"
def TX10 : u_T := fun k => match k with
  | 0 => ("VeneerLoftModel$Panel", "width", "I", true)
  | 1 => ("VeneerLoftModel$Panel", "height", "I", true)
  | 2 => ("VeneerLoftModel$Panel", "core", "I", true)
  | 3 => ("VeneerLoftModel$Panel", "face", "LVeneerLoftModel$Laid;", false)
  | 4 => ("VeneerLoftModel$Panel", "back", "LVeneerLoftModel$Laid;", false)
  | 5 => ("VeneerLoftModel$Panel", "jump", "I", false)
  | 6 => ("VeneerLoftModel$Panel", "pressed", "Z", false)
  | 7 => ("VeneerLoftModel$Panel", "pressedAt", "I", false)
  | 8 => ("VeneerLoftModel$Panel", "blisters", "I", false)
  | 9 => ("VeneerLoftModel$Panel", "scraped", "I", false)
  | 10 => ("VeneerLoftModel$Panel", "shine", "I", false)
  | 11 => ("VeneerLoftModel$Panel", "ghosts", "I", false)
  | _ => ("VeneerLoftModel$Panel", "charges", "I", false)
def tyX10 : Nat → FieldType := fun k => match k with
  | 0 => .int
  | 1 => .int
  | 2 => .int
  | 3 => .object "VeneerLoftModel$Laid"
  | 4 => .object "VeneerLoftModel$Laid"
  | 5 => .int
  | 6 => .boolean
  | 7 => .int
  | 8 => .int
  | 9 => .int
  | 10 => .int
  | 11 => .int
  | _ => .int
theorem nmX10 : ∀ a, a < 13 → ∀ b, b < 13 → a ≠ b → (TX10 a).2.1 ≠ (TX10 b).2.1 := by decide +kernel
theorem tyX10_ok : ∀ k, k < 13 → parseFieldDescriptor (TX10 k).2.2.1 = some (tyX10 k) := by decide +kernel
abbrev cX10_init : ByteArray := prog_13_method_1_code
def yX10_init : MethodName := ⟨RX10, "<init>", "(III)V"⟩
abbrev cX10_left : ByteArray := prog_13_method_2_code
def yX10_left : MethodName := ⟨RX10, "left", "()I"⟩
abbrev cX10_leaves : ByteArray := prog_13_method_3_code
def yX10_leaves : MethodName := ⟨RX10, "leaves", "()I"⟩
def RX11 : String := "VeneerLoftModel$Picture"
def TX11 : u_T := fun k => match k with
  | 0 => ("VeneerLoftModel$Picture", "fields", "[I", true)
  | 1 => ("VeneerLoftModel$Picture", "packet", "LVeneerLoftModel$Laid;", false)
  | _ => ("VeneerLoftModel$Picture", "shades", "[I", true)
def tyX11 : Nat → FieldType := fun k => match k with
  | 0 => .array .int
  | 1 => .object "VeneerLoftModel$Laid"
  | _ => .array .int
theorem nmX11 : ∀ a, a < 3 → ∀ b, b < 3 → a ≠ b → (TX11 a).2.1 ≠ (TX11 b).2.1 := by decide +kernel
theorem tyX11_ok : ∀ k, k < 3 → parseFieldDescriptor (TX11 k).2.2.1 = some (tyX11 k) := by decide +kernel
abbrev cX11_init : ByteArray := prog_14_method_1_code
def yX11_init : MethodName := ⟨RX11, "<init>", "()V"⟩
abbrev cX11_pieces : ByteArray := prog_14_method_2_code
def yX11_pieces : MethodName := ⟨RX11, "pieces", "()[I"⟩
abbrev cX11_fills : ByteArray := prog_14_method_3_code
def yX11_fills : MethodName := ⟨RX11, "fills", "([III)V"⟩
def RX12 : String := "VeneerLoftModel"
def TX12 : u_T := fun k => match k with
  | 0 => ("VeneerLoftModel", "thrown", "I", false)
  | 1 => ("VeneerLoftModel", "logs", "Ljava/util/List;", true)
  | 2 => ("VeneerLoftModel", "flitches", "Ljava/util/List;", true)
  | 3 => ("VeneerLoftModel", "panels", "Ljava/util/List;", true)
  | 4 => ("VeneerLoftModel", "thicks", "Ljava/util/List;", true)
  | 5 => ("VeneerLoftModel", "offcuts", "Ljava/util/List;", true)
  | 6 => ("VeneerLoftModel", "repaired", "I", false)
  | 7 => ("VeneerLoftModel", "faces", "I", false)
  | 8 => ("VeneerLoftModel", "backs", "I", false)
  | 9 => ("VeneerLoftModel", "pictured", "I", false)
  | 10 => ("VeneerLoftModel", "waste", "I", false)
  | 11 => ("VeneerLoftModel", "air", "I", false)
  | _ => ("VeneerLoftModel", "pictures", "Ljava/util/List;", true)
def tyX12 : Nat → FieldType := fun k => match k with
  | 0 => .int
  | 1 => .object "java/util/List"
  | 2 => .object "java/util/List"
  | 3 => .object "java/util/List"
  | 4 => .object "java/util/List"
  | 5 => .object "java/util/List"
  | 6 => .int
  | 7 => .int
  | 8 => .int
  | 9 => .int
  | 10 => .int
  | 11 => .int
  | _ => .object "java/util/List"
theorem nmX12 : ∀ a, a < 13 → ∀ b, b < 13 → a ≠ b → (TX12 a).2.1 ≠ (TX12 b).2.1 := by decide +kernel
theorem tyX12_ok : ∀ k, k < 13 → parseFieldDescriptor (TX12 k).2.2.1 = some (tyX12 k) := by decide +kernel
abbrev cX12_init : ByteArray := prog_9_method_1_code
def yX12_init : MethodName := ⟨RX12, "<init>", "()V"⟩
abbrev cX12_thrown : ByteArray := prog_9_method_2_code
def yX12_thrown : MethodName := ⟨RX12, "thrown", "()I"⟩
abbrev cX12_in : ByteArray := prog_9_method_3_code
def yX12_in : MethodName := ⟨RX12, "in", "(JJJ)Z"⟩
abbrev cX12_isOf : ByteArray := prog_9_method_4_code
def yX12_isOf : MethodName := ⟨RX12, "isOf", "(Ljava/util/List;I)Z"⟩
abbrev cX12_fails : ByteArray := prog_9_method_5_code
def yX12_fails : MethodName := ⟨RX12, "fails", "(ZI)Z"⟩
abbrev cX12_begins : ByteArray := prog_9_method_6_code
def yX12_begins : MethodName := ⟨RX12, "begins", "()V"⟩
abbrev cX12_root : ByteArray := prog_9_method_7_code
def yX12_root : MethodName := ⟨RX12, "root", "(I)I"⟩
abbrev cX12_log : ByteArray := prog_9_method_8_code
def yX12_log : MethodName := ⟨RX12, "log", "(CIIC)I"⟩
abbrev cX12_slice : ByteArray := prog_9_method_9_code
def yX12_slice : MethodName := ⟨RX12, "slice", "(ICI)I"⟩
abbrev cX12_leaves : ByteArray := prog_9_method_10_code
def yX12_leaves : MethodName := ⟨RX12, "leaves", "(I)I"⟩
abbrev cX12_isLeaf : ByteArray := prog_9_method_11_code
def yX12_isLeaf : MethodName := ⟨RX12, "isLeaf", "(II)Z"⟩
abbrev cX12_noLeaf : ByteArray := prog_9_method_12_code
def yX12_noLeaf : MethodName := ⟨RX12, "noLeaf", "(II)Z"⟩
abbrev cX12_width : ByteArray := prog_9_method_13_code
def yX12_width : MethodName := ⟨RX12, "width", "(II)I"⟩
abbrev cX12_area : ByteArray := prog_9_method_14_code
def yX12_area : MethodName := ⟨RX12, "area", "(II)I"⟩
abbrev cX12_figure : ByteArray := prog_9_method_15_code
def yX12_figure : MethodName := ⟨RX12, "figure", "(II)I"⟩
abbrev cX12_isUsed : ByteArray := prog_9_method_16_code
def yX12_isUsed : MethodName := ⟨RX12, "isUsed", "(II)Z"⟩
abbrev cX12_panel : ByteArray := prog_9_method_17_code
def yX12_panel : MethodName := ⟨RX12, "panel", "(IICI)I"⟩
abbrev cX12_noPanel : ByteArray := prog_9_method_18_code
def yX12_noPanel : MethodName := ⟨RX12, "noPanel", "(I)Z"⟩
abbrev cX12_noRow : ByteArray := prog_9_method_19_code
def yX12_noRow : MethodName := ⟨RX12, "noRow", "(III)Z"⟩
abbrev cX12_strip : ByteArray := prog_9_method_20_code
def yX12_strip : MethodName := ⟨RX12, "strip", "(LVeneerLoftModel$Panel;I)I"⟩
abbrev cX12_canLie : ByteArray := prog_9_method_21_code
def yX12_canLie : MethodName := ⟨RX12, "canLie", "(LVeneerLoftModel$Panel;LVeneerLoftModel$Flitch;II)Z"⟩
abbrev cX12_lays : ByteArray := prog_9_method_22_code
def yX12_lays : MethodName := ⟨RX12, "lays", "(LVeneerLoftModel$Panel;LVeneerLoftModel$Laid;)I"⟩
abbrev cX12_face : ByteArray := prog_9_method_23_code
def yX12_face : MethodName := ⟨RX12, "face", "(IIIIC)I"⟩
abbrev cX12_back : ByteArray := prog_9_method_24_code
def yX12_back : MethodName := ⟨RX12, "back", "(IIII)I"⟩
abbrev cX12_jump : ByteArray := prog_9_method_25_code
def yX12_jump : MethodName := ⟨RX12, "jump", "(I)I"⟩
abbrev cX12_bestFirst : ByteArray := prog_9_method_26_code
def yX12_bestFirst : MethodName := ⟨RX12, "bestFirst", "(IIIC)I"⟩
abbrev cX12_press : ByteArray := prog_9_method_27_code
def yX12_press : MethodName := ⟨RX12, "press", "(IIII)I"⟩
abbrev cX12_slit : ByteArray := prog_9_method_28_code
def yX12_slit : MethodName := ⟨RX12, "slit", "(I)I"⟩
abbrev cX12_air : ByteArray := prog_9_method_29_code
def yX12_air : MethodName := ⟨RX12, "air", "(I)I"⟩
abbrev cX12_pull : ByteArray := prog_9_method_30_code
def yX12_pull : MethodName := ⟨RX12, "pull", "(LVeneerLoftModel$Laid;I)I"⟩
abbrev cX12_cupOf : ByteArray := prog_9_method_31_code
def yX12_cupOf : MethodName := ⟨RX12, "cupOf", "(LVeneerLoftModel$Panel;I)I"⟩
abbrev cX12_isFlat : ByteArray := prog_9_method_32_code
def yX12_isFlat : MethodName := ⟨RX12, "isFlat", "(LVeneerLoftModel$Panel;I)Z"⟩
abbrev cX12_cup : ByteArray := prog_9_method_33_code
def yX12_cup : MethodName := ⟨RX12, "cup", "(II)I"⟩
abbrev cX12_isFlat_ : ByteArray := prog_9_method_34_code
def yX12_isFlat_ : MethodName := ⟨RX12, "isFlat", "(I)Z"⟩
abbrev cX12_cupMonth : ByteArray := prog_9_method_35_code
def yX12_cupMonth : MethodName := ⟨RX12, "cupMonth", "(I)I"⟩
abbrev cX12_scrape : ByteArray := prog_9_method_36_code
def yX12_scrape : MethodName := ⟨RX12, "scrape", "(II)I"⟩
abbrev cX12_isThrough : ByteArray := prog_9_method_37_code
def yX12_isThrough : MethodName := ⟨RX12, "isThrough", "(I)Z"⟩
abbrev cX12_pad : ByteArray := prog_9_method_38_code
def yX12_pad : MethodName := ⟨RX12, "pad", "(II)I"⟩
abbrev cX12_rest : ByteArray := prog_9_method_39_code
def yX12_rest : MethodName := ⟨RX12, "rest", "()I"⟩
abbrev cX12_ghosts : ByteArray := prog_9_method_40_code
def yX12_ghosts : MethodName := ⟨RX12, "ghosts", "(I)I"⟩
abbrev cX12_beside : ByteArray := prog_9_method_41_code
def yX12_beside : MethodName := ⟨RX12, "beside", "(II)I"⟩
abbrev cX12_most : ByteArray := prog_9_method_42_code
def yX12_most : MethodName := ⟨RX12, "most", "([I)I"⟩
abbrev cX12_picture : ByteArray := prog_9_method_43_code
def yX12_picture : MethodName := ⟨RX12, "picture", "()I"⟩
abbrev cX12_noPicture : ByteArray := prog_9_method_44_code
def yX12_noPicture : MethodName := ⟨RX12, "noPicture", "(I)Z"⟩
abbrev cX12_draw : ByteArray := prog_9_method_45_code
def yX12_draw : MethodName := ⟨RX12, "draw", "(IIIIC)I"⟩
abbrev cX12_noPlace : ByteArray := prog_9_method_46_code
def yX12_noPlace : MethodName := ⟨RX12, "noPlace", "(III)Z"⟩
abbrev cX12_fieldAt : ByteArray := prog_9_method_47_code
def yX12_fieldAt : MethodName := ⟨RX12, "fieldAt", "(III)C"⟩
abbrev cX12_pieces : ByteArray := prog_9_method_48_code
def yX12_pieces : MethodName := ⟨RX12, "pieces", "(I)I"⟩
abbrev cX12_islands : ByteArray := prog_9_method_49_code
def yX12_islands : MethodName := ⟨RX12, "islands", "(I)I"⟩
abbrev cX12_saw : ByteArray := prog_9_method_50_code
def yX12_saw : MethodName := ⟨RX12, "saw", "(IIII)I"⟩
abbrev cX12_leafOf : ByteArray := prog_9_method_51_code
def yX12_leafOf : MethodName := ⟨RX12, "leafOf", "(LVeneerLoftModel$Picture;II)I"⟩
abbrev cX12_noCopy : ByteArray := prog_9_method_52_code
def yX12_noCopy : MethodName := ⟨RX12, "noCopy", "(II)Z"⟩
abbrev cX12_leafAt : ByteArray := prog_9_method_53_code
def yX12_leafAt : MethodName := ⟨RX12, "leafAt", "(IIII)I"⟩
abbrev cX12_contrast : ByteArray := prog_9_method_54_code
def yX12_contrast : MethodName := ⟨RX12, "contrast", "(II)I"⟩
abbrev cX12_sand : ByteArray := prog_9_method_55_code
def yX12_sand : MethodName := ⟨RX12, "sand", "(ICII)I"⟩
abbrev cX12_burnt : ByteArray := prog_9_method_56_code
def yX12_burnt : MethodName := ⟨RX12, "burnt", "(I)I"⟩
abbrev cX12_gap : ByteArray := prog_9_method_57_code
def yX12_gap : MethodName := ⟨RX12, "gap", "(III)I"⟩
abbrev cX12_offcuts : ByteArray := prog_9_method_58_code
def yX12_offcuts : MethodName := ⟨RX12, "offcuts", "(I)I"⟩
abbrev cX12_takeOffcut : ByteArray := prog_9_method_59_code
def yX12_takeOffcut : MethodName := ⟨RX12, "takeOffcut", "(II)I"⟩
abbrev cX12_unused : ByteArray := prog_9_method_60_code
def yX12_unused : MethodName := ⟨RX12, "unused", "()I"⟩
abbrev cX12_account : ByteArray := prog_9_method_61_code
def yX12_account : MethodName := ⟨RX12, "account", "(C)I"⟩
abbrev cX12_priceOf : ByteArray := prog_9_method_62_code
def yX12_priceOf : MethodName := ⟨RX12, "priceOf", "(LVeneerLoftModel$Panel;)I"⟩
abbrev cX12_price : ByteArray := prog_9_method_63_code
def yX12_price : MethodName := ⟨RX12, "price", "(I)I"⟩
abbrev cX12_leavesIn : ByteArray := prog_9_method_64_code
def yX12_leavesIn : MethodName := ⟨RX12, "leavesIn", "(Z)I"⟩
abbrev cX12_usedShare : ByteArray := prog_9_method_65_code
def yX12_usedShare : MethodName := ⟨RX12, "usedShare", "()F"⟩
abbrev cX12_meanFigure : ByteArray := prog_9_method_66_code
def yX12_meanFigure : MethodName := ⟨RX12, "meanFigure", "()D"⟩
abbrev cX12_checksum : ByteArray := prog_9_method_67_code
def yX12_checksum : MethodName := ⟨RX12, "checksum", "()J"⟩
abbrev cX12_isTrue : ByteArray := prog_9_method_68_code
def yX12_isTrue : MethodName := ⟨RX12, "isTrue", "()Z"⟩
def RJx145de : String := "java/io/Serializable"
def TJx145de : u_T := fun k => match k with
  | _ => ("", "", "", false)
def tyJx145de : Nat → FieldType := fun k => match k with
  | _ => .int
theorem nmJx145de : ∀ a, a < 0 → ∀ b, b < 0 → a ≠ b → (TJx145de a).2.1 ≠ (TJx145de b).2.1 := by decide +kernel
theorem tyJx145de_ok : ∀ k, k < 0 → parseFieldDescriptor (TJx145de k).2.2.1 = some (tyJx145de k) := by decide +kernel
def RJx00060 : String := "java/lang/ArrayIndexOutOfBoundsException"
def TJx00060 : u_T := fun k => match k with
  | 0 => ("java/lang/Throwable", "backtrace", "Ljava/lang/Object;", false)
  | 1 => ("java/lang/Throwable", "detailMessage", "Ljava/lang/String;", false)
  | 2 => ("java/lang/Throwable", "cause", "Ljava/lang/Throwable;", false)
  | 3 => ("java/lang/Throwable", "stackTrace", "[Ljava/lang/StackTraceElement;", false)
  | 4 => ("java/lang/Throwable", "depth", "I", false)
  | _ => ("java/lang/Throwable", "suppressedExceptions", "Ljava/util/List;", false)
def tyJx00060 : Nat → FieldType := fun k => match k with
  | 0 => .object "java/lang/Object"
  | 1 => .object "java/lang/String"
  | 2 => .object "java/lang/Throwable"
  | 3 => .array (.object "java/lang/StackTraceElement")
  | 4 => .int
  | _ => .object "java/util/List"
theorem nmJx00060 : ∀ a, a < 6 → ∀ b, b < 6 → a ≠ b → (TJx00060 a).2.1 ≠ (TJx00060 b).2.1 := by decide +kernel
theorem tyJx00060_ok : ∀ k, k < 6 → parseFieldDescriptor (TJx00060 k).2.2.1 = some (tyJx00060 k) := by decide +kernel
abbrev cJx00060_init_a7421 : ByteArray := prog_17_method_2_code
def yJx00060_init_a7421 : MethodName := ⟨RJx00060, "<init>", "(Ljava/lang/String;)V"⟩
def RJx9f9b0 : String := "java/lang/CharSequence"
def TJx9f9b0 : u_T := fun k => match k with
  | _ => ("", "", "", false)
def tyJx9f9b0 : Nat → FieldType := fun k => match k with
  | _ => .int
theorem nmJx9f9b0 : ∀ a, a < 0 → ∀ b, b < 0 → a ≠ b → (TJx9f9b0 a).2.1 ≠ (TJx9f9b0 b).2.1 := by decide +kernel
theorem tyJx9f9b0_ok : ∀ k, k < 0 → parseFieldDescriptor (TJx9f9b0 k).2.2.1 = some (tyJx9f9b0 k) := by decide +kernel
def RJ11 : String := "java/lang/Character"
def TJ11 : u_T := fun k => match k with
  | _ => ("", "", "", false)
def tyJ11 : Nat → FieldType := fun k => match k with
  | _ => .int
theorem nmJ11 : ∀ a, a < 0 → ∀ b, b < 0 → a ≠ b → (TJ11 a).2.1 ≠ (TJ11 b).2.1 := by decide +kernel
theorem tyJ11_ok : ∀ k, k < 0 → parseFieldDescriptor (TJ11 k).2.2.1 = some (tyJ11 k) := by decide +kernel
abbrev cJ11_isValidCodePoint_9a6ad : ByteArray := prog_19_method_11_code
def yJ11_isValidCodePoint_9a6ad : MethodName := ⟨RJ11, "isValidCodePoint", "(I)Z"⟩
abbrev cJ11_highSurrogate_5068e : ByteArray := prog_19_method_28_code
def yJ11_highSurrogate_5068e : MethodName := ⟨RJ11, "highSurrogate", "(I)C"⟩
abbrev cJ11_lowSurrogate_5068e : ByteArray := prog_19_method_29_code
def yJ11_lowSurrogate_5068e : MethodName := ⟨RJ11, "lowSurrogate", "(I)C"⟩
def RJx8e188 : String := "java/lang/Cloneable"
def TJx8e188 : u_T := fun k => match k with
  | _ => ("", "", "", false)
def tyJx8e188 : Nat → FieldType := fun k => match k with
  | _ => .int
theorem nmJx8e188 : ∀ a, a < 0 → ∀ b, b < 0 → a ≠ b → (TJx8e188 a).2.1 ≠ (TJx8e188 b).2.1 := by decide +kernel
theorem tyJx8e188_ok : ∀ k, k < 0 → parseFieldDescriptor (TJx8e188 k).2.2.1 = some (tyJx8e188 k) := by decide +kernel
def RJxb160c : String := "java/lang/Comparable"
def TJxb160c : u_T := fun k => match k with
  | _ => ("", "", "", false)
def tyJxb160c : Nat → FieldType := fun k => match k with
  | _ => .int
theorem nmJxb160c : ∀ a, a < 0 → ∀ b, b < 0 → a ≠ b → (TJxb160c a).2.1 ≠ (TJxb160c b).2.1 := by decide +kernel
theorem tyJxb160c_ok : ∀ k, k < 0 → parseFieldDescriptor (TJxb160c k).2.2.1 = some (tyJxb160c k) := by decide +kernel
def RJxabbfe : String := "java/lang/Integer$IntegerCache"
def TJxabbfe : u_T := fun k => match k with
  | _ => ("", "", "", false)
def tyJxabbfe : Nat → FieldType := fun k => match k with
  | _ => .int
theorem nmJxabbfe : ∀ a, a < 0 → ∀ b, b < 0 → a ≠ b → (TJxabbfe a).2.1 ≠ (TJxabbfe b).2.1 := by decide +kernel
theorem tyJxabbfe_ok : ∀ k, k < 0 → parseFieldDescriptor (TJxabbfe k).2.2.1 = some (tyJxabbfe k) := by decide +kernel
def RJ6 : String := "java/lang/Integer"
def TJ6 : u_T := fun k => match k with
  | _ => ("java/lang/Integer", "value", "I", true)
def tyJ6 : Nat → FieldType := fun k => match k with
  | _ => .int
theorem nmJ6 : ∀ a, a < 1 → ∀ b, b < 1 → a ≠ b → (TJ6 a).2.1 ≠ (TJ6 b).2.1 := by decide +kernel
theorem tyJ6_ok : ∀ k, k < 1 → parseFieldDescriptor (TJ6 k).2.2.1 = some (tyJ6 k) := by decide +kernel
abbrev cJ6_valueOf_2dffe : ByteArray := prog_26_method_22_code
def yJ6_valueOf_2dffe : MethodName := ⟨RJ6, "valueOf", "(I)Ljava/lang/Integer;"⟩
abbrev cJ6_init_d00df : ByteArray := prog_26_method_23_code
def yJ6_init_d00df : MethodName := ⟨RJ6, "<init>", "(I)V"⟩
abbrev cJ6_intValue_8abf5 : ByteArray := prog_26_method_27_code
def yJ6_intValue_8abf5 : MethodName := ⟨RJ6, "intValue", "()I"⟩
def RJxab1ab : String := "java/lang/Iterable"
def TJxab1ab : u_T := fun k => match k with
  | _ => ("", "", "", false)
def tyJxab1ab : Nat → FieldType := fun k => match k with
  | _ => .int
theorem nmJxab1ab : ∀ a, a < 0 → ∀ b, b < 0 → a ≠ b → (TJxab1ab a).2.1 ≠ (TJxab1ab b).2.1 := by decide +kernel
theorem tyJxab1ab_ok : ∀ k, k < 0 → parseFieldDescriptor (TJxab1ab k).2.2.1 = some (tyJxab1ab k) := by decide +kernel
def RJ9 : String := "java/lang/Math"
def TJ9 : u_T := fun k => match k with
  | _ => ("", "", "", false)
def tyJ9 : Nat → FieldType := fun k => match k with
  | _ => .int
theorem nmJ9 : ∀ a, a < 0 → ∀ b, b < 0 → a ≠ b → (TJ9 a).2.1 ≠ (TJ9 b).2.1 := by decide +kernel
theorem tyJ9_ok : ∀ k, k < 0 → parseFieldDescriptor (TJ9 k).2.2.1 = some (tyJ9 k) := by decide +kernel
abbrev cJ9_abs_0f7a4 : ByteArray := prog_29_method_59_code
def yJ9_abs_0f7a4 : MethodName := ⟨RJ9, "abs", "(I)I"⟩
abbrev cJ9_max_7cf53 : ByteArray := prog_29_method_65_code
def yJ9_max_7cf53 : MethodName := ⟨RJ9, "max", "(II)I"⟩
abbrev cJ9_min_7cf53 : ByteArray := prog_29_method_69_code
def yJ9_min_7cf53 : MethodName := ⟨RJ9, "min", "(II)I"⟩
def RJxd2413 : String := "java/lang/Number"
def TJxd2413 : u_T := fun k => match k with
  | _ => ("", "", "", false)
def tyJxd2413 : Nat → FieldType := fun k => match k with
  | _ => .int
theorem nmJxd2413 : ∀ a, a < 0 → ∀ b, b < 0 → a ≠ b → (TJxd2413 a).2.1 ≠ (TJxd2413 b).2.1 := by decide +kernel
theorem tyJxd2413_ok : ∀ k, k < 0 → parseFieldDescriptor (TJxd2413 k).2.2.1 = some (tyJxd2413 k) := by decide +kernel
abbrev cJxd2413_init_da8c8 : ByteArray := prog_30_method_1_code
def yJxd2413_init_da8c8 : MethodName := ⟨RJxd2413, "<init>", "()V"⟩
def RJ0 : String := "java/lang/String"
def TJ0 : u_T := fun k => match k with
  | 0 => ("java/lang/String", "value", "[B", true)
  | _ => ("java/lang/String", "coder", "B", true)
def tyJ0 : Nat → FieldType := fun k => match k with
  | 0 => .array .byte
  | _ => .byte
theorem nmJ0 : ∀ a, a < 2 → ∀ b, b < 2 → a ≠ b → (TJ0 a).2.1 ≠ (TJ0 b).2.1 := by decide +kernel
theorem tyJ0_ok : ∀ k, k < 2 → parseFieldDescriptor (TJ0 k).2.2.1 = some (tyJ0 k) := by decide +kernel
abbrev cJ0_length_8abf5 : ByteArray := prog_32_method_54_code
def yJ0_length_8abf5 : MethodName := ⟨RJ0, "length", "()I"⟩
abbrev cJ0_indexOf_0f7a4 : ByteArray := prog_32_method_79_code
def yJ0_indexOf_0f7a4 : MethodName := ⟨RJ0, "indexOf", "(I)I"⟩
abbrev cJ0_indexOf_7cf53 : ByteArray := prog_32_method_80_code
def yJ0_indexOf_7cf53 : MethodName := ⟨RJ0, "indexOf", "(II)I"⟩
abbrev cJ0_coder_7d493 : ByteArray := prog_32_method_152_code
def yJ0_coder_7d493 : MethodName := ⟨RJ0, "coder", "()B"⟩
abbrev cJ0_isLatin1_aae02 : ByteArray := prog_32_method_154_code
def yJ0_isLatin1_aae02 : MethodName := ⟨RJ0, "isLatin1", "()Z"⟩
abbrev cJ0_checkBoundsBeginEnd_23922 : ByteArray := prog_32_method_158_code
def yJ0_checkBoundsBeginEnd_23922 : MethodName := ⟨RJ0, "checkBoundsBeginEnd", "(III)V"⟩
def RJ1 : String := "java/lang/StringLatin1"
def TJ1 : u_T := fun k => match k with
  | _ => ("", "", "", false)
def tyJ1 : Nat → FieldType := fun k => match k with
  | _ => .int
theorem nmJ1 : ∀ a, a < 0 → ∀ b, b < 0 → a ≠ b → (TJ1 a).2.1 ≠ (TJ1 b).2.1 := by decide +kernel
theorem tyJ1_ok : ∀ k, k < 0 → parseFieldDescriptor (TJ1 k).2.2.1 = some (tyJ1 k) := by decide +kernel
abbrev cJ1_canEncode_9a6ad : ByteArray := prog_33_method_4_code
def yJ1_canEncode_9a6ad : MethodName := ⟨RJ1, "canEncode", "(I)Z"⟩
abbrev cJ1_indexOf_4cfef : ByteArray := prog_33_method_22_code
def yJ1_indexOf_4cfef : MethodName := ⟨RJ1, "indexOf", "([BIII)I"⟩
abbrev cJ1_indexOfChar_4cfef : ByteArray := prog_33_method_23_code
def yJ1_indexOfChar_4cfef : MethodName := ⟨RJ1, "indexOfChar", "([BIII)I"⟩
def RJ2 : String := "java/lang/StringUTF16"
def TJ2 : u_T := fun k => match k with
  | _ => ("", "", "", false)
def tyJ2 : Nat → FieldType := fun k => match k with
  | _ => .int
theorem nmJ2 : ∀ a, a < 0 → ∀ b, b < 0 → a ≠ b → (TJ2 a).2.1 ≠ (TJ2 b).2.1 := by decide +kernel
theorem tyJ2_ok : ∀ k, k < 0 → parseFieldDescriptor (TJ2 k).2.2.1 = some (tyJ2 k) := by decide +kernel
abbrev cJ2_getChar_3b067 : ByteArray := prog_34_method_5_code
def yJ2_getChar_3b067 : MethodName := ⟨RJ2, "getChar", "([BI)C"⟩
abbrev cJ2_length_9d52b : ByteArray := prog_34_method_6_code
def yJ2_length_9d52b : MethodName := ⟨RJ2, "length", "([B)I"⟩
abbrev cJ2_indexOf_4cfef : ByteArray := prog_34_method_40_code
def yJ2_indexOf_4cfef : MethodName := ⟨RJ2, "indexOf", "([BIII)I"⟩
abbrev cJ2_indexOfChar_4cfef : ByteArray := prog_34_method_47_code
def yJ2_indexOfChar_4cfef : MethodName := ⟨RJ2, "indexOfChar", "([BIII)I"⟩
abbrev cJ2_indexOfCharUnsafe_4cfef : ByteArray := prog_34_method_48_code
def yJ2_indexOfCharUnsafe_4cfef : MethodName := ⟨RJ2, "indexOfCharUnsafe", "([BIII)I"⟩
abbrev cJ2_indexOfSupplementary_4cfef : ByteArray := prog_34_method_49_code
def yJ2_indexOfSupplementary_4cfef : MethodName := ⟨RJ2, "indexOfSupplementary", "([BIII)I"⟩
abbrev cJ2_checkBoundsBeginEnd_d044e : ByteArray := prog_34_method_93_code
def yJ2_checkBoundsBeginEnd_d044e : MethodName := ⟨RJ2, "checkBoundsBeginEnd", "(II[B)V"⟩
def RJ10 : String := "java/lang/System"
def TJ10 : u_T := fun k => match k with
  | _ => ("", "", "", false)
def tyJ10 : Nat → FieldType := fun k => match k with
  | _ => .int
theorem nmJ10 : ∀ a, a < 0 → ∀ b, b < 0 → a ≠ b → (TJ10 a).2.1 ≠ (TJ10 b).2.1 := by decide +kernel
theorem tyJ10_ok : ∀ k, k < 0 → parseFieldDescriptor (TJ10 k).2.2.1 = some (tyJ10 k) := by decide +kernel
def RJxfd54e : String := "java/lang/constant/Constable"
def TJxfd54e : u_T := fun k => match k with
  | _ => ("", "", "", false)
def tyJxfd54e : Nat → FieldType := fun k => match k with
  | _ => .int
theorem nmJxfd54e : ∀ a, a < 0 → ∀ b, b < 0 → a ≠ b → (TJxfd54e a).2.1 ≠ (TJxfd54e b).2.1 := by decide +kernel
theorem tyJxfd54e_ok : ∀ k, k < 0 → parseFieldDescriptor (TJxfd54e k).2.2.1 = some (tyJxfd54e k) := by decide +kernel
def RJx3cf43 : String := "java/lang/constant/ConstantDesc"
def TJx3cf43 : u_T := fun k => match k with
  | _ => ("", "", "", false)
def tyJx3cf43 : Nat → FieldType := fun k => match k with
  | _ => .int
theorem nmJx3cf43 : ∀ a, a < 0 → ∀ b, b < 0 → a ≠ b → (TJx3cf43 a).2.1 ≠ (TJx3cf43 b).2.1 := by decide +kernel
theorem tyJx3cf43_ok : ∀ k, k < 0 → parseFieldDescriptor (TJx3cf43 k).2.2.1 = some (tyJx3cf43 k) := by decide +kernel
def RJxa1e45 : String := "java/util/AbstractCollection"
def TJxa1e45 : u_T := fun k => match k with
  | _ => ("", "", "", false)
def tyJxa1e45 : Nat → FieldType := fun k => match k with
  | _ => .int
theorem nmJxa1e45 : ∀ a, a < 0 → ∀ b, b < 0 → a ≠ b → (TJxa1e45 a).2.1 ≠ (TJxa1e45 b).2.1 := by decide +kernel
theorem tyJxa1e45_ok : ∀ k, k < 0 → parseFieldDescriptor (TJxa1e45 k).2.2.1 = some (tyJxa1e45 k) := by decide +kernel
abbrev cJxa1e45_init_da8c8 : ByteArray := prog_40_method_1_code
def yJxa1e45_init_da8c8 : MethodName := ⟨RJxa1e45, "<init>", "()V"⟩
def RJxc12de : String := "java/util/AbstractList"
def TJxc12de : u_T := fun k => match k with
  | _ => ("", "", "", false)
def tyJxc12de : Nat → FieldType := fun k => match k with
  | _ => .int
theorem nmJxc12de : ∀ a, a < 0 → ∀ b, b < 0 → a ≠ b → (TJxc12de a).2.1 ≠ (TJxc12de b).2.1 := by decide +kernel
theorem tyJxc12de_ok : ∀ k, k < 0 → parseFieldDescriptor (TJxc12de k).2.2.1 = some (tyJxc12de k) := by decide +kernel
abbrev cJxc12de_init_da8c8 : ByteArray := prog_41_method_1_code
def yJxc12de_init_da8c8 : MethodName := ⟨RJxc12de, "<init>", "()V"⟩
def RJx35411 : String := "java/util/ArrayList$Itr"
def TJx35411 : u_T := fun k => match k with
  | 0 => ("java/util/ArrayList$Itr", "cursor", "I", false)
  | 1 => ("java/util/ArrayList$Itr", "lastRet", "I", false)
  | 2 => ("java/util/ArrayList$Itr", "expectedModCount", "I", false)
  | _ => ("java/util/ArrayList$Itr", "this$0", "Ljava/util/ArrayList;", true)
def tyJx35411 : Nat → FieldType := fun k => match k with
  | 0 => .int
  | 1 => .int
  | 2 => .int
  | _ => .object "java/util/ArrayList"
theorem nmJx35411 : ∀ a, a < 4 → ∀ b, b < 4 → a ≠ b → (TJx35411 a).2.1 ≠ (TJx35411 b).2.1 := by decide +kernel
theorem tyJx35411_ok : ∀ k, k < 4 → parseFieldDescriptor (TJx35411 k).2.2.1 = some (tyJx35411 k) := by decide +kernel
abbrev cJx35411_init_45d68 : ByteArray := prog_43_method_1_code
def yJx35411_init_45d68 : MethodName := ⟨RJx35411, "<init>", "(Ljava/util/ArrayList;)V"⟩
abbrev cJx35411_hasNext_aae02 : ByteArray := prog_43_method_2_code
def yJx35411_hasNext_aae02 : MethodName := ⟨RJx35411, "hasNext", "()Z"⟩
abbrev cJx35411_next_0502b : ByteArray := prog_43_method_3_code
def yJx35411_next_0502b : MethodName := ⟨RJx35411, "next", "()Ljava/lang/Object;"⟩
abbrev cJx35411_checkForComodification_da8c8 : ByteArray := prog_43_method_6_code
def yJx35411_checkForComodification_da8c8 : MethodName := ⟨RJx35411, "checkForComodification", "()V"⟩
def RJx4a65c : String := "java/util/ArrayList"
def TJx4a65c : u_T := fun k => match k with
  | 0 => ("java/util/AbstractList", "modCount", "I", false)
  | 1 => ("java/util/ArrayList", "elementData", "[Ljava/lang/Object;", false)
  | _ => ("java/util/ArrayList", "size", "I", false)
def tyJx4a65c : Nat → FieldType := fun k => match k with
  | 0 => .int
  | 1 => .array (.object "java/lang/Object")
  | _ => .int
theorem nmJx4a65c : ∀ a, a < 3 → ∀ b, b < 3 → a ≠ b → (TJx4a65c a).2.1 ≠ (TJx4a65c b).2.1 := by decide +kernel
theorem tyJx4a65c_ok : ∀ k, k < 3 → parseFieldDescriptor (TJx4a65c k).2.2.1 = some (tyJx4a65c k) := by decide +kernel
abbrev cJx4a65c_init_da8c8 : ByteArray := prog_42_method_2_code
def yJx4a65c_init_da8c8 : MethodName := ⟨RJx4a65c, "<init>", "()V"⟩
abbrev cJx4a65c_grow_92f84 : ByteArray := prog_42_method_6_code
def yJx4a65c_grow_92f84 : MethodName := ⟨RJx4a65c, "grow", "(I)[Ljava/lang/Object;"⟩
abbrev cJx4a65c_grow_d5877 : ByteArray := prog_42_method_7_code
def yJx4a65c_grow_d5877 : MethodName := ⟨RJx4a65c, "grow", "()[Ljava/lang/Object;"⟩
abbrev cJx4a65c_size_8abf5 : ByteArray := prog_42_method_8_code
def yJx4a65c_size_8abf5 : MethodName := ⟨RJx4a65c, "size", "()I"⟩
abbrev cJx4a65c_isEmpty_aae02 : ByteArray := prog_42_method_9_code
def yJx4a65c_isEmpty_aae02 : MethodName := ⟨RJx4a65c, "isEmpty", "()Z"⟩
abbrev cJx4a65c_elementData_915e3 : ByteArray := prog_42_method_18_code
def yJx4a65c_elementData_915e3 : MethodName := ⟨RJx4a65c, "elementData", "(I)Ljava/lang/Object;"⟩
abbrev cJx4a65c_get_915e3 : ByteArray := prog_42_method_20_code
def yJx4a65c_get_915e3 : MethodName := ⟨RJx4a65c, "get", "(I)Ljava/lang/Object;"⟩
abbrev cJx4a65c_add_72be8 : ByteArray := prog_42_method_24_code
def yJx4a65c_add_72be8 : MethodName := ⟨RJx4a65c, "add", "(Ljava/lang/Object;[Ljava/lang/Object;I)V"⟩
abbrev cJx4a65c_add_9ea2d : ByteArray := prog_42_method_25_code
def yJx4a65c_add_9ea2d : MethodName := ⟨RJx4a65c, "add", "(Ljava/lang/Object;)Z"⟩
abbrev cJx4a65c_remove_915e3 : ByteArray := prog_42_method_29_code
def yJx4a65c_remove_915e3 : MethodName := ⟨RJx4a65c, "remove", "(I)Ljava/lang/Object;"⟩
abbrev cJx4a65c_fastRemove_b59b0 : ByteArray := prog_42_method_39_code
def yJx4a65c_fastRemove_b59b0 : MethodName := ⟨RJx4a65c, "fastRemove", "([Ljava/lang/Object;I)V"⟩
abbrev cJx4a65c_iterator_32c93 : ByteArray := prog_42_method_55_code
def yJx4a65c_iterator_32c93 : MethodName := ⟨RJx4a65c, "iterator", "()Ljava/util/Iterator;"⟩
def RJ7 : String := "java/util/Arrays"
def TJ7 : u_T := fun k => match k with
  | _ => ("", "", "", false)
def tyJ7 : Nat → FieldType := fun k => match k with
  | _ => .int
theorem nmJ7 : ∀ a, a < 0 → ∀ b, b < 0 → a ≠ b → (TJ7 a).2.1 ≠ (TJ7 b).2.1 := by decide +kernel
theorem tyJ7_ok : ∀ k, k < 0 → parseFieldDescriptor (TJ7 k).2.2.1 = some (tyJ7 k) := by decide +kernel
abbrev cJ7_copyOf_1904c : ByteArray := prog_44_method_119_code
def yJ7_copyOf_1904c : MethodName := ⟨RJ7, "copyOf", "([Ljava/lang/Object;I)[Ljava/lang/Object;"⟩
abbrev cJ7_copyOf_6403c : ByteArray := prog_44_method_120_code
def yJ7_copyOf_6403c : MethodName := ⟨RJ7, "copyOf", "([Ljava/lang/Object;ILjava/lang/Class;)[Ljava/lang/Object;"⟩
def RJx5ef63 : String := "java/util/Collection"
def TJx5ef63 : u_T := fun k => match k with
  | _ => ("", "", "", false)
def tyJx5ef63 : Nat → FieldType := fun k => match k with
  | _ => .int
theorem nmJx5ef63 : ∀ a, a < 0 → ∀ b, b < 0 → a ≠ b → (TJx5ef63 a).2.1 ≠ (TJx5ef63 b).2.1 := by decide +kernel
theorem tyJx5ef63_ok : ∀ k, k < 0 → parseFieldDescriptor (TJx5ef63 k).2.2.1 = some (tyJx5ef63 k) := by decide +kernel
def RJx4d0d8 : String := "java/util/Iterator"
def TJx4d0d8 : u_T := fun k => match k with
  | _ => ("", "", "", false)
def tyJx4d0d8 : Nat → FieldType := fun k => match k with
  | _ => .int
theorem nmJx4d0d8 : ∀ a, a < 0 → ∀ b, b < 0 → a ≠ b → (TJx4d0d8 a).2.1 ≠ (TJx4d0d8 b).2.1 := by decide +kernel
theorem tyJx4d0d8_ok : ∀ k, k < 0 → parseFieldDescriptor (TJx4d0d8 k).2.2.1 = some (tyJx4d0d8 k) := by decide +kernel
def RJxbd725 : String := "java/util/List"
def TJxbd725 : u_T := fun k => match k with
  | _ => ("", "", "", false)
def tyJxbd725 : Nat → FieldType := fun k => match k with
  | _ => .int
theorem nmJxbd725 : ∀ a, a < 0 → ∀ b, b < 0 → a ≠ b → (TJxbd725 a).2.1 ≠ (TJxbd725 b).2.1 := by decide +kernel
theorem tyJxbd725_ok : ∀ k, k < 0 → parseFieldDescriptor (TJxbd725 k).2.2.1 = some (tyJxbd725 k) := by decide +kernel
def RJ15 : String := "java/util/Objects"
def TJ15 : u_T := fun k => match k with
  | _ => ("", "", "", false)
def tyJ15 : Nat → FieldType := fun k => match k with
  | _ => .int
theorem nmJ15 : ∀ a, a < 0 → ∀ b, b < 0 → a ≠ b → (TJ15 a).2.1 ≠ (TJ15 b).2.1 := by decide +kernel
theorem tyJ15_ok : ∀ k, k < 0 → parseFieldDescriptor (TJ15 k).2.2.1 = some (tyJ15 k) := by decide +kernel
abbrev cJ15_checkIndex_7cf53 : ByteArray := prog_49_method_17_code
def yJ15_checkIndex_7cf53 : MethodName := ⟨RJ15, "checkIndex", "(II)I"⟩
def RJxf0a74 : String := "java/util/RandomAccess"
def TJxf0a74 : u_T := fun k => match k with
  | _ => ("", "", "", false)
def tyJxf0a74 : Nat → FieldType := fun k => match k with
  | _ => .int
theorem nmJxf0a74 : ∀ a, a < 0 → ∀ b, b < 0 → a ≠ b → (TJxf0a74 a).2.1 ≠ (TJxf0a74 b).2.1 := by decide +kernel
theorem tyJxf0a74_ok : ∀ k, k < 0 → parseFieldDescriptor (TJxf0a74 k).2.2.1 = some (tyJxf0a74 k) := by decide +kernel
def RJxa66e6 : String := "java/util/SequencedCollection"
def TJxa66e6 : u_T := fun k => match k with
  | _ => ("", "", "", false)
def tyJxa66e6 : Nat → FieldType := fun k => match k with
  | _ => .int
theorem nmJxa66e6 : ∀ a, a < 0 → ∀ b, b < 0 → a ≠ b → (TJxa66e6 a).2.1 ≠ (TJxa66e6 b).2.1 := by decide +kernel
theorem tyJxa66e6_ok : ∀ k, k < 0 → parseFieldDescriptor (TJxa66e6 k).2.2.1 = some (tyJxa66e6 k) := by decide +kernel
def RJ8 : String := "jdk/internal/util/ArraysSupport"
def TJ8 : u_T := fun k => match k with
  | _ => ("", "", "", false)
def tyJ8 : Nat → FieldType := fun k => match k with
  | _ => .int
theorem nmJ8 : ∀ a, a < 0 → ∀ b, b < 0 → a ≠ b → (TJ8 a).2.1 ≠ (TJ8 b).2.1 := by decide +kernel
theorem tyJ8_ok : ∀ k, k < 0 → parseFieldDescriptor (TJ8 k).2.2.1 = some (tyJ8 k) := by decide +kernel
abbrev cJ8_newLength_cabcc : ByteArray := prog_52_method_27_code
def yJ8_newLength_cabcc : MethodName := ⟨RJ8, "newLength", "(III)I"⟩
abbrev cJ8_hugeLength_7cf53 : ByteArray := prog_52_method_28_code
def yJ8_hugeLength_7cf53 : MethodName := ⟨RJ8, "hugeLength", "(II)I"⟩
def RJ3 : String := "jdk/internal/util/Preconditions"
def TJ3 : u_T := fun k => match k with
  | _ => ("", "", "", false)
def tyJ3 : Nat → FieldType := fun k => match k with
  | _ => .int
theorem nmJ3 : ∀ a, a < 0 → ∀ b, b < 0 → a ≠ b → (TJ3 a).2.1 ≠ (TJ3 b).2.1 := by decide +kernel
theorem tyJ3_ok : ∀ k, k < 0 → parseFieldDescriptor (TJ3 k).2.2.1 = some (tyJ3 k) := by decide +kernel
abbrev cJ3_checkIndex_8e157 : ByteArray := prog_53_method_11_code
def yJ3_checkIndex_8e157 : MethodName := ⟨RJ3, "checkIndex", "(IILjava/util/function/BiFunction;)I"⟩
abbrev cJ3_checkFromToIndex_8c36e : ByteArray := prog_53_method_12_code
def yJ3_checkFromToIndex_8c36e : MethodName := ⟨RJ3, "checkFromToIndex", "(IIILjava/util/function/BiFunction;)I"⟩
def RL : String := "VeneerLoftLaw"
abbrev cL_log : ByteArray := method_3_code
def yL_log : MethodName := ⟨RL, "log", "(LVeneerLoft;CIIC[J)I"⟩
abbrev cL_slice : ByteArray := method_4_code
def yL_slice : MethodName := ⟨RL, "slice", "(LVeneerLoft;ICI[J)I"⟩
abbrev cL_leaves : ByteArray := method_5_code
def yL_leaves : MethodName := ⟨RL, "leaves", "(LVeneerLoft;I[J)I"⟩
abbrev cL_width : ByteArray := method_6_code
def yL_width : MethodName := ⟨RL, "width", "(LVeneerLoft;II[J)I"⟩
abbrev cL_area : ByteArray := method_7_code
def yL_area : MethodName := ⟨RL, "area", "(LVeneerLoft;II[J)I"⟩
abbrev cL_figure : ByteArray := method_8_code
def yL_figure : MethodName := ⟨RL, "figure", "(LVeneerLoft;II[J)I"⟩
abbrev cL_isUsed : ByteArray := method_9_code
def yL_isUsed : MethodName := ⟨RL, "isUsed", "(LVeneerLoft;II[J)I"⟩
abbrev cL_panel : ByteArray := method_10_code
def yL_panel : MethodName := ⟨RL, "panel", "(LVeneerLoft;IICI[J)I"⟩
abbrev cL_face : ByteArray := method_11_code
def yL_face : MethodName := ⟨RL, "face", "(LVeneerLoft;IIIIC[J)I"⟩
abbrev cL_back : ByteArray := method_12_code
def yL_back : MethodName := ⟨RL, "back", "(LVeneerLoft;IIII[J)I"⟩
abbrev cL_jump : ByteArray := method_13_code
def yL_jump : MethodName := ⟨RL, "jump", "(LVeneerLoft;I[J)I"⟩
abbrev cL_bestFirst : ByteArray := method_14_code
def yL_bestFirst : MethodName := ⟨RL, "bestFirst", "(LVeneerLoft;IIIC[J)I"⟩
abbrev cL_press : ByteArray := method_15_code
def yL_press : MethodName := ⟨RL, "press", "(LVeneerLoft;IIII[J)I"⟩
abbrev cL_slit : ByteArray := method_16_code
def yL_slit : MethodName := ⟨RL, "slit", "(LVeneerLoft;I[J)I"⟩
abbrev cL_air : ByteArray := method_17_code
def yL_air : MethodName := ⟨RL, "air", "(LVeneerLoft;I[J)I"⟩
abbrev cL_cup : ByteArray := method_18_code
def yL_cup : MethodName := ⟨RL, "cup", "(LVeneerLoft;II[J)I"⟩
abbrev cL_isFlat : ByteArray := method_19_code
def yL_isFlat : MethodName := ⟨RL, "isFlat", "(LVeneerLoft;I[J)I"⟩
abbrev cL_cupMonth : ByteArray := method_20_code
def yL_cupMonth : MethodName := ⟨RL, "cupMonth", "(LVeneerLoft;I[J)I"⟩
abbrev cL_scrape : ByteArray := method_21_code
def yL_scrape : MethodName := ⟨RL, "scrape", "(LVeneerLoft;II[J)I"⟩
abbrev cL_isThrough : ByteArray := method_22_code
def yL_isThrough : MethodName := ⟨RL, "isThrough", "(LVeneerLoft;I[J)I"⟩
abbrev cL_pad : ByteArray := method_23_code
def yL_pad : MethodName := ⟨RL, "pad", "(LVeneerLoft;II[J)I"⟩
abbrev cL_ghosts : ByteArray := method_24_code
def yL_ghosts : MethodName := ⟨RL, "ghosts", "(LVeneerLoft;I[J)I"⟩
abbrev cL_picture : ByteArray := method_25_code
def yL_picture : MethodName := ⟨RL, "picture", "(LVeneerLoft;[J)I"⟩
abbrev cL_draw : ByteArray := method_26_code
def yL_draw : MethodName := ⟨RL, "draw", "(LVeneerLoft;IIIIC[J)I"⟩
abbrev cL_fieldAt : ByteArray := method_27_code
def yL_fieldAt : MethodName := ⟨RL, "fieldAt", "(LVeneerLoft;III[J)I"⟩
abbrev cL_pieces : ByteArray := method_28_code
def yL_pieces : MethodName := ⟨RL, "pieces", "(LVeneerLoft;I[J)I"⟩
abbrev cL_islands : ByteArray := method_29_code
def yL_islands : MethodName := ⟨RL, "islands", "(LVeneerLoft;I[J)I"⟩
abbrev cL_saw : ByteArray := method_30_code
def yL_saw : MethodName := ⟨RL, "saw", "(LVeneerLoft;IIII[J)I"⟩
abbrev cL_leafAt : ByteArray := method_31_code
def yL_leafAt : MethodName := ⟨RL, "leafAt", "(LVeneerLoft;IIII[J)I"⟩
abbrev cL_contrast : ByteArray := method_32_code
def yL_contrast : MethodName := ⟨RL, "contrast", "(LVeneerLoft;II[J)I"⟩
abbrev cL_sand : ByteArray := method_33_code
def yL_sand : MethodName := ⟨RL, "sand", "(LVeneerLoft;ICII[J)I"⟩
abbrev cL_burnt : ByteArray := method_34_code
def yL_burnt : MethodName := ⟨RL, "burnt", "(LVeneerLoft;I[J)I"⟩
abbrev cL_gap : ByteArray := method_35_code
def yL_gap : MethodName := ⟨RL, "gap", "(LVeneerLoft;III[J)I"⟩
abbrev cL_takeOffcut : ByteArray := method_36_code
def yL_takeOffcut : MethodName := ⟨RL, "takeOffcut", "(LVeneerLoft;II[J)I"⟩
abbrev cL_account : ByteArray := method_37_code
def yL_account : MethodName := ⟨RL, "account", "(LVeneerLoft;C[J)I"⟩
abbrev cL_price : ByteArray := method_38_code
def yL_price : MethodName := ⟨RL, "price", "(LVeneerLoft;I[J)I"⟩
abbrev cL_usedShare : ByteArray := method_39_code
def yL_usedShare : MethodName := ⟨RL, "usedShare", "(LVeneerLoft;[D)I"⟩
abbrev cL_meanFigure : ByteArray := method_40_code
def yL_meanFigure : MethodName := ⟨RL, "meanFigure", "(LVeneerLoft;[D)I"⟩
abbrev cL_law : ByteArray := code
def yL_law : MethodName := ⟨RL, "law", "([I)Z"⟩
