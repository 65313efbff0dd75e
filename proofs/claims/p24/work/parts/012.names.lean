/-! ===== BEGIN printed: names, fields, word lists, decode rows ===== -/
def RX0 : String := "TableWright$Layout"
def TX0 : u_T := fun k => match k with
  | 0 => ("TableWright$Layout", "isFit", "Z", false)
  | 1 => ("TableWright$Layout", "room", "I", false)
  | 2 => ("TableWright$Layout", "widths", "[I", true)
  | 3 => ("TableWright$Layout", "heights", "[I", true)
  | 4 => ("TableWright$Layout", "rowPages", "[I", true)
  | 5 => ("TableWright$Layout", "notePages", "[I", true)
  | 6 => ("TableWright$Layout", "pageCount", "I", false)
  | 7 => ("TableWright$Layout", "firstRows", "[I", true)
  | 8 => ("TableWright$Layout", "rowsOn", "[I", true)
  | 9 => ("TableWright$Layout", "notesOn", "[I", true)
  | 10 => ("TableWright$Layout", "left", "[I", true)
  | 11 => ("TableWright$Layout", "lastRows", "[I", true)
  | 12 => ("TableWright$Layout", "nextRow", "I", false)
  | _ => ("TableWright$Layout", "nextNote", "I", false)
def tyX0 : Nat → FieldType := fun k => match k with
  | 0 => .boolean
  | 1 => .int
  | 2 => .array .int
  | 3 => .array .int
  | 4 => .array .int
  | 5 => .array .int
  | 6 => .int
  | 7 => .array .int
  | 8 => .array .int
  | 9 => .array .int
  | 10 => .array .int
  | 11 => .array .int
  | 12 => .int
  | _ => .int
abbrev wsX00 : List Cond := u_ws RX0 TX0 14
theorem nmX0 : ∀ a, a < 14 → ∀ b, b < 14 → a ≠ b → (TX0 a).2.1 ≠ (TX0 b).2.1 := by decide +kernel
theorem tyX0_ok : ∀ k, k < 14 → parseFieldDescriptor (TX0 k).2.2.1 = some (tyX0 k) := by decide +kernel
abbrev cX0_init : ByteArray := prog_2_method_1_code
def yX0_init : MethodName := ⟨RX0, "<init>", "()V"⟩
abbrev cX0_arrange : ByteArray := prog_2_method_2_code
def yX0_arrange : MethodName := ⟨RX0, "arrange", "(LTableWright$Sheet;II)V"⟩
abbrev cX0_pagesOrNone : ByteArray := prog_2_method_3_code
def yX0_pagesOrNone : MethodName := ⟨RX0, "pagesOrNone", "()I"⟩
abbrev cX0_tableWidth : ByteArray := prog_2_method_4_code
def yX0_tableWidth : MethodName := ⟨RX0, "tableWidth", "(LTableWright$Sheet;)I"⟩
abbrev cX0_heightOfRows : ByteArray := prog_2_method_5_code
def yX0_heightOfRows : MethodName := ⟨RX0, "heightOfRows", "(LTableWright$Sheet;)I"⟩
abbrev cX0_notesElsewhere : ByteArray := prog_2_method_6_code
def yX0_notesElsewhere : MethodName := ⟨RX0, "notesElsewhere", "(LTableWright$Sheet;)I"⟩
abbrev cX0_carriedOn : ByteArray := prog_2_method_7_code
def yX0_carriedOn : MethodName := ⟨RX0, "carriedOn", "(LTableWright$Sheet;II)I"⟩
abbrev cX0_readAloud : ByteArray := prog_2_method_8_code
def yX0_readAloud : MethodName := ⟨RX0, "readAloud", "(LTableWright$Sheet;I)I"⟩
abbrev cX0_shownCells : ByteArray := prog_2_method_9_code
def yX0_shownCells : MethodName := ⟨RX0, "shownCells", "(LTableWright$Sheet;I)I"⟩
abbrev cX0_heightOfCell : ByteArray := prog_2_method_10_code
def yX0_heightOfCell : MethodName := ⟨RX0, "heightOfCell", "(LTableWright$Sheet;II)I"⟩
abbrev cX0_isWidthFit : ByteArray := prog_2_method_11_code
def yX0_isWidthFit : MethodName := ⟨RX0, "isWidthFit", "(LTableWright$Sheet;I)Z"⟩
abbrev cX0_mostSpareColumn : ByteArray := prog_2_method_12_code
def yX0_mostSpareColumn : MethodName := ⟨RX0, "mostSpareColumn", "(LTableWright$Sheet;)I"⟩
abbrev cX0_areHeightsFit : ByteArray := prog_2_method_13_code
def yX0_areHeightsFit : MethodName := ⟨RX0, "areHeightsFit", "(LTableWright$Sheet;)Z"⟩
abbrev cX0_fillPage : ByteArray := prog_2_method_14_code
def yX0_fillPage : MethodName := ⟨RX0, "fillPage", "(LTableWright$Sheet;I)V"⟩
abbrev cX0_putWaitingNotes : ByteArray := prog_2_method_15_code
def yX0_putWaitingNotes : MethodName := ⟨RX0, "putWaitingNotes", "(LTableWright$Sheet;I)V"⟩
abbrev cX0_hasRoomForNextRow : ByteArray := prog_2_method_16_code
def yX0_hasRoomForNextRow : MethodName := ⟨RX0, "hasRoomForNextRow", "(LTableWright$Sheet;I)Z"⟩
abbrev cX0_heightOfGroup : ByteArray := prog_2_method_17_code
def yX0_heightOfGroup : MethodName := ⟨RX0, "heightOfGroup", "(LTableWright$Sheet;I)I"⟩
abbrev cX0_putNextRow : ByteArray := prog_2_method_18_code
def yX0_putNextRow : MethodName := ⟨RX0, "putNextRow", "(I)V"⟩
def RX1 : String := "TableWright$Row"
def TX1 : u_T := fun k => match k with
  | 0 => ("TableWright$Row", "values", "[I", true)
  | 1 => ("TableWright$Row", "lengths", "[I", true)
  | 2 => ("TableWright$Row", "words", "[I", true)
  | 3 => ("TableWright$Row", "isToSpan", "[Z", true)
  | 4 => ("TableWright$Row", "noteLines", "I", false)
  | 5 => ("TableWright$Row", "isKept", "Z", false)
  | 6 => ("TableWright$Row", "sums", "[I", true)
  | _ => ("TableWright$Row", "isHidden", "[Z", true)
def tyX1 : Nat → FieldType := fun k => match k with
  | 0 => .array .int
  | 1 => .array .int
  | 2 => .array .int
  | 3 => .array .boolean
  | 4 => .int
  | 5 => .boolean
  | 6 => .array .int
  | _ => .array .boolean
abbrev wsX10 : List Cond := u_ws RX1 TX1 8
theorem nmX1 : ∀ a, a < 8 → ∀ b, b < 8 → a ≠ b → (TX1 a).2.1 ≠ (TX1 b).2.1 := by decide +kernel
theorem tyX1_ok : ∀ k, k < 8 → parseFieldDescriptor (TX1 k).2.2.1 = some (tyX1 k) := by decide +kernel
abbrev cX1_init : ByteArray := prog_3_method_1_code
def yX1_init : MethodName := ⟨RX1, "<init>", "()V"⟩
abbrev cX1_clear : ByteArray := prog_3_method_2_code
def yX1_clear : MethodName := ⟨RX1, "clear", "()V"⟩
abbrev cX1_copyFrom : ByteArray := prog_3_method_3_code
def yX1_copyFrom : MethodName := ⟨RX1, "copyFrom", "(LTableWright$Row;)V"⟩
def RX2 : String := "TableWright$Setting"
def TX2 : u_T := fun k => match k with
  | 0 => ("TableWright$Setting", "upright", "LTableWright$Layout;", true)
  | 1 => ("TableWright$Setting", "turned", "LTableWright$Layout;", true)
  | _ => ("TableWright$Setting", "isTurned", "Z", false)
def tyX2 : Nat → FieldType := fun k => match k with
  | 0 => .object "TableWright$Layout"
  | 1 => .object "TableWright$Layout"
  | _ => .boolean
abbrev wsX20 : List Cond := u_ws RX2 TX2 3
theorem nmX2 : ∀ a, a < 3 → ∀ b, b < 3 → a ≠ b → (TX2 a).2.1 ≠ (TX2 b).2.1 := by decide +kernel
theorem tyX2_ok : ∀ k, k < 3 → parseFieldDescriptor (TX2 k).2.2.1 = some (tyX2 k) := by decide +kernel
abbrev cX2_init : ByteArray := prog_4_method_1_code
def yX2_init : MethodName := ⟨RX2, "<init>", "()V"⟩
abbrev cX2_arrange : ByteArray := prog_4_method_2_code
def yX2_arrange : MethodName := ⟨RX2, "arrange", "(LTableWright$Sheet;II)V"⟩
abbrev cX2_chosen : ByteArray := prog_4_method_3_code
def yX2_chosen : MethodName := ⟨RX2, "chosen", "()LTableWright$Layout;"⟩
def RX3 : String := "TableWright$Sheet"
def TX3 : u_T := fun k => match k with
  | 0 => ("TableWright$Sheet", "columnCount", "I", false)
  | 1 => ("TableWright$Sheet", "kinds", "[I", true)
  | 2 => ("TableWright$Sheet", "titles", "[I", true)
  | 3 => ("TableWright$Sheet", "firsts", "[I", true)
  | 4 => ("TableWright$Sheet", "seconds", "[I", true)
  | 5 => ("TableWright$Sheet", "rowCount", "I", false)
  | 6 => ("TableWright$Sheet", "rows", "[LTableWright$Row;", true)
  | 7 => ("TableWright$Sheet", "leasts", "[I", true)
  | _ => ("TableWright$Sheet", "bests", "[I", true)
def tyX3 : Nat → FieldType := fun k => match k with
  | 0 => .int
  | 1 => .array .int
  | 2 => .array .int
  | 3 => .array .int
  | 4 => .array .int
  | 5 => .int
  | 6 => .array (.object "TableWright$Row")
  | 7 => .array .int
  | _ => .array .int
abbrev wsX30 : List Cond := u_ws RX3 TX3 9
theorem nmX3 : ∀ a, a < 9 → ∀ b, b < 9 → a ≠ b → (TX3 a).2.1 ≠ (TX3 b).2.1 := by decide +kernel
theorem tyX3_ok : ∀ k, k < 9 → parseFieldDescriptor (TX3 k).2.2.1 = some (tyX3 k) := by decide +kernel
abbrev cX3_init : ByteArray := prog_5_method_1_code
def yX3_init : MethodName := ⟨RX3, "<init>", "()V"⟩
abbrev cX3_addColumn : ByteArray := prog_5_method_2_code
def yX3_addColumn : MethodName := ⟨RX3, "addColumn", "(II)I"⟩
abbrev cX3_addRow : ByteArray := prog_5_method_3_code
def yX3_addRow : MethodName := ⟨RX3, "addRow", "()I"⟩
abbrev cX3_copyFrom : ByteArray := prog_5_method_5_code
def yX3_copyFrom : MethodName := ⟨RX3, "copyFrom", "(LTableWright$Sheet;)V"⟩
abbrev cX3_sumUpTo : ByteArray := prog_5_method_6_code
def yX3_sumUpTo : MethodName := ⟨RX3, "sumUpTo", "(II)I"⟩
abbrev cX3_linesOfNotes : ByteArray := prog_5_method_7_code
def yX3_linesOfNotes : MethodName := ⟨RX3, "linesOfNotes", "()I"⟩
abbrev cX3_isSpanning : ByteArray := prog_5_method_8_code
def yX3_isSpanning : MethodName := ⟨RX3, "isSpanning", "(II)Z"⟩
abbrev cX3_reckon : ByteArray := prog_5_method_9_code
def yX3_reckon : MethodName := ⟨RX3, "reckon", "()V"⟩
abbrev cX3_reckonHidden : ByteArray := prog_5_method_10_code
def yX3_reckonHidden : MethodName := ⟨RX3, "reckonHidden", "(I)V"⟩
abbrev cX3_reckonNumbers : ByteArray := prog_5_method_11_code
def yX3_reckonNumbers : MethodName := ⟨RX3, "reckonNumbers", "(I)V"⟩
abbrev cX3_resultOf : ByteArray := prog_5_method_12_code
def yX3_resultOf : MethodName := ⟨RX3, "resultOf", "(IJJ)I"⟩
abbrev cX3_measureText : ByteArray := prog_5_method_13_code
def yX3_measureText : MethodName := ⟨RX3, "measureText", "(I)V"⟩
abbrev cX3_measureNumbers : ByteArray := prog_5_method_14_code
def yX3_measureNumbers : MethodName := ⟨RX3, "measureNumbers", "(I)V"⟩
abbrev cX3_sizeOf : ByteArray := prog_5_method_15_code
def yX3_sizeOf : MethodName := ⟨RX3, "sizeOf", "(I)I"⟩
def RX4 : String := "TableWright"
def TX4 : u_T := fun k => match k with
  | 0 => ("TableWright", "sheet", "LTableWright$Sheet;", true)
  | 1 => ("TableWright", "setting", "LTableWright$Setting;", true)
  | 2 => ("TableWright", "wide", "I", false)
  | 3 => ("TableWright", "high", "I", false)
  | 4 => ("TableWright", "isStale", "Z", false)
  | 5 => ("TableWright", "trialSheet", "LTableWright$Sheet;", true)
  | 6 => ("TableWright", "trialSetting", "LTableWright$Setting;", true)
  | _ => ("TableWright", "probe", "LTableWright$Layout;", true)
def tyX4 : Nat → FieldType := fun k => match k with
  | 0 => .object "TableWright$Sheet"
  | 1 => .object "TableWright$Setting"
  | 2 => .int
  | 3 => .int
  | 4 => .boolean
  | 5 => .object "TableWright$Sheet"
  | 6 => .object "TableWright$Setting"
  | _ => .object "TableWright$Layout"
abbrev wsX40 : List Cond := u_ws RX4 TX4 8
theorem nmX4 : ∀ a, a < 8 → ∀ b, b < 8 → a ≠ b → (TX4 a).2.1 ≠ (TX4 b).2.1 := by decide +kernel
theorem tyX4_ok : ∀ k, k < 8 → parseFieldDescriptor (TX4 k).2.2.1 = some (tyX4 k) := by decide +kernel
abbrev cX4_init : ByteArray := prog_1_method_1_code
def yX4_init : MethodName := ⟨RX4, "<init>", "()V"⟩
abbrev cX4_column : ByteArray := prog_1_method_2_code
def yX4_column : MethodName := ⟨RX4, "column", "(ZI)I"⟩
abbrev cX4_row : ByteArray := prog_1_method_4_code
def yX4_row : MethodName := ⟨RX4, "row", "()I"⟩
abbrev cX4_number : ByteArray := prog_1_method_6_code
def yX4_number : MethodName := ⟨RX4, "number", "(III)I"⟩
abbrev cX4_text : ByteArray := prog_1_method_7_code
def yX4_text : MethodName := ⟨RX4, "text", "(IIII)I"⟩
abbrev cX4_span : ByteArray := prog_1_method_8_code
def yX4_span : MethodName := ⟨RX4, "span", "(IIZ)Z"⟩
abbrev cX4_note : ByteArray := prog_1_method_9_code
def yX4_note : MethodName := ⟨RX4, "note", "(II)I"⟩
abbrev cX4_keep : ByteArray := prog_1_method_10_code
def yX4_keep : MethodName := ⟨RX4, "keep", "(IZ)Z"⟩
abbrev cX4_paper : ByteArray := prog_1_method_11_code
def yX4_paper : MethodName := ⟨RX4, "paper", "(II)I"⟩
abbrev cX4_cell : ByteArray := prog_1_method_12_code
def yX4_cell : MethodName := ⟨RX4, "cell", "(III)I"⟩
abbrev cX4_ofColumn : ByteArray := prog_1_method_13_code
def yX4_ofColumn : MethodName := ⟨RX4, "ofColumn", "(II)I"⟩
abbrev cX4_ofRow : ByteArray := prog_1_method_14_code
def yX4_ofRow : MethodName := ⟨RX4, "ofRow", "(II)I"⟩
abbrev cX4_ofPage : ByteArray := prog_1_method_15_code
def yX4_ofPage : MethodName := ⟨RX4, "ofPage", "(II)I"⟩
abbrev cX4_carried : ByteArray := prog_1_method_16_code
def yX4_carried : MethodName := ⟨RX4, "carried", "(II)I"⟩
abbrev cX4_many : ByteArray := prog_1_method_17_code
def yX4_many : MethodName := ⟨RX4, "many", "(I)I"⟩
abbrev cX4_pagesWith : ByteArray := prog_1_method_19_code
def yX4_pagesWith : MethodName := ⟨RX4, "pagesWith", "(IIZ)I"⟩
abbrev cX4_changedBy : ByteArray := prog_1_method_20_code
def yX4_changedBy : MethodName := ⟨RX4, "changedBy", "(III)I"⟩
abbrev cX4_digest : ByteArray := prog_1_method_22_code
def yX4_digest : MethodName := ⟨RX4, "digest", "()J"⟩
abbrev cX4_requireRange : ByteArray := prog_1_method_23_code
def yX4_requireRange : MethodName := ⟨RX4, "requireRange", "(III)V"⟩
abbrev cX4_requireRow : ByteArray := prog_1_method_24_code
def yX4_requireRow : MethodName := ⟨RX4, "requireRow", "(I)V"⟩
abbrev cX4_requireColumn : ByteArray := prog_1_method_25_code
def yX4_requireColumn : MethodName := ⟨RX4, "requireColumn", "(I)V"⟩
abbrev cX4_requirePage : ByteArray := prog_1_method_26_code
def yX4_requirePage : MethodName := ⟨RX4, "requirePage", "(I)V"⟩
abbrev cX4_requireKind : ByteArray := prog_1_method_27_code
def yX4_requireKind : MethodName := ⟨RX4, "requireKind", "(II)V"⟩
abbrev cX4_requireSpareColumn : ByteArray := prog_1_method_29_code
def yX4_requireSpareColumn : MethodName := ⟨RX4, "requireSpareColumn", "()V"⟩
abbrev cX4_requireNumberCell : ByteArray := prog_1_method_30_code
def yX4_requireNumberCell : MethodName := ⟨RX4, "requireNumberCell", "(III)V"⟩
abbrev cX4_refresh : ByteArray := prog_1_method_31_code
def yX4_refresh : MethodName := ⟨RX4, "refresh", "()V"⟩
abbrev cX4_layoutOfTrial : ByteArray := prog_1_method_32_code
def yX4_layoutOfTrial : MethodName := ⟨RX4, "layoutOfTrial", "()LTableWright$Layout;"⟩
abbrev cX4_pagesIn : ByteArray := prog_1_method_33_code
def yX4_pagesIn : MethodName := ⟨RX4, "pagesIn", "(II)I"⟩
abbrev cX4_isPageOther : ByteArray := prog_1_method_34_code
def yX4_isPageOther : MethodName := ⟨RX4, "isPageOther", "(LTableWright$Layout;LTableWright$Layout;I)Z"⟩
abbrev cX4_factOfTable : ByteArray := prog_1_method_35_code
def yX4_factOfTable : MethodName := ⟨RX4, "factOfTable", "(I)I"⟩
abbrev cX4_factOfColumn : ByteArray := prog_1_method_36_code
def yX4_factOfColumn : MethodName := ⟨RX4, "factOfColumn", "(II)I"⟩
abbrev cX4_factOfRow : ByteArray := prog_1_method_37_code
def yX4_factOfRow : MethodName := ⟨RX4, "factOfRow", "(II)I"⟩
abbrev cX4_factOfCell : ByteArray := prog_1_method_38_code
def yX4_factOfCell : MethodName := ⟨RX4, "factOfCell", "(III)I"⟩
abbrev cX4_factOfPage : ByteArray := prog_1_method_39_code
def yX4_factOfPage : MethodName := ⟨RX4, "factOfPage", "(II)I"⟩
abbrev cX4_digestWith : ByteArray := prog_1_method_40_code
def yX4_digestWith : MethodName := ⟨RX4, "digestWith", "(JI)J"⟩
abbrev cX4_digestWithRow : ByteArray := prog_1_method_41_code
def yX4_digestWithRow : MethodName := ⟨RX4, "digestWithRow", "(JI)J"⟩
abbrev cX4_digestWithPage : ByteArray := prog_1_method_42_code
def yX4_digestWithPage : MethodName := ⟨RX4, "digestWithPage", "(JI)J"⟩
def RX5 : String := "TableWrightModel$Column"
def TX5 : u_T := fun k => match k with
  | _ => ("", "", "", false)
def tyX5 : Nat → FieldType := fun k => match k with
  | _ => .int
abbrev wsX50 : List Cond := u_ws RX5 TX5 0
theorem nmX5 : ∀ a, a < 0 → ∀ b, b < 0 → a ≠ b → (TX5 a).2.1 ≠ (TX5 b).2.1 := by decide +kernel
theorem tyX5_ok : ∀ k, k < 0 → parseFieldDescriptor (TX5 k).2.2.1 = some (tyX5 k) := by decide +kernel
def RX6 : String := "TableWrightModel$Layout"
def TX6 : u_T := fun k => match k with
  | _ => ("", "", "", false)
def tyX6 : Nat → FieldType := fun k => match k with
  | _ => .int
abbrev wsX60 : List Cond := u_ws RX6 TX6 0
theorem nmX6 : ∀ a, a < 0 → ∀ b, b < 0 → a ≠ b → (TX6 a).2.1 ≠ (TX6 b).2.1 := by decide +kernel
theorem tyX6_ok : ∀ k, k < 0 → parseFieldDescriptor (TX6 k).2.2.1 = some (tyX6 k) := by decide +kernel
def RX7 : String := "TableWrightModel$Page"
def TX7 : u_T := fun k => match k with
  | _ => ("", "", "", false)
def tyX7 : Nat → FieldType := fun k => match k with
  | _ => .int
abbrev wsX70 : List Cond := u_ws RX7 TX7 0
theorem nmX7 : ∀ a, a < 0 → ∀ b, b < 0 → a ≠ b → (TX7 a).2.1 ≠ (TX7 b).2.1 := by decide +kernel
theorem tyX7_ok : ∀ k, k < 0 → parseFieldDescriptor (TX7 k).2.2.1 = some (tyX7 k) := by decide +kernel
def RX8 : String := "TableWrightModel$Row"
def TX8 : u_T := fun k => match k with
  | _ => ("", "", "", false)
def tyX8 : Nat → FieldType := fun k => match k with
  | _ => .int
abbrev wsX80 : List Cond := u_ws RX8 TX8 0
theorem nmX8 : ∀ a, a < 0 → ∀ b, b < 0 → a ≠ b → (TX8 a).2.1 ≠ (TX8 b).2.1 := by decide +kernel
theorem tyX8_ok : ∀ k, k < 0 → parseFieldDescriptor (TX8 k).2.2.1 = some (tyX8 k) := by decide +kernel
def RX9 : String := "TableWrightModel$Table"
def TX9 : u_T := fun k => match k with
  | _ => ("", "", "", false)
def tyX9 : Nat → FieldType := fun k => match k with
  | _ => .int
abbrev wsX90 : List Cond := u_ws RX9 TX9 0
theorem nmX9 : ∀ a, a < 0 → ∀ b, b < 0 → a ≠ b → (TX9 a).2.1 ≠ (TX9 b).2.1 := by decide +kernel
theorem tyX9_ok : ∀ k, k < 0 → parseFieldDescriptor (TX9 k).2.2.1 = some (tyX9 k) := by decide +kernel
def RX10 : String := "TableWrightModel"
def TX10 : u_T := fun k => match k with
  | _ => ("", "", "", false)
def tyX10 : Nat → FieldType := fun k => match k with
  | _ => .int
abbrev wsX100 : List Cond := u_ws RX10 TX10 0
theorem nmX10 : ∀ a, a < 0 → ∀ b, b < 0 → a ≠ b → (TX10 a).2.1 ≠ (TX10 b).2.1 := by decide +kernel
theorem tyX10_ok : ∀ k, k < 0 → parseFieldDescriptor (TX10 k).2.2.1 = some (tyX10 k) := by decide +kernel
def RJx145de : String := "java/io/Serializable"
def TJx145de : u_T := fun k => match k with
  | _ => ("", "", "", false)
def tyJx145de : Nat → FieldType := fun k => match k with
  | _ => .int
abbrev wsJx145de0 : List Cond := u_ws RJx145de TJx145de 0
theorem nmJx145de : ∀ a, a < 0 → ∀ b, b < 0 → a ≠ b → (TJx145de a).2.1 ≠ (TJx145de b).2.1 := by decide +kernel
theorem tyJx145de_ok : ∀ k, k < 0 → parseFieldDescriptor (TJx145de k).2.2.1 = some (tyJx145de k) := by decide +kernel
def RJ9 : String := "java/lang/Math"
def TJ9 : u_T := fun k => match k with
  | _ => ("", "", "", false)
def tyJ9 : Nat → FieldType := fun k => match k with
  | _ => .int
abbrev wsJ90 : List Cond := u_ws RJ9 TJ9 0
theorem nmJ9 : ∀ a, a < 0 → ∀ b, b < 0 → a ≠ b → (TJ9 a).2.1 ≠ (TJ9 b).2.1 := by decide +kernel
theorem tyJ9_ok : ∀ k, k < 0 → parseFieldDescriptor (TJ9 k).2.2.1 = some (tyJ9 k) := by decide +kernel
abbrev cJ9_max_7cf53 : ByteArray := prog_17_method_65_code
def yJ9_max_7cf53 : MethodName := ⟨RJ9, "max", "(II)I"⟩
abbrev cJ9_max_f86c9 : ByteArray := prog_17_method_66_code
def yJ9_max_f86c9 : MethodName := ⟨RJ9, "max", "(JJ)J"⟩
abbrev cJ9_min_7cf53 : ByteArray := prog_17_method_69_code
def yJ9_min_7cf53 : MethodName := ⟨RJ9, "min", "(II)I"⟩
abbrev cJ9_min_f86c9 : ByteArray := prog_17_method_70_code
def yJ9_min_f86c9 : MethodName := ⟨RJ9, "min", "(JJ)J"⟩
def RJ0 : String := "java/lang/String"
def TJ0 : u_T := fun k => match k with
  | _ => ("", "", "", false)
def tyJ0 : Nat → FieldType := fun k => match k with
  | _ => .int
abbrev wsJ00 : List Cond := u_ws RJ0 TJ0 0
theorem nmJ0 : ∀ a, a < 0 → ∀ b, b < 0 → a ≠ b → (TJ0 a).2.1 ≠ (TJ0 b).2.1 := by decide +kernel
theorem tyJ0_ok : ∀ k, k < 0 → parseFieldDescriptor (TJ0 k).2.2.1 = some (tyJ0 k) := by decide +kernel
def RL : String := "TableWrightLaw"
abbrev cL_below : ByteArray := method_2_code
def yL_below : MethodName := ⟨RL, "below", "(II)I"⟩
abbrev cL_cell : ByteArray := method_3_code
def yL_cell : MethodName := ⟨RL, "cell", "([II)I"⟩
abbrev cL_law : ByteArray := code
def yL_law : MethodName := ⟨RL, "law", "([I)Z"⟩
abbrev cL_isLaid : ByteArray := method_5_code
def yL_isLaid : MethodName := ⟨RL, "isLaid", "(LTableWright;II[I[Z)Z"⟩
abbrev cL_isTogether : ByteArray := method_6_code
def yL_isTogether : MethodName := ⟨RL, "isTogether", "(LTableWright;III[I[Z)Z"⟩
def wsX0_init : List Cond := .code yX0_init cX0_init 1 none :: ([.methodLink RX0 3 objectInit, .instanceMethod objectInit, .code objectInit ⟨#[0xb1]⟩ 1 none, .arrayClass .int, .fieldLink RX0 9 "TableWright$Layout" "widths" "[I", .fieldLink RX0 15 "TableWright$Layout" "heights" "[I", .fieldLink RX0 18 "TableWright$Layout" "rowPages" "[I", .fieldLink RX0 21 "TableWright$Layout" "notePages" "[I", .fieldLink RX0 24 "TableWright$Layout" "firstRows" "[I", .fieldLink RX0 27 "TableWright$Layout" "rowsOn" "[I", .fieldLink RX0 30 "TableWright$Layout" "notesOn" "[I", .fieldLink RX0 33 "TableWright$Layout" "left" "[I", .fieldLink RX0 36 "TableWright$Layout" "lastRows" "[I"] ++ wsX00)
def wsX0_tableWidth : List Cond := .code yX0_tableWidth cX0_tableWidth 4 (some .int) :: ([.fieldLink RX0 9 "TableWright$Layout" "widths" "[I"] ++ wsX30 ++ wsX00)
def wsX0_mostSpareColumn : List Cond := .code yX0_mostSpareColumn cX0_mostSpareColumn 6 (some .int) :: ([.fieldLink RX0 9 "TableWright$Layout" "widths" "[I"] ++ wsX30 ++ wsX00)
def wsX0_isWidthFit : List Cond := .code yX0_isWidthFit cX0_isWidthFit 5 (some .boolean) :: ([.fieldLink RX0 9 "TableWright$Layout" "widths" "[I", .methodLink RX0 112 yX0_tableWidth, .instanceMethod yX0_tableWidth, .selects RX0 yX0_tableWidth yX0_tableWidth, .initialized RX0, .code yX0_tableWidth cX0_tableWidth 4 (some .int), .methodLink RX0 116 yX0_mostSpareColumn, .instanceMethod yX0_mostSpareColumn, .selects RX0 yX0_mostSpareColumn yX0_mostSpareColumn, .code yX0_mostSpareColumn cX0_mostSpareColumn 6 (some .int)] ++ wsX30 ++ wsX00)
def wsX3_isSpanning : List Cond := .code yX3_isSpanning cX3_isSpanning 3 (some .boolean) :: ([.fieldLink RX3 37 "TableWright$Sheet" "columnCount" "I", .fieldLink RX3 26 "TableWright$Sheet" "rows" "[LTableWright$Row;"] ++ wsX30 ++ wsX10)
def wsX0_heightOfCell : List Cond := .code yX0_heightOfCell cX0_heightOfCell 6 (some .int) :: ([.fieldLink RX0 9 "TableWright$Layout" "widths" "[I", .methodLink RX0 104 Lib.Math.max.name, .static Lib.Math.max.name, .initialized "java/lang/Math", .code Lib.Math.max.name Lib.Math.max.code 2 (some .int), .methodLink RX0 97 yX3_isSpanning, .instanceMethod yX3_isSpanning, .selects RX3 yX3_isSpanning yX3_isSpanning, .initialized RX3, .code yX3_isSpanning cX3_isSpanning 3 (some .boolean), .fieldLink RX3 37 "TableWright$Sheet" "columnCount" "I", .fieldLink RX3 26 "TableWright$Sheet" "rows" "[LTableWright$Row;"] ++ wsX30 ++ wsX10 ++ wsX00)
def wsX0_areHeightsFit : List Cond := .code yX0_areHeightsFit cX0_areHeightsFit 5 (some .boolean) :: ([.methodLink RX0 104 Lib.Math.max.name, .static Lib.Math.max.name, .initialized "java/lang/Math", .code Lib.Math.max.name Lib.Math.max.code 2 (some .int), .fieldLink RX0 39 "TableWright$Layout" "room" "I", .fieldLink RX0 15 "TableWright$Layout" "heights" "[I", .methodLink RX0 122 yX0_heightOfCell, .instanceMethod yX0_heightOfCell, .selects RX0 yX0_heightOfCell yX0_heightOfCell, .initialized RX0, .code yX0_heightOfCell cX0_heightOfCell 6 (some .int), .fieldLink RX0 9 "TableWright$Layout" "widths" "[I", .methodLink RX0 97 yX3_isSpanning, .instanceMethod yX3_isSpanning, .selects RX3 yX3_isSpanning yX3_isSpanning, .initialized RX3, .code yX3_isSpanning cX3_isSpanning 3 (some .boolean), .fieldLink RX3 37 "TableWright$Sheet" "columnCount" "I", .fieldLink RX3 26 "TableWright$Sheet" "rows" "[LTableWright$Row;"] ++ wsX30 ++ wsX00 ++ wsX10)
def wsX0_putWaitingNotes : List Cond := .code yX0_putWaitingNotes cX0_putWaitingNotes 4 none :: ([.fieldLink RX0 61 "TableWright$Layout" "nextNote" "I", .fieldLink RX0 58 "TableWright$Layout" "nextRow" "I", .fieldLink RX0 33 "TableWright$Layout" "left" "[I", .fieldLink RX0 21 "TableWright$Layout" "notePages" "[I", .fieldLink RX0 30 "TableWright$Layout" "notesOn" "[I"] ++ wsX00 ++ wsX30 ++ wsX10)
def wsX0_heightOfGroup : List Cond := .code yX0_heightOfGroup cX0_heightOfGroup 5 (some .int) :: ([.fieldLink RX0 15 "TableWright$Layout" "heights" "[I"] ++ wsX00 ++ wsX30 ++ wsX10)
def wsX0_hasRoomForNextRow : List Cond := .code yX0_hasRoomForNextRow cX0_hasRoomForNextRow 5 (some .boolean) :: ([.fieldLink RX0 15 "TableWright$Layout" "heights" "[I", .fieldLink RX0 58 "TableWright$Layout" "nextRow" "I", .fieldLink RX0 33 "TableWright$Layout" "left" "[I", .fieldLink RX0 27 "TableWright$Layout" "rowsOn" "[I", .fieldLink RX0 39 "TableWright$Layout" "room" "I", .methodLink RX0 142 yX0_heightOfGroup, .instanceMethod yX0_heightOfGroup, .selects RX0 yX0_heightOfGroup yX0_heightOfGroup, .initialized RX0, .code yX0_heightOfGroup cX0_heightOfGroup 5 (some .int)] ++ wsX00 ++ wsX30 ++ wsX10)
def wsX0_putNextRow : List Cond := .code yX0_putNextRow cX0_putNextRow 2 none :: ([.fieldLink RX0 27 "TableWright$Layout" "rowsOn" "[I", .fieldLink RX0 24 "TableWright$Layout" "firstRows" "[I", .fieldLink RX0 58 "TableWright$Layout" "nextRow" "I", .fieldLink RX0 18 "TableWright$Layout" "rowPages" "[I", .fieldLink RX0 33 "TableWright$Layout" "left" "[I", .fieldLink RX0 15 "TableWright$Layout" "heights" "[I"] ++ wsX00)
def wsX0_fillPage_r1 : List Cond := [Cond.fieldLink RX0 24 "TableWright$Layout" "firstRows" "[I", Cond.fieldLink RX0 27 "TableWright$Layout" "rowsOn" "[I", Cond.fieldLink RX0 30 "TableWright$Layout" "notesOn" "[I", Cond.fieldLink RX0 33 "TableWright$Layout" "left" "[I", Cond.fieldLink RX0 39 "TableWright$Layout" "room" "I", Cond.fieldLink RX0 58 "TableWright$Layout" "nextRow" "I", Cond.fieldLink RX0 61 "TableWright$Layout" "nextNote" "I", Cond.fieldLink RX0 36 "TableWright$Layout" "lastRows" "[I", Cond.methodLink RX0 126 yX0_putWaitingNotes, Cond.instanceMethod yX0_putWaitingNotes, Cond.selects RX0 yX0_putWaitingNotes yX0_putWaitingNotes, Cond.initialized RX0, Cond.code yX0_putWaitingNotes cX0_putWaitingNotes 4 none, Cond.fieldLink RX0 21 "TableWright$Layout" "notePages" "[I", Cond.methodLink RX0 129 yX0_hasRoomForNextRow, Cond.instanceMethod yX0_hasRoomForNextRow, Cond.selects RX0 yX0_hasRoomForNextRow yX0_hasRoomForNextRow, Cond.code yX0_hasRoomForNextRow cX0_hasRoomForNextRow 5 (some .boolean), Cond.fieldLink RX0 15 "TableWright$Layout" "heights" "[I", Cond.methodLink RX0 142 yX0_heightOfGroup, Cond.instanceMethod yX0_heightOfGroup, Cond.selects RX0 yX0_heightOfGroup yX0_heightOfGroup, Cond.code yX0_heightOfGroup cX0_heightOfGroup 5 (some .int), Cond.methodLink RX0 132 yX0_putNextRow]
def wsX0_fillPage_r2 : List Cond := [Cond.instanceMethod yX0_putNextRow, Cond.selects RX0 yX0_putNextRow yX0_putNextRow, Cond.code yX0_putNextRow cX0_putNextRow 2 none, Cond.fieldLink RX0 18 "TableWright$Layout" "rowPages" "[I"]
def wsX0_fillPage : List Cond := .code yX0_fillPage cX0_fillPage 4 none :: ((wsX0_fillPage_r1 ++ wsX0_fillPage_r2) ++ wsX00 ++ wsX30 ++ wsX10)
def wsX0_arrange_r1 : List Cond := [Cond.fieldLink RX0 39 "TableWright$Layout" "room" "I", Cond.fieldLink RX0 51 "TableWright$Layout" "isFit" "Z", Cond.fieldLink RX0 55 "TableWright$Layout" "pageCount" "I", Cond.fieldLink RX0 58 "TableWright$Layout" "nextRow" "I", Cond.fieldLink RX0 61 "TableWright$Layout" "nextNote" "I", Cond.methodLink RX0 43 yX0_isWidthFit, Cond.instanceMethod yX0_isWidthFit, Cond.selects RX0 yX0_isWidthFit yX0_isWidthFit, Cond.initialized RX0, Cond.code yX0_isWidthFit cX0_isWidthFit 5 (some .boolean), Cond.fieldLink RX0 9 "TableWright$Layout" "widths" "[I", Cond.methodLink RX0 112 yX0_tableWidth, Cond.instanceMethod yX0_tableWidth, Cond.selects RX0 yX0_tableWidth yX0_tableWidth, Cond.code yX0_tableWidth cX0_tableWidth 4 (some .int), Cond.methodLink RX0 116 yX0_mostSpareColumn, Cond.instanceMethod yX0_mostSpareColumn, Cond.selects RX0 yX0_mostSpareColumn yX0_mostSpareColumn, Cond.code yX0_mostSpareColumn cX0_mostSpareColumn 6 (some .int), Cond.methodLink RX0 47 yX0_areHeightsFit, Cond.instanceMethod yX0_areHeightsFit, Cond.selects RX0 yX0_areHeightsFit yX0_areHeightsFit, Cond.code yX0_areHeightsFit cX0_areHeightsFit 5 (some .boolean), Cond.methodLink RX0 104 Lib.Math.max.name]
def wsX0_arrange_r2 : List Cond := [Cond.static Lib.Math.max.name, Cond.initialized "java/lang/Math", Cond.code Lib.Math.max.name Lib.Math.max.code 2 (some .int), Cond.fieldLink RX0 15 "TableWright$Layout" "heights" "[I", Cond.methodLink RX0 122 yX0_heightOfCell, Cond.instanceMethod yX0_heightOfCell, Cond.selects RX0 yX0_heightOfCell yX0_heightOfCell, Cond.code yX0_heightOfCell cX0_heightOfCell 6 (some .int), Cond.methodLink RX0 97 yX3_isSpanning, Cond.instanceMethod yX3_isSpanning, Cond.selects RX3 yX3_isSpanning yX3_isSpanning, Cond.initialized RX3, Cond.code yX3_isSpanning cX3_isSpanning 3 (some .boolean), Cond.fieldLink RX3 37 "TableWright$Sheet" "columnCount" "I", Cond.fieldLink RX3 26 "TableWright$Sheet" "rows" "[LTableWright$Row;", Cond.methodLink RX0 69 yX0_fillPage, Cond.instanceMethod yX0_fillPage, Cond.selects RX0 yX0_fillPage yX0_fillPage, Cond.code yX0_fillPage cX0_fillPage 4 none, Cond.fieldLink RX0 24 "TableWright$Layout" "firstRows" "[I", Cond.fieldLink RX0 27 "TableWright$Layout" "rowsOn" "[I", Cond.fieldLink RX0 30 "TableWright$Layout" "notesOn" "[I", Cond.fieldLink RX0 33 "TableWright$Layout" "left" "[I", Cond.fieldLink RX0 36 "TableWright$Layout" "lastRows" "[I"]
def wsX0_arrange_r3 : List Cond := [Cond.methodLink RX0 126 yX0_putWaitingNotes, Cond.instanceMethod yX0_putWaitingNotes, Cond.selects RX0 yX0_putWaitingNotes yX0_putWaitingNotes, Cond.code yX0_putWaitingNotes cX0_putWaitingNotes 4 none, Cond.fieldLink RX0 21 "TableWright$Layout" "notePages" "[I", Cond.methodLink RX0 129 yX0_hasRoomForNextRow, Cond.instanceMethod yX0_hasRoomForNextRow, Cond.selects RX0 yX0_hasRoomForNextRow yX0_hasRoomForNextRow, Cond.code yX0_hasRoomForNextRow cX0_hasRoomForNextRow 5 (some .boolean), Cond.methodLink RX0 142 yX0_heightOfGroup, Cond.instanceMethod yX0_heightOfGroup, Cond.selects RX0 yX0_heightOfGroup yX0_heightOfGroup, Cond.code yX0_heightOfGroup cX0_heightOfGroup 5 (some .int), Cond.methodLink RX0 132 yX0_putNextRow, Cond.instanceMethod yX0_putNextRow, Cond.selects RX0 yX0_putNextRow yX0_putNextRow, Cond.code yX0_putNextRow cX0_putNextRow 2 none, Cond.fieldLink RX0 18 "TableWright$Layout" "rowPages" "[I"]
def wsX0_arrange : List Cond := .code yX0_arrange cX0_arrange 4 none :: ((wsX0_arrange_r1 ++ (wsX0_arrange_r2 ++ wsX0_arrange_r3)) ++ wsX00 ++ wsX30 ++ wsX10)
def wsX0_pagesOrNone : List Cond := .code yX0_pagesOrNone cX0_pagesOrNone 1 (some .int) :: ([.fieldLink RX0 51 "TableWright$Layout" "isFit" "Z", .fieldLink RX0 55 "TableWright$Layout" "pageCount" "I"] ++ wsX00)
def wsX0_heightOfRows : List Cond := .code yX0_heightOfRows cX0_heightOfRows 4 (some .int) :: ([.fieldLink RX0 15 "TableWright$Layout" "heights" "[I"] ++ wsX30 ++ wsX00)
def wsX0_notesElsewhere : List Cond := .code yX0_notesElsewhere cX0_notesElsewhere 4 (some .int) :: ([.fieldLink RX0 21 "TableWright$Layout" "notePages" "[I", .fieldLink RX0 18 "TableWright$Layout" "rowPages" "[I"] ++ wsX30 ++ wsX00)
def wsX3_sumUpTo : List Cond := .code yX3_sumUpTo cX3_sumUpTo 3 (some .int) :: ([.fieldLink RX3 9 "TableWright$Sheet" "kinds" "[I", .fieldLink RX3 26 "TableWright$Sheet" "rows" "[LTableWright$Row;"] ++ wsX30 ++ wsX10)
def wsX0_carriedOn : List Cond := .code yX0_carriedOn cX0_carriedOn 4 (some .int) :: ([.fieldLink RX0 36 "TableWright$Layout" "lastRows" "[I", .methodLink RX0 76 yX3_sumUpTo, .instanceMethod yX3_sumUpTo, .selects RX3 yX3_sumUpTo yX3_sumUpTo, .initialized RX3, .code yX3_sumUpTo cX3_sumUpTo 3 (some .int), .fieldLink RX3 9 "TableWright$Sheet" "kinds" "[I", .fieldLink RX3 26 "TableWright$Sheet" "rows" "[LTableWright$Row;"] ++ wsX00 ++ wsX30 ++ wsX10)
def wsX0_shownCells : List Cond := .code yX0_shownCells cX0_shownCells 4 (some .int) :: ([] ++ wsX30 ++ wsX10)
def wsX0_readAloud : List Cond := .code yX0_readAloud cX0_readAloud 5 (some .int) :: ([.fieldLink RX0 30 "TableWright$Layout" "notesOn" "[I", .fieldLink RX0 18 "TableWright$Layout" "rowPages" "[I", .methodLink RX0 83 yX0_shownCells, .static yX0_shownCells, .initialized RX0, .code yX0_shownCells cX0_shownCells 4 (some .int)] ++ wsX30 ++ wsX00 ++ wsX10)
def wsX1_init : List Cond := .code yX1_init cX1_init 1 none :: ([.methodLink RX1 3 objectInit, .instanceMethod objectInit, .code objectInit ⟨#[0xb1]⟩ 1 none, .arrayClass .int, .fieldLink RX1 9 "TableWright$Row" "values" "[I", .fieldLink RX1 15 "TableWright$Row" "lengths" "[I", .fieldLink RX1 18 "TableWright$Row" "words" "[I", .arrayClass .boolean, .fieldLink RX1 21 "TableWright$Row" "isToSpan" "[Z", .fieldLink RX1 25 "TableWright$Row" "sums" "[I", .fieldLink RX1 28 "TableWright$Row" "isHidden" "[Z"] ++ wsX10)
def wsX1_clear : List Cond := .code yX1_clear cX1_clear 2 none :: ([.fieldLink RX1 9 "TableWright$Row" "values" "[I", .fieldLink RX1 15 "TableWright$Row" "lengths" "[I", .fieldLink RX1 18 "TableWright$Row" "words" "[I", .fieldLink RX1 21 "TableWright$Row" "isToSpan" "[Z", .fieldLink RX1 31 "TableWright$Row" "noteLines" "I", .fieldLink RX1 35 "TableWright$Row" "isKept" "Z"] ++ wsX10)
def wsX1_copyFrom : List Cond := .code yX1_copyFrom cX1_copyFrom 3 none :: ([.fieldLink RX1 9 "TableWright$Row" "values" "[I", .fieldLink RX1 15 "TableWright$Row" "lengths" "[I", .fieldLink RX1 18 "TableWright$Row" "words" "[I", .fieldLink RX1 21 "TableWright$Row" "isToSpan" "[Z", .fieldLink RX1 31 "TableWright$Row" "noteLines" "I", .fieldLink RX1 35 "TableWright$Row" "isKept" "Z"] ++ wsX10)
def wsX2_init : List Cond := .code yX2_init cX2_init 1 none :: ([.methodLink RX2 1 objectInit, .instanceMethod objectInit, .code objectInit ⟨#[0xb1]⟩ 1 none, .classLink RX2 7 RX0, .instantiable RX0 14, .initialized RX0, .fieldLink RX2 10 "TableWright$Setting" "upright" "LTableWright$Layout;", .fieldLink RX2 16 "TableWright$Setting" "turned" "LTableWright$Layout;", .instanceMethod yX0_init, .code yX0_init cX0_init 1 none, .methodLink RX0 3 objectInit, .arrayClass .int, .fieldLink RX0 9 "TableWright$Layout" "widths" "[I", .fieldLink RX0 15 "TableWright$Layout" "heights" "[I", .fieldLink RX0 18 "TableWright$Layout" "rowPages" "[I", .fieldLink RX0 21 "TableWright$Layout" "notePages" "[I", .fieldLink RX0 24 "TableWright$Layout" "firstRows" "[I", .fieldLink RX0 27 "TableWright$Layout" "rowsOn" "[I", .fieldLink RX0 30 "TableWright$Layout" "notesOn" "[I", .fieldLink RX0 33 "TableWright$Layout" "left" "[I", .fieldLink RX0 36 "TableWright$Layout" "lastRows" "[I"] ++ wsX00 ++ wsX20)
def wsX2_arrange_r1 : List Cond := [Cond.fieldLink RX2 10 "TableWright$Setting" "upright" "LTableWright$Layout;", Cond.fieldLink RX2 16 "TableWright$Setting" "turned" "LTableWright$Layout;", Cond.fieldLink RX2 31 "TableWright$Setting" "isTurned" "Z", Cond.methodLink RX2 19 yX0_arrange, Cond.instanceMethod yX0_arrange, Cond.selects RX0 yX0_arrange yX0_arrange, Cond.initialized RX0, Cond.code yX0_arrange cX0_arrange 4 none, Cond.fieldLink RX0 39 "TableWright$Layout" "room" "I", Cond.fieldLink RX0 51 "TableWright$Layout" "isFit" "Z", Cond.fieldLink RX0 55 "TableWright$Layout" "pageCount" "I", Cond.fieldLink RX0 58 "TableWright$Layout" "nextRow" "I", Cond.fieldLink RX0 61 "TableWright$Layout" "nextNote" "I", Cond.methodLink RX0 43 yX0_isWidthFit, Cond.instanceMethod yX0_isWidthFit, Cond.selects RX0 yX0_isWidthFit yX0_isWidthFit, Cond.code yX0_isWidthFit cX0_isWidthFit 5 (some .boolean), Cond.fieldLink RX0 9 "TableWright$Layout" "widths" "[I", Cond.methodLink RX0 112 yX0_tableWidth, Cond.instanceMethod yX0_tableWidth, Cond.selects RX0 yX0_tableWidth yX0_tableWidth, Cond.code yX0_tableWidth cX0_tableWidth 4 (some .int), Cond.methodLink RX0 116 yX0_mostSpareColumn, Cond.instanceMethod yX0_mostSpareColumn]
def wsX2_arrange_r2 : List Cond := [Cond.selects RX0 yX0_mostSpareColumn yX0_mostSpareColumn, Cond.code yX0_mostSpareColumn cX0_mostSpareColumn 6 (some .int), Cond.methodLink RX0 47 yX0_areHeightsFit, Cond.instanceMethod yX0_areHeightsFit, Cond.selects RX0 yX0_areHeightsFit yX0_areHeightsFit, Cond.code yX0_areHeightsFit cX0_areHeightsFit 5 (some .boolean), Cond.methodLink RX0 104 Lib.Math.max.name, Cond.static Lib.Math.max.name, Cond.initialized "java/lang/Math", Cond.code Lib.Math.max.name Lib.Math.max.code 2 (some .int), Cond.fieldLink RX0 15 "TableWright$Layout" "heights" "[I", Cond.methodLink RX0 122 yX0_heightOfCell, Cond.instanceMethod yX0_heightOfCell, Cond.selects RX0 yX0_heightOfCell yX0_heightOfCell, Cond.code yX0_heightOfCell cX0_heightOfCell 6 (some .int), Cond.methodLink RX0 97 yX3_isSpanning, Cond.instanceMethod yX3_isSpanning, Cond.selects RX3 yX3_isSpanning yX3_isSpanning, Cond.initialized RX3, Cond.code yX3_isSpanning cX3_isSpanning 3 (some .boolean), Cond.fieldLink RX3 37 "TableWright$Sheet" "columnCount" "I", Cond.fieldLink RX3 26 "TableWright$Sheet" "rows" "[LTableWright$Row;", Cond.methodLink RX0 69 yX0_fillPage, Cond.instanceMethod yX0_fillPage]
def wsX2_arrange_r3 : List Cond := [Cond.selects RX0 yX0_fillPage yX0_fillPage, Cond.code yX0_fillPage cX0_fillPage 4 none, Cond.fieldLink RX0 24 "TableWright$Layout" "firstRows" "[I", Cond.fieldLink RX0 27 "TableWright$Layout" "rowsOn" "[I", Cond.fieldLink RX0 30 "TableWright$Layout" "notesOn" "[I", Cond.fieldLink RX0 33 "TableWright$Layout" "left" "[I", Cond.fieldLink RX0 36 "TableWright$Layout" "lastRows" "[I", Cond.methodLink RX0 126 yX0_putWaitingNotes, Cond.instanceMethod yX0_putWaitingNotes, Cond.selects RX0 yX0_putWaitingNotes yX0_putWaitingNotes, Cond.code yX0_putWaitingNotes cX0_putWaitingNotes 4 none, Cond.fieldLink RX0 21 "TableWright$Layout" "notePages" "[I", Cond.methodLink RX0 129 yX0_hasRoomForNextRow, Cond.instanceMethod yX0_hasRoomForNextRow, Cond.selects RX0 yX0_hasRoomForNextRow yX0_hasRoomForNextRow, Cond.code yX0_hasRoomForNextRow cX0_hasRoomForNextRow 5 (some .boolean), Cond.methodLink RX0 142 yX0_heightOfGroup, Cond.instanceMethod yX0_heightOfGroup, Cond.selects RX0 yX0_heightOfGroup yX0_heightOfGroup, Cond.code yX0_heightOfGroup cX0_heightOfGroup 5 (some .int), Cond.methodLink RX0 132 yX0_putNextRow, Cond.instanceMethod yX0_putNextRow, Cond.selects RX0 yX0_putNextRow yX0_putNextRow, Cond.code yX0_putNextRow cX0_putNextRow 2 none]
def wsX2_arrange_r4 : List Cond := [Cond.fieldLink RX0 18 "TableWright$Layout" "rowPages" "[I"]
def wsX2_arrange : List Cond := .code yX2_arrange cX2_arrange 5 none :: ((wsX2_arrange_r1 ++ (wsX2_arrange_r2 ++ (wsX2_arrange_r3 ++ wsX2_arrange_r4))) ++ wsX20 ++ wsX00 ++ wsX30 ++ wsX10)
def wsX2_chosen : List Cond := .code yX2_chosen cX2_chosen 1 (some (.object "TableWright$Layout")) :: ([.fieldLink RX2 31 "TableWright$Setting" "isTurned" "Z", .fieldLink RX2 16 "TableWright$Setting" "turned" "LTableWright$Layout;", .fieldLink RX2 10 "TableWright$Setting" "upright" "LTableWright$Layout;"] ++ wsX20)
def wsX3_init : List Cond := .code yX3_init cX3_init 2 none :: ([.methodLink RX3 3 objectInit, .instanceMethod objectInit, .code objectInit ⟨#[0xb1]⟩ 1 none, .arrayClass .int, .fieldLink RX3 9 "TableWright$Sheet" "kinds" "[I", .fieldLink RX3 15 "TableWright$Sheet" "titles" "[I", .fieldLink RX3 18 "TableWright$Sheet" "firsts" "[I", .fieldLink RX3 21 "TableWright$Sheet" "seconds" "[I", .classLink RX3 24 RX1, .fieldLink RX3 26 "TableWright$Sheet" "rows" "[LTableWright$Row;", .fieldLink RX3 30 "TableWright$Sheet" "leasts" "[I", .fieldLink RX3 33 "TableWright$Sheet" "bests" "[I", .instantiable RX1 8, .initialized RX1, .instanceMethod yX1_init, .code yX1_init cX1_init 1 none, .methodLink RX1 3 objectInit, .fieldLink RX1 9 "TableWright$Row" "values" "[I", .fieldLink RX1 15 "TableWright$Row" "lengths" "[I", .fieldLink RX1 18 "TableWright$Row" "words" "[I", .arrayClass .boolean, .fieldLink RX1 21 "TableWright$Row" "isToSpan" "[Z", .fieldLink RX1 25 "TableWright$Row" "sums" "[I", .fieldLink RX1 28 "TableWright$Row" "isHidden" "[Z"] ++ wsX30 ++ wsX10)
def wsX3_addColumn : List Cond := .code yX3_addColumn cX3_addColumn 4 (some .int) :: ([.fieldLink RX3 37 "TableWright$Sheet" "columnCount" "I", .fieldLink RX3 9 "TableWright$Sheet" "kinds" "[I", .fieldLink RX3 15 "TableWright$Sheet" "titles" "[I"] ++ wsX30)
def wsX3_addRow : List Cond := .code yX3_addRow cX3_addRow 1 (some .int) :: ([.fieldLink RX3 26 "TableWright$Sheet" "rows" "[LTableWright$Row;", .fieldLink RX3 41 "TableWright$Sheet" "rowCount" "I", .methodLink RX3 44 yX1_clear, .instanceMethod yX1_clear, .selects RX1 yX1_clear yX1_clear, .initialized RX1, .code yX1_clear cX1_clear 2 none, .fieldLink RX1 9 "TableWright$Row" "values" "[I", .fieldLink RX1 15 "TableWright$Row" "lengths" "[I", .fieldLink RX1 18 "TableWright$Row" "words" "[I", .fieldLink RX1 21 "TableWright$Row" "isToSpan" "[Z", .fieldLink RX1 31 "TableWright$Row" "noteLines" "I", .fieldLink RX1 35 "TableWright$Row" "isKept" "Z"] ++ wsX30 ++ wsX10)
def wsX3_copyFrom : List Cond := .code yX3_copyFrom cX3_copyFrom 3 none :: ([.fieldLink RX3 37 "TableWright$Sheet" "columnCount" "I", .fieldLink RX3 9 "TableWright$Sheet" "kinds" "[I", .fieldLink RX3 15 "TableWright$Sheet" "titles" "[I", .fieldLink RX3 18 "TableWright$Sheet" "firsts" "[I", .fieldLink RX3 21 "TableWright$Sheet" "seconds" "[I", .fieldLink RX3 41 "TableWright$Sheet" "rowCount" "I", .fieldLink RX3 26 "TableWright$Sheet" "rows" "[LTableWright$Row;", .methodLink RX3 47 yX1_copyFrom, .instanceMethod yX1_copyFrom, .selects RX1 yX1_copyFrom yX1_copyFrom, .initialized RX1, .code yX1_copyFrom cX1_copyFrom 3 none, .fieldLink RX1 9 "TableWright$Row" "values" "[I", .fieldLink RX1 15 "TableWright$Row" "lengths" "[I", .fieldLink RX1 18 "TableWright$Row" "words" "[I", .fieldLink RX1 21 "TableWright$Row" "isToSpan" "[Z", .fieldLink RX1 31 "TableWright$Row" "noteLines" "I", .fieldLink RX1 35 "TableWright$Row" "isKept" "Z"] ++ wsX30 ++ wsX10)
def wsX3_linesOfNotes : List Cond := .code yX3_linesOfNotes cX3_linesOfNotes 3 (some .int) :: ([.fieldLink RX3 41 "TableWright$Sheet" "rowCount" "I", .fieldLink RX3 26 "TableWright$Sheet" "rows" "[LTableWright$Row;"] ++ wsX30 ++ wsX10)
def wsX3_reckonHidden : List Cond := .code yX3_reckonHidden cX3_reckonHidden 5 none :: ([.fieldLink RX3 9 "TableWright$Sheet" "kinds" "[I", .fieldLink RX3 41 "TableWright$Sheet" "rowCount" "I", .fieldLink RX3 26 "TableWright$Sheet" "rows" "[LTableWright$Row;"] ++ wsX30 ++ wsX10)
def wsX3_resultOf : List Cond := .code yX3_resultOf cX3_resultOf 7 (some .int) :: ([.constantLong RX3 84 (-99999), .constantLong RX3 86 (99999), .methodLink RX3 88 Lib.MathLoose.min_long.x, .static Lib.MathLoose.min_long.x, .initialized "java/lang/Math", .code Lib.MathLoose.min_long.x Lib.MathLoose.min_long.code 4 (some .long), .methodLink RX3 94 Lib.MathLoose.max_long.x, .static Lib.MathLoose.max_long.x, .code Lib.MathLoose.max_long.x Lib.MathLoose.max_long.code 4 (some .long)])
def wsX3_reckonNumbers : List Cond := .code yX3_reckonNumbers cX3_reckonNumbers 9 none :: ([.fieldLink RX3 41 "TableWright$Sheet" "rowCount" "I", .fieldLink RX3 26 "TableWright$Sheet" "rows" "[LTableWright$Row;", .fieldLink RX3 9 "TableWright$Sheet" "kinds" "[I", .fieldLink RX3 18 "TableWright$Sheet" "firsts" "[I", .fieldLink RX3 21 "TableWright$Sheet" "seconds" "[I", .methodLink RX3 80 yX3_resultOf, .static yX3_resultOf, .initialized RX3, .code yX3_resultOf cX3_resultOf 7 (some .int), .constantLong RX3 84 (-99999), .constantLong RX3 86 (99999), .methodLink RX3 88 Lib.MathLoose.min_long.x, .static Lib.MathLoose.min_long.x, .initialized "java/lang/Math", .code Lib.MathLoose.min_long.x Lib.MathLoose.min_long.code 4 (some .long), .methodLink RX3 94 Lib.MathLoose.max_long.x, .static Lib.MathLoose.max_long.x, .code Lib.MathLoose.max_long.x Lib.MathLoose.max_long.code 4 (some .long)] ++ wsX30 ++ wsX10)
def wsX3_measureText : List Cond := .code yX3_measureText cX3_measureText 5 none :: ([.fieldLink RX3 15 "TableWright$Sheet" "titles" "[I", .fieldLink RX3 41 "TableWright$Sheet" "rowCount" "I", .fieldLink RX3 26 "TableWright$Sheet" "rows" "[LTableWright$Row;", .methodLink RX3 104 Lib.Math.max.name, .static Lib.Math.max.name, .initialized "java/lang/Math", .code Lib.Math.max.name Lib.Math.max.code 2 (some .int), .fieldLink RX3 30 "TableWright$Sheet" "leasts" "[I", .fieldLink RX3 33 "TableWright$Sheet" "bests" "[I", .methodLink RX3 110 Lib.Math.min.name, .static Lib.Math.min.name, .code Lib.Math.min.name Lib.Math.min.code 2 (some .int), .methodLink RX3 97 yX3_isSpanning, .instanceMethod yX3_isSpanning, .selects RX3 yX3_isSpanning yX3_isSpanning, .initialized RX3, .code yX3_isSpanning cX3_isSpanning 3 (some .boolean), .fieldLink RX3 37 "TableWright$Sheet" "columnCount" "I"] ++ wsX30 ++ wsX10)
def wsX3_sizeOf : List Cond := .code yX3_sizeOf cX3_sizeOf 3 (some .int) :: ([])
def wsX3_measureNumbers : List Cond := .code yX3_measureNumbers cX3_measureNumbers 4 none :: ([.fieldLink RX3 15 "TableWright$Sheet" "titles" "[I", .fieldLink RX3 41 "TableWright$Sheet" "rowCount" "I", .fieldLink RX3 26 "TableWright$Sheet" "rows" "[LTableWright$Row;", .methodLink RX3 104 Lib.Math.max.name, .static Lib.Math.max.name, .initialized "java/lang/Math", .code Lib.Math.max.name Lib.Math.max.code 2 (some .int), .fieldLink RX3 30 "TableWright$Sheet" "leasts" "[I", .fieldLink RX3 33 "TableWright$Sheet" "bests" "[I", .methodLink RX3 112 yX3_sizeOf, .static yX3_sizeOf, .initialized RX3, .code yX3_sizeOf cX3_sizeOf 3 (some .int)] ++ wsX30 ++ wsX10)
def wsX3_reckon_r1 : List Cond := [Cond.fieldLink RX3 37 "TableWright$Sheet" "columnCount" "I", Cond.fieldLink RX3 9 "TableWright$Sheet" "kinds" "[I", Cond.methodLink RX3 61 yX3_reckonHidden, Cond.instanceMethod yX3_reckonHidden, Cond.selects RX3 yX3_reckonHidden yX3_reckonHidden, Cond.initialized RX3, Cond.code yX3_reckonHidden cX3_reckonHidden 5 none, Cond.fieldLink RX3 41 "TableWright$Sheet" "rowCount" "I", Cond.fieldLink RX3 26 "TableWright$Sheet" "rows" "[LTableWright$Row;", Cond.methodLink RX3 65 yX3_reckonNumbers, Cond.instanceMethod yX3_reckonNumbers, Cond.selects RX3 yX3_reckonNumbers yX3_reckonNumbers, Cond.code yX3_reckonNumbers cX3_reckonNumbers 9 none, Cond.fieldLink RX3 18 "TableWright$Sheet" "firsts" "[I", Cond.fieldLink RX3 21 "TableWright$Sheet" "seconds" "[I", Cond.methodLink RX3 80 yX3_resultOf, Cond.static yX3_resultOf, Cond.code yX3_resultOf cX3_resultOf 7 (some .int), Cond.constantLong RX3 84 (-99999), Cond.constantLong RX3 86 (99999), Cond.methodLink RX3 88 Lib.MathLoose.min_long.x, Cond.static Lib.MathLoose.min_long.x, Cond.initialized "java/lang/Math", Cond.code Lib.MathLoose.min_long.x Lib.MathLoose.min_long.code 4 (some .long)]
def wsX3_reckon_r2 : List Cond := [Cond.methodLink RX3 94 Lib.MathLoose.max_long.x, Cond.static Lib.MathLoose.max_long.x, Cond.code Lib.MathLoose.max_long.x Lib.MathLoose.max_long.code 4 (some .long), Cond.methodLink RX3 68 yX3_measureText, Cond.instanceMethod yX3_measureText, Cond.selects RX3 yX3_measureText yX3_measureText, Cond.code yX3_measureText cX3_measureText 5 none, Cond.fieldLink RX3 15 "TableWright$Sheet" "titles" "[I", Cond.methodLink RX3 104 Lib.Math.max.name, Cond.static Lib.Math.max.name, Cond.code Lib.Math.max.name Lib.Math.max.code 2 (some .int), Cond.fieldLink RX3 30 "TableWright$Sheet" "leasts" "[I", Cond.fieldLink RX3 33 "TableWright$Sheet" "bests" "[I", Cond.methodLink RX3 110 Lib.Math.min.name, Cond.static Lib.Math.min.name, Cond.code Lib.Math.min.name Lib.Math.min.code 2 (some .int), Cond.methodLink RX3 97 yX3_isSpanning, Cond.instanceMethod yX3_isSpanning, Cond.selects RX3 yX3_isSpanning yX3_isSpanning, Cond.code yX3_isSpanning cX3_isSpanning 3 (some .boolean), Cond.methodLink RX3 71 yX3_measureNumbers, Cond.instanceMethod yX3_measureNumbers, Cond.selects RX3 yX3_measureNumbers yX3_measureNumbers, Cond.code yX3_measureNumbers cX3_measureNumbers 4 none]
def wsX3_reckon_r3 : List Cond := [Cond.methodLink RX3 112 yX3_sizeOf, Cond.static yX3_sizeOf, Cond.code yX3_sizeOf cX3_sizeOf 3 (some .int)]
def wsX3_reckon : List Cond := .code yX3_reckon cX3_reckon 2 none :: ((wsX3_reckon_r1 ++ (wsX3_reckon_r2 ++ wsX3_reckon_r3)) ++ wsX30 ++ wsX10)
def wsX4_init_r1 : List Cond := [Cond.methodLink RX4 3 objectInit, Cond.instanceMethod objectInit, Cond.code objectInit ⟨#[0xb1]⟩ 1 none, Cond.classLink RX4 9 RX3, Cond.instantiable RX3 9, Cond.initialized RX3, Cond.fieldLink RX4 12 "TableWright" "sheet" "LTableWright$Sheet;", Cond.classLink RX4 16 RX2, Cond.instantiable RX2 3, Cond.initialized RX2, Cond.fieldLink RX4 19 "TableWright" "setting" "LTableWright$Setting;", Cond.fieldLink RX4 23 "TableWright" "wide" "I", Cond.fieldLink RX4 27 "TableWright" "high" "I", Cond.fieldLink RX4 30 "TableWright" "isStale" "Z", Cond.fieldLink RX4 34 "TableWright" "trialSheet" "LTableWright$Sheet;", Cond.fieldLink RX4 37 "TableWright" "trialSetting" "LTableWright$Setting;", Cond.classLink RX4 40 RX0, Cond.instantiable RX0 14, Cond.initialized RX0, Cond.fieldLink RX4 43 "TableWright" "probe" "LTableWright$Layout;", Cond.methodLink RX4 11 yX3_init, Cond.instanceMethod yX3_init, Cond.code yX3_init cX3_init 2 none, Cond.methodLink RX3 3 objectInit]
def wsX4_init_r2 : List Cond := [Cond.arrayClass .int, Cond.fieldLink RX3 9 "TableWright$Sheet" "kinds" "[I", Cond.fieldLink RX3 15 "TableWright$Sheet" "titles" "[I", Cond.fieldLink RX3 18 "TableWright$Sheet" "firsts" "[I", Cond.fieldLink RX3 21 "TableWright$Sheet" "seconds" "[I", Cond.classLink RX3 24 RX1, Cond.fieldLink RX3 26 "TableWright$Sheet" "rows" "[LTableWright$Row;", Cond.fieldLink RX3 30 "TableWright$Sheet" "leasts" "[I", Cond.fieldLink RX3 33 "TableWright$Sheet" "bests" "[I", Cond.instantiable RX1 8, Cond.initialized RX1, Cond.instanceMethod yX1_init, Cond.code yX1_init cX1_init 1 none, Cond.methodLink RX1 3 objectInit, Cond.fieldLink RX1 9 "TableWright$Row" "values" "[I", Cond.fieldLink RX1 15 "TableWright$Row" "lengths" "[I", Cond.fieldLink RX1 18 "TableWright$Row" "words" "[I", Cond.arrayClass .boolean, Cond.fieldLink RX1 21 "TableWright$Row" "isToSpan" "[Z", Cond.fieldLink RX1 25 "TableWright$Row" "sums" "[I", Cond.fieldLink RX1 28 "TableWright$Row" "isHidden" "[Z", Cond.instanceMethod yX2_init, Cond.code yX2_init cX2_init 1 none, Cond.methodLink RX2 1 objectInit]
def wsX4_init_r3 : List Cond := [Cond.classLink RX2 7 RX0, Cond.fieldLink RX2 10 "TableWright$Setting" "upright" "LTableWright$Layout;", Cond.fieldLink RX2 16 "TableWright$Setting" "turned" "LTableWright$Layout;", Cond.instanceMethod yX0_init, Cond.code yX0_init cX0_init 1 none, Cond.methodLink RX0 3 objectInit, Cond.fieldLink RX0 9 "TableWright$Layout" "widths" "[I", Cond.fieldLink RX0 15 "TableWright$Layout" "heights" "[I", Cond.fieldLink RX0 18 "TableWright$Layout" "rowPages" "[I", Cond.fieldLink RX0 21 "TableWright$Layout" "notePages" "[I", Cond.fieldLink RX0 24 "TableWright$Layout" "firstRows" "[I", Cond.fieldLink RX0 27 "TableWright$Layout" "rowsOn" "[I", Cond.fieldLink RX0 30 "TableWright$Layout" "notesOn" "[I", Cond.fieldLink RX0 33 "TableWright$Layout" "left" "[I", Cond.fieldLink RX0 36 "TableWright$Layout" "lastRows" "[I"]
def wsX4_init : List Cond := .code yX4_init cX4_init 1 none :: ((wsX4_init_r1 ++ (wsX4_init_r2 ++ wsX4_init_r3)) ++ wsX30 ++ wsX40 ++ wsX20 ++ wsX00 ++ wsX10)
def wsX4_requireRange : List Cond := .code yX4_requireRange cX4_requireRange 3 none :: ([.classLink RX4 122 "java/lang/IllegalArgumentException", .initialized "java/lang/IllegalArgumentException"] ++ (vx_atS RX4 126 "java/lang/IllegalArgumentException" ["java/lang/RuntimeException", "java/lang/Exception"]).filter goodWord)
def wsX4_requireSpareColumn : List Cond := .code yX4_requireSpareColumn cX4_requireSpareColumn 1 none :: ([.classLink RX4 75 "java/lang/IllegalStateException", .initialized "java/lang/IllegalStateException", .fieldLink RX4 12 "TableWright" "sheet" "LTableWright$Sheet;"] ++ wsX40 ++ wsX30 ++ (vx_atS RX4 79 "java/lang/IllegalStateException" ["java/lang/RuntimeException", "java/lang/Exception"]).filter goodWord)
def wsX4_column : List Cond := .code yX4_column cX4_column 3 (some .int) :: ([.fieldLink RX4 30 "TableWright" "isStale" "Z", .fieldLink RX4 12 "TableWright" "sheet" "LTableWright$Sheet;", .methodLink RX4 47 yX4_requireRange, .static yX4_requireRange, .initialized RX4, .code yX4_requireRange cX4_requireRange 3 none, .classLink RX4 122 "java/lang/IllegalArgumentException", .initialized "java/lang/IllegalArgumentException", .methodLink RX4 51 yX4_requireSpareColumn, .instanceMethod yX4_requireSpareColumn, .selects RX4 yX4_requireSpareColumn yX4_requireSpareColumn, .code yX4_requireSpareColumn cX4_requireSpareColumn 1 none, .classLink RX4 75 "java/lang/IllegalStateException", .initialized "java/lang/IllegalStateException", .methodLink RX4 54 yX3_addColumn, .instanceMethod yX3_addColumn, .selects RX3 yX3_addColumn yX3_addColumn, .initialized RX3, .code yX3_addColumn cX3_addColumn 4 (some .int), .fieldLink RX3 37 "TableWright$Sheet" "columnCount" "I", .fieldLink RX3 9 "TableWright$Sheet" "kinds" "[I", .fieldLink RX3 15 "TableWright$Sheet" "titles" "[I"] ++ wsX40 ++ wsX30 ++ (vx_atS RX4 126 "java/lang/IllegalArgumentException" ["java/lang/RuntimeException", "java/lang/Exception"]).filter goodWord ++ (vx_atS RX4 79 "java/lang/IllegalStateException" ["java/lang/RuntimeException", "java/lang/Exception"]).filter goodWord)
def wsX4_row : List Cond := .code yX4_row cX4_row 1 (some .int) :: ([.classLink RX4 75 "java/lang/IllegalStateException", .initialized "java/lang/IllegalStateException", .fieldLink RX4 12 "TableWright" "sheet" "LTableWright$Sheet;", .fieldLink RX4 30 "TableWright" "isStale" "Z", .methodLink RX4 82 yX3_addRow, .instanceMethod yX3_addRow, .selects RX3 yX3_addRow yX3_addRow, .initialized RX3, .code yX3_addRow cX3_addRow 1 (some .int), .fieldLink RX3 26 "TableWright$Sheet" "rows" "[LTableWright$Row;", .fieldLink RX3 41 "TableWright$Sheet" "rowCount" "I", .methodLink RX3 44 yX1_clear, .instanceMethod yX1_clear, .selects RX1 yX1_clear yX1_clear, .initialized RX1, .code yX1_clear cX1_clear 2 none, .fieldLink RX1 9 "TableWright$Row" "values" "[I", .fieldLink RX1 15 "TableWright$Row" "lengths" "[I", .fieldLink RX1 18 "TableWright$Row" "words" "[I", .fieldLink RX1 21 "TableWright$Row" "isToSpan" "[Z", .fieldLink RX1 31 "TableWright$Row" "noteLines" "I", .fieldLink RX1 35 "TableWright$Row" "isKept" "Z"] ++ wsX40 ++ wsX30 ++ wsX10 ++ (vx_atS RX4 79 "java/lang/IllegalStateException" ["java/lang/RuntimeException", "java/lang/Exception"]).filter goodWord)
def wsX4_requireRow : List Cond := .code yX4_requireRow cX4_requireRow 2 none :: ([.classLink RX4 211 "java/lang/IndexOutOfBoundsException", .initialized "java/lang/IndexOutOfBoundsException", .fieldLink RX4 12 "TableWright" "sheet" "LTableWright$Sheet;"] ++ wsX40 ++ wsX30 ++ (vx_atS RX4 215 "java/lang/IndexOutOfBoundsException" ["java/lang/RuntimeException", "java/lang/Exception"]).filter goodWord)
def wsX4_requireColumn : List Cond := .code yX4_requireColumn cX4_requireColumn 2 none :: ([.classLink RX4 211 "java/lang/IndexOutOfBoundsException", .initialized "java/lang/IndexOutOfBoundsException", .fieldLink RX4 12 "TableWright" "sheet" "LTableWright$Sheet;"] ++ wsX40 ++ wsX30 ++ (vx_atS RX4 215 "java/lang/IndexOutOfBoundsException" ["java/lang/RuntimeException", "java/lang/Exception"]).filter goodWord)
def wsX4_requireKind : List Cond := .code yX4_requireKind cX4_requireKind 3 none :: ([.classLink RX4 122 "java/lang/IllegalArgumentException", .initialized "java/lang/IllegalArgumentException", .fieldLink RX4 12 "TableWright" "sheet" "LTableWright$Sheet;"] ++ wsX40 ++ wsX30 ++ (vx_atS RX4 126 "java/lang/IllegalArgumentException" ["java/lang/RuntimeException", "java/lang/Exception"]).filter goodWord)
def wsX4_requireNumberCell : List Cond := .code yX4_requireNumberCell cX4_requireNumberCell 4 none :: ([.methodLink RX4 86 yX4_requireRow, .instanceMethod yX4_requireRow, .selects RX4 yX4_requireRow yX4_requireRow, .initialized RX4, .code yX4_requireRow cX4_requireRow 2 none, .classLink RX4 211 "java/lang/IndexOutOfBoundsException", .initialized "java/lang/IndexOutOfBoundsException", .fieldLink RX4 12 "TableWright" "sheet" "LTableWright$Sheet;", .methodLink RX4 58 yX4_requireColumn, .instanceMethod yX4_requireColumn, .selects RX4 yX4_requireColumn yX4_requireColumn, .code yX4_requireColumn cX4_requireColumn 2 none, .methodLink RX4 104 yX4_requireKind, .instanceMethod yX4_requireKind, .selects RX4 yX4_requireKind yX4_requireKind, .code yX4_requireKind cX4_requireKind 3 none, .classLink RX4 122 "java/lang/IllegalArgumentException", .initialized "java/lang/IllegalArgumentException", .methodLink RX4 47 yX4_requireRange, .static yX4_requireRange, .code yX4_requireRange cX4_requireRange 3 none] ++ wsX40 ++ wsX30 ++ (vx_atS RX4 215 "java/lang/IndexOutOfBoundsException" ["java/lang/RuntimeException", "java/lang/Exception"]).filter goodWord ++ (vx_atS RX4 126 "java/lang/IllegalArgumentException" ["java/lang/RuntimeException", "java/lang/Exception"]).filter goodWord)
def wsX4_number_r1 : List Cond := [Cond.fieldLink RX4 30 "TableWright" "isStale" "Z", Cond.fieldLink RX4 12 "TableWright" "sheet" "LTableWright$Sheet;", Cond.methodLink RX4 92 yX4_requireNumberCell, Cond.instanceMethod yX4_requireNumberCell, Cond.selects RX4 yX4_requireNumberCell yX4_requireNumberCell, Cond.initialized RX4, Cond.code yX4_requireNumberCell cX4_requireNumberCell 4 none, Cond.methodLink RX4 86 yX4_requireRow, Cond.instanceMethod yX4_requireRow, Cond.selects RX4 yX4_requireRow yX4_requireRow, Cond.code yX4_requireRow cX4_requireRow 2 none, Cond.classLink RX4 211 "java/lang/IndexOutOfBoundsException", Cond.initialized "java/lang/IndexOutOfBoundsException", Cond.methodLink RX4 58 yX4_requireColumn, Cond.instanceMethod yX4_requireColumn, Cond.selects RX4 yX4_requireColumn yX4_requireColumn, Cond.code yX4_requireColumn cX4_requireColumn 2 none, Cond.methodLink RX4 104 yX4_requireKind, Cond.instanceMethod yX4_requireKind, Cond.selects RX4 yX4_requireKind yX4_requireKind, Cond.code yX4_requireKind cX4_requireKind 3 none, Cond.classLink RX4 122 "java/lang/IllegalArgumentException", Cond.initialized "java/lang/IllegalArgumentException", Cond.methodLink RX4 47 yX4_requireRange]
def wsX4_number_r2 : List Cond := [Cond.static yX4_requireRange, Cond.code yX4_requireRange cX4_requireRange 3 none]
def wsX4_number : List Cond := .code yX4_number cX4_number 5 (some .int) :: ((wsX4_number_r1 ++ wsX4_number_r2) ++ wsX40 ++ wsX30 ++ wsX10 ++ (vx_atS RX4 215 "java/lang/IndexOutOfBoundsException" ["java/lang/RuntimeException", "java/lang/Exception"]).filter goodWord ++ (vx_atS RX4 126 "java/lang/IllegalArgumentException" ["java/lang/RuntimeException", "java/lang/Exception"]).filter goodWord)
def wsX4_text_r1 : List Cond := [Cond.methodLink RX4 108 Lib.Math.min.name, Cond.static Lib.Math.min.name, Cond.initialized "java/lang/Math", Cond.code Lib.Math.min.name Lib.Math.min.code 2 (some .int), Cond.fieldLink RX4 30 "TableWright" "isStale" "Z", Cond.fieldLink RX4 12 "TableWright" "sheet" "LTableWright$Sheet;", Cond.methodLink RX4 86 yX4_requireRow, Cond.instanceMethod yX4_requireRow, Cond.selects RX4 yX4_requireRow yX4_requireRow, Cond.initialized RX4, Cond.code yX4_requireRow cX4_requireRow 2 none, Cond.classLink RX4 211 "java/lang/IndexOutOfBoundsException", Cond.initialized "java/lang/IndexOutOfBoundsException", Cond.methodLink RX4 58 yX4_requireColumn, Cond.instanceMethod yX4_requireColumn, Cond.selects RX4 yX4_requireColumn yX4_requireColumn, Cond.code yX4_requireColumn cX4_requireColumn 2 none, Cond.methodLink RX4 104 yX4_requireKind, Cond.instanceMethod yX4_requireKind, Cond.selects RX4 yX4_requireKind yX4_requireKind, Cond.code yX4_requireKind cX4_requireKind 3 none, Cond.classLink RX4 122 "java/lang/IllegalArgumentException", Cond.initialized "java/lang/IllegalArgumentException", Cond.methodLink RX4 47 yX4_requireRange]
def wsX4_text_r2 : List Cond := [Cond.static yX4_requireRange, Cond.code yX4_requireRange cX4_requireRange 3 none]
def wsX4_text : List Cond := .code yX4_text cX4_text 6 (some .int) :: ((wsX4_text_r1 ++ wsX4_text_r2) ++ wsX40 ++ wsX30 ++ wsX10 ++ (vx_atS RX4 215 "java/lang/IndexOutOfBoundsException" ["java/lang/RuntimeException", "java/lang/Exception"]).filter goodWord ++ (vx_atS RX4 126 "java/lang/IllegalArgumentException" ["java/lang/RuntimeException", "java/lang/Exception"]).filter goodWord)
def wsX4_refresh_r1 : List Cond := [Cond.fieldLink RX4 30 "TableWright" "isStale" "Z", Cond.fieldLink RX4 12 "TableWright" "sheet" "LTableWright$Sheet;", Cond.fieldLink RX4 19 "TableWright" "setting" "LTableWright$Setting;", Cond.fieldLink RX4 23 "TableWright" "wide" "I", Cond.fieldLink RX4 27 "TableWright" "high" "I", Cond.methodLink RX4 229 yX3_reckon, Cond.instanceMethod yX3_reckon, Cond.selects RX3 yX3_reckon yX3_reckon, Cond.initialized RX3, Cond.code yX3_reckon cX3_reckon 2 none, Cond.fieldLink RX3 37 "TableWright$Sheet" "columnCount" "I", Cond.fieldLink RX3 9 "TableWright$Sheet" "kinds" "[I", Cond.methodLink RX3 61 yX3_reckonHidden, Cond.instanceMethod yX3_reckonHidden, Cond.selects RX3 yX3_reckonHidden yX3_reckonHidden, Cond.code yX3_reckonHidden cX3_reckonHidden 5 none, Cond.fieldLink RX3 41 "TableWright$Sheet" "rowCount" "I", Cond.fieldLink RX3 26 "TableWright$Sheet" "rows" "[LTableWright$Row;", Cond.methodLink RX3 65 yX3_reckonNumbers, Cond.instanceMethod yX3_reckonNumbers, Cond.selects RX3 yX3_reckonNumbers yX3_reckonNumbers, Cond.code yX3_reckonNumbers cX3_reckonNumbers 9 none, Cond.fieldLink RX3 18 "TableWright$Sheet" "firsts" "[I", Cond.fieldLink RX3 21 "TableWright$Sheet" "seconds" "[I"]
def wsX4_refresh_r2 : List Cond := [Cond.methodLink RX3 80 yX3_resultOf, Cond.static yX3_resultOf, Cond.code yX3_resultOf cX3_resultOf 7 (some .int), Cond.constantLong RX3 84 (-99999), Cond.constantLong RX3 86 (99999), Cond.methodLink RX3 88 Lib.MathLoose.min_long.x, Cond.static Lib.MathLoose.min_long.x, Cond.initialized "java/lang/Math", Cond.code Lib.MathLoose.min_long.x Lib.MathLoose.min_long.code 4 (some .long), Cond.methodLink RX3 94 Lib.MathLoose.max_long.x, Cond.static Lib.MathLoose.max_long.x, Cond.code Lib.MathLoose.max_long.x Lib.MathLoose.max_long.code 4 (some .long), Cond.methodLink RX3 68 yX3_measureText, Cond.instanceMethod yX3_measureText, Cond.selects RX3 yX3_measureText yX3_measureText, Cond.code yX3_measureText cX3_measureText 5 none, Cond.fieldLink RX3 15 "TableWright$Sheet" "titles" "[I", Cond.methodLink RX3 104 Lib.Math.max.name, Cond.static Lib.Math.max.name, Cond.code Lib.Math.max.name Lib.Math.max.code 2 (some .int), Cond.fieldLink RX3 30 "TableWright$Sheet" "leasts" "[I", Cond.fieldLink RX3 33 "TableWright$Sheet" "bests" "[I", Cond.methodLink RX3 110 Lib.Math.min.name, Cond.static Lib.Math.min.name]
def wsX4_refresh_r3 : List Cond := [Cond.code Lib.Math.min.name Lib.Math.min.code 2 (some .int), Cond.methodLink RX3 97 yX3_isSpanning, Cond.instanceMethod yX3_isSpanning, Cond.selects RX3 yX3_isSpanning yX3_isSpanning, Cond.code yX3_isSpanning cX3_isSpanning 3 (some .boolean), Cond.methodLink RX3 71 yX3_measureNumbers, Cond.instanceMethod yX3_measureNumbers, Cond.selects RX3 yX3_measureNumbers yX3_measureNumbers, Cond.code yX3_measureNumbers cX3_measureNumbers 4 none, Cond.methodLink RX3 112 yX3_sizeOf, Cond.static yX3_sizeOf, Cond.code yX3_sizeOf cX3_sizeOf 3 (some .int), Cond.methodLink RX4 232 yX2_arrange, Cond.instanceMethod yX2_arrange, Cond.selects RX2 yX2_arrange yX2_arrange, Cond.initialized RX2, Cond.code yX2_arrange cX2_arrange 5 none, Cond.fieldLink RX2 10 "TableWright$Setting" "upright" "LTableWright$Layout;", Cond.fieldLink RX2 16 "TableWright$Setting" "turned" "LTableWright$Layout;", Cond.fieldLink RX2 31 "TableWright$Setting" "isTurned" "Z", Cond.methodLink RX2 19 yX0_arrange, Cond.instanceMethod yX0_arrange, Cond.selects RX0 yX0_arrange yX0_arrange, Cond.initialized RX0]
def wsX4_refresh_r4 : List Cond := [Cond.code yX0_arrange cX0_arrange 4 none, Cond.fieldLink RX0 39 "TableWright$Layout" "room" "I", Cond.fieldLink RX0 51 "TableWright$Layout" "isFit" "Z", Cond.fieldLink RX0 55 "TableWright$Layout" "pageCount" "I", Cond.fieldLink RX0 58 "TableWright$Layout" "nextRow" "I", Cond.fieldLink RX0 61 "TableWright$Layout" "nextNote" "I", Cond.methodLink RX0 43 yX0_isWidthFit, Cond.instanceMethod yX0_isWidthFit, Cond.selects RX0 yX0_isWidthFit yX0_isWidthFit, Cond.code yX0_isWidthFit cX0_isWidthFit 5 (some .boolean), Cond.fieldLink RX0 9 "TableWright$Layout" "widths" "[I", Cond.methodLink RX0 112 yX0_tableWidth, Cond.instanceMethod yX0_tableWidth, Cond.selects RX0 yX0_tableWidth yX0_tableWidth, Cond.code yX0_tableWidth cX0_tableWidth 4 (some .int), Cond.methodLink RX0 116 yX0_mostSpareColumn, Cond.instanceMethod yX0_mostSpareColumn, Cond.selects RX0 yX0_mostSpareColumn yX0_mostSpareColumn, Cond.code yX0_mostSpareColumn cX0_mostSpareColumn 6 (some .int), Cond.methodLink RX0 47 yX0_areHeightsFit, Cond.instanceMethod yX0_areHeightsFit, Cond.selects RX0 yX0_areHeightsFit yX0_areHeightsFit, Cond.code yX0_areHeightsFit cX0_areHeightsFit 5 (some .boolean), Cond.methodLink RX0 104 Lib.Math.max.name]
def wsX4_refresh_r5 : List Cond := [Cond.fieldLink RX0 15 "TableWright$Layout" "heights" "[I", Cond.methodLink RX0 122 yX0_heightOfCell, Cond.instanceMethod yX0_heightOfCell, Cond.selects RX0 yX0_heightOfCell yX0_heightOfCell, Cond.code yX0_heightOfCell cX0_heightOfCell 6 (some .int), Cond.methodLink RX0 97 yX3_isSpanning, Cond.methodLink RX0 69 yX0_fillPage, Cond.instanceMethod yX0_fillPage, Cond.selects RX0 yX0_fillPage yX0_fillPage, Cond.code yX0_fillPage cX0_fillPage 4 none, Cond.fieldLink RX0 24 "TableWright$Layout" "firstRows" "[I", Cond.fieldLink RX0 27 "TableWright$Layout" "rowsOn" "[I", Cond.fieldLink RX0 30 "TableWright$Layout" "notesOn" "[I", Cond.fieldLink RX0 33 "TableWright$Layout" "left" "[I", Cond.fieldLink RX0 36 "TableWright$Layout" "lastRows" "[I", Cond.methodLink RX0 126 yX0_putWaitingNotes, Cond.instanceMethod yX0_putWaitingNotes, Cond.selects RX0 yX0_putWaitingNotes yX0_putWaitingNotes, Cond.code yX0_putWaitingNotes cX0_putWaitingNotes 4 none, Cond.fieldLink RX0 21 "TableWright$Layout" "notePages" "[I", Cond.methodLink RX0 129 yX0_hasRoomForNextRow, Cond.instanceMethod yX0_hasRoomForNextRow, Cond.selects RX0 yX0_hasRoomForNextRow yX0_hasRoomForNextRow, Cond.code yX0_hasRoomForNextRow cX0_hasRoomForNextRow 5 (some .boolean)]
def wsX4_refresh_r6 : List Cond := [Cond.methodLink RX0 142 yX0_heightOfGroup, Cond.instanceMethod yX0_heightOfGroup, Cond.selects RX0 yX0_heightOfGroup yX0_heightOfGroup, Cond.code yX0_heightOfGroup cX0_heightOfGroup 5 (some .int), Cond.methodLink RX0 132 yX0_putNextRow, Cond.instanceMethod yX0_putNextRow, Cond.selects RX0 yX0_putNextRow yX0_putNextRow, Cond.code yX0_putNextRow cX0_putNextRow 2 none, Cond.fieldLink RX0 18 "TableWright$Layout" "rowPages" "[I"]
def wsX4_refresh : List Cond := .code yX4_refresh cX4_refresh 1 none :: ((wsX4_refresh_r1 ++ (wsX4_refresh_r2 ++ (wsX4_refresh_r3 ++ (wsX4_refresh_r4 ++ (wsX4_refresh_r5 ++ wsX4_refresh_r6))))) ++ wsX40 ++ wsX30 ++ wsX10 ++ wsX20 ++ wsX00)
def wsX4_span_r1 : List Cond := [Cond.classLink RX4 122 "java/lang/IllegalArgumentException", Cond.initialized "java/lang/IllegalArgumentException", Cond.fieldLink RX4 12 "TableWright" "sheet" "LTableWright$Sheet;", Cond.fieldLink RX4 30 "TableWright" "isStale" "Z", Cond.methodLink RX4 86 yX4_requireRow, Cond.instanceMethod yX4_requireRow, Cond.selects RX4 yX4_requireRow yX4_requireRow, Cond.initialized RX4, Cond.code yX4_requireRow cX4_requireRow 2 none, Cond.classLink RX4 211 "java/lang/IndexOutOfBoundsException", Cond.initialized "java/lang/IndexOutOfBoundsException", Cond.methodLink RX4 58 yX4_requireColumn, Cond.instanceMethod yX4_requireColumn, Cond.selects RX4 yX4_requireColumn yX4_requireColumn, Cond.code yX4_requireColumn cX4_requireColumn 2 none, Cond.methodLink RX4 104 yX4_requireKind, Cond.instanceMethod yX4_requireKind, Cond.selects RX4 yX4_requireKind yX4_requireKind, Cond.code yX4_requireKind cX4_requireKind 3 none, Cond.methodLink RX4 131 yX4_refresh, Cond.instanceMethod yX4_refresh, Cond.selects RX4 yX4_refresh yX4_refresh, Cond.code yX4_refresh cX4_refresh 1 none, Cond.fieldLink RX4 19 "TableWright" "setting" "LTableWright$Setting;"]
def wsX4_span_r2 : List Cond := [Cond.fieldLink RX4 23 "TableWright" "wide" "I", Cond.fieldLink RX4 27 "TableWright" "high" "I", Cond.methodLink RX4 229 yX3_reckon, Cond.instanceMethod yX3_reckon, Cond.selects RX3 yX3_reckon yX3_reckon, Cond.initialized RX3, Cond.code yX3_reckon cX3_reckon 2 none, Cond.fieldLink RX3 37 "TableWright$Sheet" "columnCount" "I", Cond.fieldLink RX3 9 "TableWright$Sheet" "kinds" "[I", Cond.methodLink RX3 61 yX3_reckonHidden, Cond.instanceMethod yX3_reckonHidden, Cond.selects RX3 yX3_reckonHidden yX3_reckonHidden, Cond.code yX3_reckonHidden cX3_reckonHidden 5 none, Cond.fieldLink RX3 41 "TableWright$Sheet" "rowCount" "I", Cond.fieldLink RX3 26 "TableWright$Sheet" "rows" "[LTableWright$Row;", Cond.methodLink RX3 65 yX3_reckonNumbers, Cond.instanceMethod yX3_reckonNumbers, Cond.selects RX3 yX3_reckonNumbers yX3_reckonNumbers, Cond.code yX3_reckonNumbers cX3_reckonNumbers 9 none, Cond.fieldLink RX3 18 "TableWright$Sheet" "firsts" "[I", Cond.fieldLink RX3 21 "TableWright$Sheet" "seconds" "[I", Cond.methodLink RX3 80 yX3_resultOf, Cond.static yX3_resultOf, Cond.code yX3_resultOf cX3_resultOf 7 (some .int)]
def wsX4_span_r3 : List Cond := [Cond.constantLong RX3 84 (-99999), Cond.constantLong RX3 86 (99999), Cond.methodLink RX3 88 Lib.MathLoose.min_long.x, Cond.static Lib.MathLoose.min_long.x, Cond.initialized "java/lang/Math", Cond.code Lib.MathLoose.min_long.x Lib.MathLoose.min_long.code 4 (some .long), Cond.methodLink RX3 94 Lib.MathLoose.max_long.x, Cond.static Lib.MathLoose.max_long.x, Cond.code Lib.MathLoose.max_long.x Lib.MathLoose.max_long.code 4 (some .long), Cond.methodLink RX3 68 yX3_measureText, Cond.instanceMethod yX3_measureText, Cond.selects RX3 yX3_measureText yX3_measureText, Cond.code yX3_measureText cX3_measureText 5 none, Cond.fieldLink RX3 15 "TableWright$Sheet" "titles" "[I", Cond.methodLink RX3 104 Lib.Math.max.name, Cond.static Lib.Math.max.name, Cond.code Lib.Math.max.name Lib.Math.max.code 2 (some .int), Cond.fieldLink RX3 30 "TableWright$Sheet" "leasts" "[I", Cond.fieldLink RX3 33 "TableWright$Sheet" "bests" "[I", Cond.methodLink RX3 110 Lib.Math.min.name, Cond.static Lib.Math.min.name, Cond.code Lib.Math.min.name Lib.Math.min.code 2 (some .int), Cond.methodLink RX3 97 yX3_isSpanning, Cond.instanceMethod yX3_isSpanning]
def wsX4_span_r4 : List Cond := [Cond.selects RX3 yX3_isSpanning yX3_isSpanning, Cond.code yX3_isSpanning cX3_isSpanning 3 (some .boolean), Cond.methodLink RX3 71 yX3_measureNumbers, Cond.instanceMethod yX3_measureNumbers, Cond.selects RX3 yX3_measureNumbers yX3_measureNumbers, Cond.code yX3_measureNumbers cX3_measureNumbers 4 none, Cond.methodLink RX3 112 yX3_sizeOf, Cond.static yX3_sizeOf, Cond.code yX3_sizeOf cX3_sizeOf 3 (some .int), Cond.methodLink RX4 232 yX2_arrange, Cond.instanceMethod yX2_arrange, Cond.selects RX2 yX2_arrange yX2_arrange, Cond.initialized RX2, Cond.code yX2_arrange cX2_arrange 5 none, Cond.fieldLink RX2 10 "TableWright$Setting" "upright" "LTableWright$Layout;", Cond.fieldLink RX2 16 "TableWright$Setting" "turned" "LTableWright$Layout;", Cond.fieldLink RX2 31 "TableWright$Setting" "isTurned" "Z", Cond.methodLink RX2 19 yX0_arrange, Cond.instanceMethod yX0_arrange, Cond.selects RX0 yX0_arrange yX0_arrange, Cond.initialized RX0, Cond.code yX0_arrange cX0_arrange 4 none, Cond.fieldLink RX0 39 "TableWright$Layout" "room" "I", Cond.fieldLink RX0 51 "TableWright$Layout" "isFit" "Z"]
def wsX4_span_r5 : List Cond := [Cond.fieldLink RX0 55 "TableWright$Layout" "pageCount" "I", Cond.fieldLink RX0 58 "TableWright$Layout" "nextRow" "I", Cond.fieldLink RX0 61 "TableWright$Layout" "nextNote" "I", Cond.methodLink RX0 43 yX0_isWidthFit, Cond.instanceMethod yX0_isWidthFit, Cond.selects RX0 yX0_isWidthFit yX0_isWidthFit, Cond.code yX0_isWidthFit cX0_isWidthFit 5 (some .boolean), Cond.fieldLink RX0 9 "TableWright$Layout" "widths" "[I", Cond.methodLink RX0 112 yX0_tableWidth, Cond.instanceMethod yX0_tableWidth, Cond.selects RX0 yX0_tableWidth yX0_tableWidth, Cond.code yX0_tableWidth cX0_tableWidth 4 (some .int), Cond.methodLink RX0 116 yX0_mostSpareColumn, Cond.instanceMethod yX0_mostSpareColumn, Cond.selects RX0 yX0_mostSpareColumn yX0_mostSpareColumn, Cond.code yX0_mostSpareColumn cX0_mostSpareColumn 6 (some .int), Cond.methodLink RX0 47 yX0_areHeightsFit, Cond.instanceMethod yX0_areHeightsFit, Cond.selects RX0 yX0_areHeightsFit yX0_areHeightsFit, Cond.code yX0_areHeightsFit cX0_areHeightsFit 5 (some .boolean), Cond.methodLink RX0 104 Lib.Math.max.name, Cond.fieldLink RX0 15 "TableWright$Layout" "heights" "[I", Cond.methodLink RX0 122 yX0_heightOfCell, Cond.instanceMethod yX0_heightOfCell]
def wsX4_span_r6 : List Cond := [Cond.selects RX0 yX0_heightOfCell yX0_heightOfCell, Cond.code yX0_heightOfCell cX0_heightOfCell 6 (some .int), Cond.methodLink RX0 97 yX3_isSpanning, Cond.methodLink RX0 69 yX0_fillPage, Cond.instanceMethod yX0_fillPage, Cond.selects RX0 yX0_fillPage yX0_fillPage, Cond.code yX0_fillPage cX0_fillPage 4 none, Cond.fieldLink RX0 24 "TableWright$Layout" "firstRows" "[I", Cond.fieldLink RX0 27 "TableWright$Layout" "rowsOn" "[I", Cond.fieldLink RX0 30 "TableWright$Layout" "notesOn" "[I", Cond.fieldLink RX0 33 "TableWright$Layout" "left" "[I", Cond.fieldLink RX0 36 "TableWright$Layout" "lastRows" "[I", Cond.methodLink RX0 126 yX0_putWaitingNotes, Cond.instanceMethod yX0_putWaitingNotes, Cond.selects RX0 yX0_putWaitingNotes yX0_putWaitingNotes, Cond.code yX0_putWaitingNotes cX0_putWaitingNotes 4 none, Cond.fieldLink RX0 21 "TableWright$Layout" "notePages" "[I", Cond.methodLink RX0 129 yX0_hasRoomForNextRow, Cond.instanceMethod yX0_hasRoomForNextRow, Cond.selects RX0 yX0_hasRoomForNextRow yX0_hasRoomForNextRow, Cond.code yX0_hasRoomForNextRow cX0_hasRoomForNextRow 5 (some .boolean), Cond.methodLink RX0 142 yX0_heightOfGroup, Cond.instanceMethod yX0_heightOfGroup, Cond.selects RX0 yX0_heightOfGroup yX0_heightOfGroup]
def wsX4_span_r7 : List Cond := [Cond.code yX0_heightOfGroup cX0_heightOfGroup 5 (some .int), Cond.methodLink RX0 132 yX0_putNextRow, Cond.instanceMethod yX0_putNextRow, Cond.selects RX0 yX0_putNextRow yX0_putNextRow, Cond.code yX0_putNextRow cX0_putNextRow 2 none, Cond.fieldLink RX0 18 "TableWright$Layout" "rowPages" "[I"]
def wsX4_span : List Cond := .code yX4_span cX4_span 4 (some .boolean) :: ((wsX4_span_r1 ++ (wsX4_span_r2 ++ (wsX4_span_r3 ++ (wsX4_span_r4 ++ (wsX4_span_r5 ++ (wsX4_span_r6 ++ wsX4_span_r7)))))) ++ wsX40 ++ wsX30 ++ wsX10 ++ wsX20 ++ wsX00 ++ (vx_atS RX4 126 "java/lang/IllegalArgumentException" ["java/lang/RuntimeException", "java/lang/Exception"]).filter goodWord ++ (vx_atS RX4 215 "java/lang/IndexOutOfBoundsException" ["java/lang/RuntimeException", "java/lang/Exception"]).filter goodWord)
def wsX4_note : List Cond := .code yX4_note cX4_note 4 (some .int) :: ([.fieldLink RX4 30 "TableWright" "isStale" "Z", .fieldLink RX4 12 "TableWright" "sheet" "LTableWright$Sheet;", .methodLink RX4 86 yX4_requireRow, .instanceMethod yX4_requireRow, .selects RX4 yX4_requireRow yX4_requireRow, .initialized RX4, .code yX4_requireRow cX4_requireRow 2 none, .classLink RX4 211 "java/lang/IndexOutOfBoundsException", .initialized "java/lang/IndexOutOfBoundsException", .methodLink RX4 47 yX4_requireRange, .static yX4_requireRange, .code yX4_requireRange cX4_requireRange 3 none, .classLink RX4 122 "java/lang/IllegalArgumentException", .initialized "java/lang/IllegalArgumentException"] ++ wsX40 ++ wsX30 ++ wsX10 ++ (vx_atS RX4 215 "java/lang/IndexOutOfBoundsException" ["java/lang/RuntimeException", "java/lang/Exception"]).filter goodWord ++ (vx_atS RX4 126 "java/lang/IllegalArgumentException" ["java/lang/RuntimeException", "java/lang/Exception"]).filter goodWord)
def wsX4_keep : List Cond := .code yX4_keep cX4_keep 4 (some .boolean) :: ([.fieldLink RX4 30 "TableWright" "isStale" "Z", .fieldLink RX4 12 "TableWright" "sheet" "LTableWright$Sheet;", .methodLink RX4 86 yX4_requireRow, .instanceMethod yX4_requireRow, .selects RX4 yX4_requireRow yX4_requireRow, .initialized RX4, .code yX4_requireRow cX4_requireRow 2 none, .classLink RX4 211 "java/lang/IndexOutOfBoundsException", .initialized "java/lang/IndexOutOfBoundsException"] ++ wsX40 ++ wsX30 ++ wsX10 ++ (vx_atS RX4 215 "java/lang/IndexOutOfBoundsException" ["java/lang/RuntimeException", "java/lang/Exception"]).filter goodWord)
def wsX4_paper_r1 : List Cond := [Cond.fieldLink RX4 30 "TableWright" "isStale" "Z", Cond.fieldLink RX4 23 "TableWright" "wide" "I", Cond.fieldLink RX4 27 "TableWright" "high" "I", Cond.fieldLink RX4 19 "TableWright" "setting" "LTableWright$Setting;", Cond.methodLink RX4 47 yX4_requireRange, Cond.static yX4_requireRange, Cond.initialized RX4, Cond.code yX4_requireRange cX4_requireRange 3 none, Cond.classLink RX4 122 "java/lang/IllegalArgumentException", Cond.initialized "java/lang/IllegalArgumentException", Cond.methodLink RX4 131 yX4_refresh, Cond.instanceMethod yX4_refresh, Cond.selects RX4 yX4_refresh yX4_refresh, Cond.code yX4_refresh cX4_refresh 1 none, Cond.fieldLink RX4 12 "TableWright" "sheet" "LTableWright$Sheet;", Cond.methodLink RX4 229 yX3_reckon, Cond.instanceMethod yX3_reckon, Cond.selects RX3 yX3_reckon yX3_reckon, Cond.initialized RX3, Cond.code yX3_reckon cX3_reckon 2 none, Cond.fieldLink RX3 37 "TableWright$Sheet" "columnCount" "I", Cond.fieldLink RX3 9 "TableWright$Sheet" "kinds" "[I", Cond.methodLink RX3 61 yX3_reckonHidden, Cond.instanceMethod yX3_reckonHidden]
def wsX4_paper_r2 : List Cond := [Cond.selects RX3 yX3_reckonHidden yX3_reckonHidden, Cond.code yX3_reckonHidden cX3_reckonHidden 5 none, Cond.fieldLink RX3 41 "TableWright$Sheet" "rowCount" "I", Cond.fieldLink RX3 26 "TableWright$Sheet" "rows" "[LTableWright$Row;", Cond.methodLink RX3 65 yX3_reckonNumbers, Cond.instanceMethod yX3_reckonNumbers, Cond.selects RX3 yX3_reckonNumbers yX3_reckonNumbers, Cond.code yX3_reckonNumbers cX3_reckonNumbers 9 none, Cond.fieldLink RX3 18 "TableWright$Sheet" "firsts" "[I", Cond.fieldLink RX3 21 "TableWright$Sheet" "seconds" "[I", Cond.methodLink RX3 80 yX3_resultOf, Cond.static yX3_resultOf, Cond.code yX3_resultOf cX3_resultOf 7 (some .int), Cond.constantLong RX3 84 (-99999), Cond.constantLong RX3 86 (99999), Cond.methodLink RX3 88 Lib.MathLoose.min_long.x, Cond.static Lib.MathLoose.min_long.x, Cond.initialized "java/lang/Math", Cond.code Lib.MathLoose.min_long.x Lib.MathLoose.min_long.code 4 (some .long), Cond.methodLink RX3 94 Lib.MathLoose.max_long.x, Cond.static Lib.MathLoose.max_long.x, Cond.code Lib.MathLoose.max_long.x Lib.MathLoose.max_long.code 4 (some .long), Cond.methodLink RX3 68 yX3_measureText, Cond.instanceMethod yX3_measureText]
def wsX4_paper_r3 : List Cond := [Cond.selects RX3 yX3_measureText yX3_measureText, Cond.code yX3_measureText cX3_measureText 5 none, Cond.fieldLink RX3 15 "TableWright$Sheet" "titles" "[I", Cond.methodLink RX3 104 Lib.Math.max.name, Cond.static Lib.Math.max.name, Cond.code Lib.Math.max.name Lib.Math.max.code 2 (some .int), Cond.fieldLink RX3 30 "TableWright$Sheet" "leasts" "[I", Cond.fieldLink RX3 33 "TableWright$Sheet" "bests" "[I", Cond.methodLink RX3 110 Lib.Math.min.name, Cond.static Lib.Math.min.name, Cond.code Lib.Math.min.name Lib.Math.min.code 2 (some .int), Cond.methodLink RX3 97 yX3_isSpanning, Cond.instanceMethod yX3_isSpanning, Cond.selects RX3 yX3_isSpanning yX3_isSpanning, Cond.code yX3_isSpanning cX3_isSpanning 3 (some .boolean), Cond.methodLink RX3 71 yX3_measureNumbers, Cond.instanceMethod yX3_measureNumbers, Cond.selects RX3 yX3_measureNumbers yX3_measureNumbers, Cond.code yX3_measureNumbers cX3_measureNumbers 4 none, Cond.methodLink RX3 112 yX3_sizeOf, Cond.static yX3_sizeOf, Cond.code yX3_sizeOf cX3_sizeOf 3 (some .int), Cond.methodLink RX4 232 yX2_arrange, Cond.instanceMethod yX2_arrange]
def wsX4_paper_r4 : List Cond := [Cond.selects RX2 yX2_arrange yX2_arrange, Cond.initialized RX2, Cond.code yX2_arrange cX2_arrange 5 none, Cond.fieldLink RX2 10 "TableWright$Setting" "upright" "LTableWright$Layout;", Cond.fieldLink RX2 16 "TableWright$Setting" "turned" "LTableWright$Layout;", Cond.fieldLink RX2 31 "TableWright$Setting" "isTurned" "Z", Cond.methodLink RX2 19 yX0_arrange, Cond.instanceMethod yX0_arrange, Cond.selects RX0 yX0_arrange yX0_arrange, Cond.initialized RX0, Cond.code yX0_arrange cX0_arrange 4 none, Cond.fieldLink RX0 39 "TableWright$Layout" "room" "I", Cond.fieldLink RX0 51 "TableWright$Layout" "isFit" "Z", Cond.fieldLink RX0 55 "TableWright$Layout" "pageCount" "I", Cond.fieldLink RX0 58 "TableWright$Layout" "nextRow" "I", Cond.fieldLink RX0 61 "TableWright$Layout" "nextNote" "I", Cond.methodLink RX0 43 yX0_isWidthFit, Cond.instanceMethod yX0_isWidthFit, Cond.selects RX0 yX0_isWidthFit yX0_isWidthFit, Cond.code yX0_isWidthFit cX0_isWidthFit 5 (some .boolean), Cond.fieldLink RX0 9 "TableWright$Layout" "widths" "[I", Cond.methodLink RX0 112 yX0_tableWidth, Cond.instanceMethod yX0_tableWidth, Cond.selects RX0 yX0_tableWidth yX0_tableWidth]
def wsX4_paper_r5 : List Cond := [Cond.code yX0_tableWidth cX0_tableWidth 4 (some .int), Cond.methodLink RX0 116 yX0_mostSpareColumn, Cond.instanceMethod yX0_mostSpareColumn, Cond.selects RX0 yX0_mostSpareColumn yX0_mostSpareColumn, Cond.code yX0_mostSpareColumn cX0_mostSpareColumn 6 (some .int), Cond.methodLink RX0 47 yX0_areHeightsFit, Cond.instanceMethod yX0_areHeightsFit, Cond.selects RX0 yX0_areHeightsFit yX0_areHeightsFit, Cond.code yX0_areHeightsFit cX0_areHeightsFit 5 (some .boolean), Cond.methodLink RX0 104 Lib.Math.max.name, Cond.fieldLink RX0 15 "TableWright$Layout" "heights" "[I", Cond.methodLink RX0 122 yX0_heightOfCell, Cond.instanceMethod yX0_heightOfCell, Cond.selects RX0 yX0_heightOfCell yX0_heightOfCell, Cond.code yX0_heightOfCell cX0_heightOfCell 6 (some .int), Cond.methodLink RX0 97 yX3_isSpanning, Cond.methodLink RX0 69 yX0_fillPage, Cond.instanceMethod yX0_fillPage, Cond.selects RX0 yX0_fillPage yX0_fillPage, Cond.code yX0_fillPage cX0_fillPage 4 none, Cond.fieldLink RX0 24 "TableWright$Layout" "firstRows" "[I", Cond.fieldLink RX0 27 "TableWright$Layout" "rowsOn" "[I", Cond.fieldLink RX0 30 "TableWright$Layout" "notesOn" "[I", Cond.fieldLink RX0 33 "TableWright$Layout" "left" "[I"]
def wsX4_paper_r6 : List Cond := [Cond.fieldLink RX0 36 "TableWright$Layout" "lastRows" "[I", Cond.methodLink RX0 126 yX0_putWaitingNotes, Cond.instanceMethod yX0_putWaitingNotes, Cond.selects RX0 yX0_putWaitingNotes yX0_putWaitingNotes, Cond.code yX0_putWaitingNotes cX0_putWaitingNotes 4 none, Cond.fieldLink RX0 21 "TableWright$Layout" "notePages" "[I", Cond.methodLink RX0 129 yX0_hasRoomForNextRow, Cond.instanceMethod yX0_hasRoomForNextRow, Cond.selects RX0 yX0_hasRoomForNextRow yX0_hasRoomForNextRow, Cond.code yX0_hasRoomForNextRow cX0_hasRoomForNextRow 5 (some .boolean), Cond.methodLink RX0 142 yX0_heightOfGroup, Cond.instanceMethod yX0_heightOfGroup, Cond.selects RX0 yX0_heightOfGroup yX0_heightOfGroup, Cond.code yX0_heightOfGroup cX0_heightOfGroup 5 (some .int), Cond.methodLink RX0 132 yX0_putNextRow, Cond.instanceMethod yX0_putNextRow, Cond.selects RX0 yX0_putNextRow yX0_putNextRow, Cond.code yX0_putNextRow cX0_putNextRow 2 none, Cond.fieldLink RX0 18 "TableWright$Layout" "rowPages" "[I", Cond.methodLink RX4 143 yX2_chosen, Cond.instanceMethod yX2_chosen, Cond.selects RX2 yX2_chosen yX2_chosen, Cond.code yX2_chosen cX2_chosen 1 (some (.object "TableWright$Layout")), Cond.methodLink RX4 147 yX0_pagesOrNone]
def wsX4_paper_r7 : List Cond := [Cond.instanceMethod yX0_pagesOrNone, Cond.selects RX0 yX0_pagesOrNone yX0_pagesOrNone, Cond.code yX0_pagesOrNone cX0_pagesOrNone 1 (some .int)]
def wsX4_paper : List Cond := .code yX4_paper cX4_paper 3 (some .int) :: ((wsX4_paper_r1 ++ (wsX4_paper_r2 ++ (wsX4_paper_r3 ++ (wsX4_paper_r4 ++ (wsX4_paper_r5 ++ (wsX4_paper_r6 ++ wsX4_paper_r7)))))) ++ wsX40 ++ wsX30 ++ wsX10 ++ wsX20 ++ wsX00 ++ (vx_atS RX4 126 "java/lang/IllegalArgumentException" ["java/lang/RuntimeException", "java/lang/Exception"]).filter goodWord)
def wsX4_factOfCell_r1 : List Cond := [Cond.fieldLink RX4 19 "TableWright" "setting" "LTableWright$Setting;", Cond.fieldLink RX4 12 "TableWright" "sheet" "LTableWright$Sheet;", Cond.methodLink RX4 143 yX2_chosen, Cond.instanceMethod yX2_chosen, Cond.selects RX2 yX2_chosen yX2_chosen, Cond.initialized RX2, Cond.code yX2_chosen cX2_chosen 1 (some (.object "TableWright$Layout")), Cond.fieldLink RX2 31 "TableWright$Setting" "isTurned" "Z", Cond.fieldLink RX2 16 "TableWright$Setting" "turned" "LTableWright$Layout;", Cond.fieldLink RX2 10 "TableWright$Setting" "upright" "LTableWright$Layout;", Cond.methodLink RX4 283 yX0_heightOfCell, Cond.instanceMethod yX0_heightOfCell, Cond.selects RX0 yX0_heightOfCell yX0_heightOfCell, Cond.initialized RX0, Cond.code yX0_heightOfCell cX0_heightOfCell 6 (some .int), Cond.fieldLink RX0 9 "TableWright$Layout" "widths" "[I", Cond.methodLink RX0 104 Lib.Math.max.name, Cond.static Lib.Math.max.name, Cond.initialized "java/lang/Math", Cond.code Lib.Math.max.name Lib.Math.max.code 2 (some .int), Cond.methodLink RX0 97 yX3_isSpanning, Cond.instanceMethod yX3_isSpanning, Cond.selects RX3 yX3_isSpanning yX3_isSpanning, Cond.initialized RX3]
def wsX4_factOfCell_r2 : List Cond := [Cond.code yX3_isSpanning cX3_isSpanning 3 (some .boolean), Cond.fieldLink RX3 37 "TableWright$Sheet" "columnCount" "I", Cond.fieldLink RX3 26 "TableWright$Sheet" "rows" "[LTableWright$Row;", Cond.methodLink RX4 271 yX3_sumUpTo, Cond.instanceMethod yX3_sumUpTo, Cond.selects RX3 yX3_sumUpTo yX3_sumUpTo, Cond.code yX3_sumUpTo cX3_sumUpTo 3 (some .int), Cond.fieldLink RX3 9 "TableWright$Sheet" "kinds" "[I"]
def wsX4_factOfCell : List Cond := .code yX4_factOfCell cX4_factOfCell 6 (some .int) :: ((wsX4_factOfCell_r1 ++ wsX4_factOfCell_r2) ++ wsX40 ++ wsX30 ++ wsX10 ++ wsX00 ++ wsX20)
def wsX4_cell_r1 : List Cond := [Cond.methodLink RX4 86 yX4_requireRow, Cond.instanceMethod yX4_requireRow, Cond.selects RX4 yX4_requireRow yX4_requireRow, Cond.initialized RX4, Cond.code yX4_requireRow cX4_requireRow 2 none, Cond.classLink RX4 211 "java/lang/IndexOutOfBoundsException", Cond.initialized "java/lang/IndexOutOfBoundsException", Cond.fieldLink RX4 12 "TableWright" "sheet" "LTableWright$Sheet;", Cond.methodLink RX4 58 yX4_requireColumn, Cond.instanceMethod yX4_requireColumn, Cond.selects RX4 yX4_requireColumn yX4_requireColumn, Cond.code yX4_requireColumn cX4_requireColumn 2 none, Cond.methodLink RX4 47 yX4_requireRange, Cond.static yX4_requireRange, Cond.code yX4_requireRange cX4_requireRange 3 none, Cond.classLink RX4 122 "java/lang/IllegalArgumentException", Cond.initialized "java/lang/IllegalArgumentException", Cond.methodLink RX4 131 yX4_refresh, Cond.instanceMethod yX4_refresh, Cond.selects RX4 yX4_refresh yX4_refresh, Cond.code yX4_refresh cX4_refresh 1 none, Cond.fieldLink RX4 30 "TableWright" "isStale" "Z", Cond.fieldLink RX4 19 "TableWright" "setting" "LTableWright$Setting;", Cond.fieldLink RX4 23 "TableWright" "wide" "I"]
def wsX4_cell_r2 : List Cond := [Cond.fieldLink RX4 27 "TableWright" "high" "I", Cond.methodLink RX4 229 yX3_reckon, Cond.instanceMethod yX3_reckon, Cond.selects RX3 yX3_reckon yX3_reckon, Cond.initialized RX3, Cond.code yX3_reckon cX3_reckon 2 none, Cond.fieldLink RX3 37 "TableWright$Sheet" "columnCount" "I", Cond.fieldLink RX3 9 "TableWright$Sheet" "kinds" "[I", Cond.methodLink RX3 61 yX3_reckonHidden, Cond.instanceMethod yX3_reckonHidden, Cond.selects RX3 yX3_reckonHidden yX3_reckonHidden, Cond.code yX3_reckonHidden cX3_reckonHidden 5 none, Cond.fieldLink RX3 41 "TableWright$Sheet" "rowCount" "I", Cond.fieldLink RX3 26 "TableWright$Sheet" "rows" "[LTableWright$Row;", Cond.methodLink RX3 65 yX3_reckonNumbers, Cond.instanceMethod yX3_reckonNumbers, Cond.selects RX3 yX3_reckonNumbers yX3_reckonNumbers, Cond.code yX3_reckonNumbers cX3_reckonNumbers 9 none, Cond.fieldLink RX3 18 "TableWright$Sheet" "firsts" "[I", Cond.fieldLink RX3 21 "TableWright$Sheet" "seconds" "[I", Cond.methodLink RX3 80 yX3_resultOf, Cond.static yX3_resultOf, Cond.code yX3_resultOf cX3_resultOf 7 (some .int), Cond.constantLong RX3 84 (-99999)]
def wsX4_cell_r3 : List Cond := [Cond.constantLong RX3 86 (99999), Cond.methodLink RX3 88 Lib.MathLoose.min_long.x, Cond.static Lib.MathLoose.min_long.x, Cond.initialized "java/lang/Math", Cond.code Lib.MathLoose.min_long.x Lib.MathLoose.min_long.code 4 (some .long), Cond.methodLink RX3 94 Lib.MathLoose.max_long.x, Cond.static Lib.MathLoose.max_long.x, Cond.code Lib.MathLoose.max_long.x Lib.MathLoose.max_long.code 4 (some .long), Cond.methodLink RX3 68 yX3_measureText, Cond.instanceMethod yX3_measureText, Cond.selects RX3 yX3_measureText yX3_measureText, Cond.code yX3_measureText cX3_measureText 5 none, Cond.fieldLink RX3 15 "TableWright$Sheet" "titles" "[I", Cond.methodLink RX3 104 Lib.Math.max.name, Cond.static Lib.Math.max.name, Cond.code Lib.Math.max.name Lib.Math.max.code 2 (some .int), Cond.fieldLink RX3 30 "TableWright$Sheet" "leasts" "[I", Cond.fieldLink RX3 33 "TableWright$Sheet" "bests" "[I", Cond.methodLink RX3 110 Lib.Math.min.name, Cond.static Lib.Math.min.name, Cond.code Lib.Math.min.name Lib.Math.min.code 2 (some .int), Cond.methodLink RX3 97 yX3_isSpanning, Cond.instanceMethod yX3_isSpanning, Cond.selects RX3 yX3_isSpanning yX3_isSpanning]
def wsX4_cell_r4 : List Cond := [Cond.code yX3_isSpanning cX3_isSpanning 3 (some .boolean), Cond.methodLink RX3 71 yX3_measureNumbers, Cond.instanceMethod yX3_measureNumbers, Cond.selects RX3 yX3_measureNumbers yX3_measureNumbers, Cond.code yX3_measureNumbers cX3_measureNumbers 4 none, Cond.methodLink RX3 112 yX3_sizeOf, Cond.static yX3_sizeOf, Cond.code yX3_sizeOf cX3_sizeOf 3 (some .int), Cond.methodLink RX4 232 yX2_arrange, Cond.instanceMethod yX2_arrange, Cond.selects RX2 yX2_arrange yX2_arrange, Cond.initialized RX2, Cond.code yX2_arrange cX2_arrange 5 none, Cond.fieldLink RX2 10 "TableWright$Setting" "upright" "LTableWright$Layout;", Cond.fieldLink RX2 16 "TableWright$Setting" "turned" "LTableWright$Layout;", Cond.fieldLink RX2 31 "TableWright$Setting" "isTurned" "Z", Cond.methodLink RX2 19 yX0_arrange, Cond.instanceMethod yX0_arrange, Cond.selects RX0 yX0_arrange yX0_arrange, Cond.initialized RX0, Cond.code yX0_arrange cX0_arrange 4 none, Cond.fieldLink RX0 39 "TableWright$Layout" "room" "I", Cond.fieldLink RX0 51 "TableWright$Layout" "isFit" "Z", Cond.fieldLink RX0 55 "TableWright$Layout" "pageCount" "I"]
def wsX4_cell_r5 : List Cond := [Cond.fieldLink RX0 58 "TableWright$Layout" "nextRow" "I", Cond.fieldLink RX0 61 "TableWright$Layout" "nextNote" "I", Cond.methodLink RX0 43 yX0_isWidthFit, Cond.instanceMethod yX0_isWidthFit, Cond.selects RX0 yX0_isWidthFit yX0_isWidthFit, Cond.code yX0_isWidthFit cX0_isWidthFit 5 (some .boolean), Cond.fieldLink RX0 9 "TableWright$Layout" "widths" "[I", Cond.methodLink RX0 112 yX0_tableWidth, Cond.instanceMethod yX0_tableWidth, Cond.selects RX0 yX0_tableWidth yX0_tableWidth, Cond.code yX0_tableWidth cX0_tableWidth 4 (some .int), Cond.methodLink RX0 116 yX0_mostSpareColumn, Cond.instanceMethod yX0_mostSpareColumn, Cond.selects RX0 yX0_mostSpareColumn yX0_mostSpareColumn, Cond.code yX0_mostSpareColumn cX0_mostSpareColumn 6 (some .int), Cond.methodLink RX0 47 yX0_areHeightsFit, Cond.instanceMethod yX0_areHeightsFit, Cond.selects RX0 yX0_areHeightsFit yX0_areHeightsFit, Cond.code yX0_areHeightsFit cX0_areHeightsFit 5 (some .boolean), Cond.methodLink RX0 104 Lib.Math.max.name, Cond.fieldLink RX0 15 "TableWright$Layout" "heights" "[I", Cond.methodLink RX0 122 yX0_heightOfCell, Cond.instanceMethod yX0_heightOfCell, Cond.selects RX0 yX0_heightOfCell yX0_heightOfCell]
def wsX4_cell_r6 : List Cond := [Cond.code yX0_heightOfCell cX0_heightOfCell 6 (some .int), Cond.methodLink RX0 97 yX3_isSpanning, Cond.methodLink RX0 69 yX0_fillPage, Cond.instanceMethod yX0_fillPage, Cond.selects RX0 yX0_fillPage yX0_fillPage, Cond.code yX0_fillPage cX0_fillPage 4 none, Cond.fieldLink RX0 24 "TableWright$Layout" "firstRows" "[I", Cond.fieldLink RX0 27 "TableWright$Layout" "rowsOn" "[I", Cond.fieldLink RX0 30 "TableWright$Layout" "notesOn" "[I", Cond.fieldLink RX0 33 "TableWright$Layout" "left" "[I", Cond.fieldLink RX0 36 "TableWright$Layout" "lastRows" "[I", Cond.methodLink RX0 126 yX0_putWaitingNotes, Cond.instanceMethod yX0_putWaitingNotes, Cond.selects RX0 yX0_putWaitingNotes yX0_putWaitingNotes, Cond.code yX0_putWaitingNotes cX0_putWaitingNotes 4 none, Cond.fieldLink RX0 21 "TableWright$Layout" "notePages" "[I", Cond.methodLink RX0 129 yX0_hasRoomForNextRow, Cond.instanceMethod yX0_hasRoomForNextRow, Cond.selects RX0 yX0_hasRoomForNextRow yX0_hasRoomForNextRow, Cond.code yX0_hasRoomForNextRow cX0_hasRoomForNextRow 5 (some .boolean), Cond.methodLink RX0 142 yX0_heightOfGroup, Cond.instanceMethod yX0_heightOfGroup, Cond.selects RX0 yX0_heightOfGroup yX0_heightOfGroup, Cond.code yX0_heightOfGroup cX0_heightOfGroup 5 (some .int)]
def wsX4_cell_r7 : List Cond := [Cond.methodLink RX0 132 yX0_putNextRow, Cond.instanceMethod yX0_putNextRow, Cond.selects RX0 yX0_putNextRow yX0_putNextRow, Cond.code yX0_putNextRow cX0_putNextRow 2 none, Cond.fieldLink RX0 18 "TableWright$Layout" "rowPages" "[I", Cond.methodLink RX4 150 yX4_factOfCell, Cond.instanceMethod yX4_factOfCell, Cond.selects RX4 yX4_factOfCell yX4_factOfCell, Cond.code yX4_factOfCell cX4_factOfCell 6 (some .int), Cond.methodLink RX4 143 yX2_chosen, Cond.instanceMethod yX2_chosen, Cond.selects RX2 yX2_chosen yX2_chosen, Cond.code yX2_chosen cX2_chosen 1 (some (.object "TableWright$Layout")), Cond.methodLink RX4 283 yX0_heightOfCell, Cond.methodLink RX4 271 yX3_sumUpTo, Cond.instanceMethod yX3_sumUpTo, Cond.selects RX3 yX3_sumUpTo yX3_sumUpTo, Cond.code yX3_sumUpTo cX3_sumUpTo 3 (some .int)]
def wsX4_cell : List Cond := .code yX4_cell cX4_cell 4 (some .int) :: ((wsX4_cell_r1 ++ (wsX4_cell_r2 ++ (wsX4_cell_r3 ++ (wsX4_cell_r4 ++ (wsX4_cell_r5 ++ (wsX4_cell_r6 ++ wsX4_cell_r7)))))) ++ wsX40 ++ wsX30 ++ wsX10 ++ wsX20 ++ wsX00 ++ (vx_atS RX4 215 "java/lang/IndexOutOfBoundsException" ["java/lang/RuntimeException", "java/lang/Exception"]).filter goodWord ++ (vx_atS RX4 126 "java/lang/IllegalArgumentException" ["java/lang/RuntimeException", "java/lang/Exception"]).filter goodWord)
def wsX4_factOfColumn : List Cond := .code yX4_factOfColumn cX4_factOfColumn 4 (some .int) :: ([.fieldLink RX4 19 "TableWright" "setting" "LTableWright$Setting;", .fieldLink RX4 12 "TableWright" "sheet" "LTableWright$Sheet;", .methodLink RX4 143 yX2_chosen, .instanceMethod yX2_chosen, .selects RX2 yX2_chosen yX2_chosen, .initialized RX2, .code yX2_chosen cX2_chosen 1 (some (.object "TableWright$Layout")), .fieldLink RX2 31 "TableWright$Setting" "isTurned" "Z", .fieldLink RX2 16 "TableWright$Setting" "turned" "LTableWright$Layout;", .fieldLink RX2 10 "TableWright$Setting" "upright" "LTableWright$Layout;", .methodLink RX4 271 yX3_sumUpTo, .instanceMethod yX3_sumUpTo, .selects RX3 yX3_sumUpTo yX3_sumUpTo, .initialized RX3, .code yX3_sumUpTo cX3_sumUpTo 3 (some .int), .fieldLink RX3 9 "TableWright$Sheet" "kinds" "[I", .fieldLink RX3 26 "TableWright$Sheet" "rows" "[LTableWright$Row;"] ++ wsX40 ++ wsX30 ++ wsX00 ++ wsX20 ++ wsX10)
def wsX4_ofColumn_r1 : List Cond := [Cond.methodLink RX4 58 yX4_requireColumn, Cond.instanceMethod yX4_requireColumn, Cond.selects RX4 yX4_requireColumn yX4_requireColumn, Cond.initialized RX4, Cond.code yX4_requireColumn cX4_requireColumn 2 none, Cond.classLink RX4 211 "java/lang/IndexOutOfBoundsException", Cond.initialized "java/lang/IndexOutOfBoundsException", Cond.fieldLink RX4 12 "TableWright" "sheet" "LTableWright$Sheet;", Cond.methodLink RX4 47 yX4_requireRange, Cond.static yX4_requireRange, Cond.code yX4_requireRange cX4_requireRange 3 none, Cond.classLink RX4 122 "java/lang/IllegalArgumentException", Cond.initialized "java/lang/IllegalArgumentException", Cond.methodLink RX4 131 yX4_refresh, Cond.instanceMethod yX4_refresh, Cond.selects RX4 yX4_refresh yX4_refresh, Cond.code yX4_refresh cX4_refresh 1 none, Cond.fieldLink RX4 30 "TableWright" "isStale" "Z", Cond.fieldLink RX4 19 "TableWright" "setting" "LTableWright$Setting;", Cond.fieldLink RX4 23 "TableWright" "wide" "I", Cond.fieldLink RX4 27 "TableWright" "high" "I", Cond.methodLink RX4 229 yX3_reckon, Cond.instanceMethod yX3_reckon, Cond.selects RX3 yX3_reckon yX3_reckon]
def wsX4_ofColumn_r2 : List Cond := [Cond.initialized RX3, Cond.code yX3_reckon cX3_reckon 2 none, Cond.fieldLink RX3 37 "TableWright$Sheet" "columnCount" "I", Cond.fieldLink RX3 9 "TableWright$Sheet" "kinds" "[I", Cond.methodLink RX3 61 yX3_reckonHidden, Cond.instanceMethod yX3_reckonHidden, Cond.selects RX3 yX3_reckonHidden yX3_reckonHidden, Cond.code yX3_reckonHidden cX3_reckonHidden 5 none, Cond.fieldLink RX3 41 "TableWright$Sheet" "rowCount" "I", Cond.fieldLink RX3 26 "TableWright$Sheet" "rows" "[LTableWright$Row;", Cond.methodLink RX3 65 yX3_reckonNumbers, Cond.instanceMethod yX3_reckonNumbers, Cond.selects RX3 yX3_reckonNumbers yX3_reckonNumbers, Cond.code yX3_reckonNumbers cX3_reckonNumbers 9 none, Cond.fieldLink RX3 18 "TableWright$Sheet" "firsts" "[I", Cond.fieldLink RX3 21 "TableWright$Sheet" "seconds" "[I", Cond.methodLink RX3 80 yX3_resultOf, Cond.static yX3_resultOf, Cond.code yX3_resultOf cX3_resultOf 7 (some .int), Cond.constantLong RX3 84 (-99999), Cond.constantLong RX3 86 (99999), Cond.methodLink RX3 88 Lib.MathLoose.min_long.x, Cond.static Lib.MathLoose.min_long.x, Cond.initialized "java/lang/Math"]
def wsX4_ofColumn_r3 : List Cond := [Cond.code Lib.MathLoose.min_long.x Lib.MathLoose.min_long.code 4 (some .long), Cond.methodLink RX3 94 Lib.MathLoose.max_long.x, Cond.static Lib.MathLoose.max_long.x, Cond.code Lib.MathLoose.max_long.x Lib.MathLoose.max_long.code 4 (some .long), Cond.methodLink RX3 68 yX3_measureText, Cond.instanceMethod yX3_measureText, Cond.selects RX3 yX3_measureText yX3_measureText, Cond.code yX3_measureText cX3_measureText 5 none, Cond.fieldLink RX3 15 "TableWright$Sheet" "titles" "[I", Cond.methodLink RX3 104 Lib.Math.max.name, Cond.static Lib.Math.max.name, Cond.code Lib.Math.max.name Lib.Math.max.code 2 (some .int), Cond.fieldLink RX3 30 "TableWright$Sheet" "leasts" "[I", Cond.fieldLink RX3 33 "TableWright$Sheet" "bests" "[I", Cond.methodLink RX3 110 Lib.Math.min.name, Cond.static Lib.Math.min.name, Cond.code Lib.Math.min.name Lib.Math.min.code 2 (some .int), Cond.methodLink RX3 97 yX3_isSpanning, Cond.instanceMethod yX3_isSpanning, Cond.selects RX3 yX3_isSpanning yX3_isSpanning, Cond.code yX3_isSpanning cX3_isSpanning 3 (some .boolean), Cond.methodLink RX3 71 yX3_measureNumbers, Cond.instanceMethod yX3_measureNumbers, Cond.selects RX3 yX3_measureNumbers yX3_measureNumbers]
def wsX4_ofColumn_r4 : List Cond := [Cond.code yX3_measureNumbers cX3_measureNumbers 4 none, Cond.methodLink RX3 112 yX3_sizeOf, Cond.static yX3_sizeOf, Cond.code yX3_sizeOf cX3_sizeOf 3 (some .int), Cond.methodLink RX4 232 yX2_arrange, Cond.instanceMethod yX2_arrange, Cond.selects RX2 yX2_arrange yX2_arrange, Cond.initialized RX2, Cond.code yX2_arrange cX2_arrange 5 none, Cond.fieldLink RX2 10 "TableWright$Setting" "upright" "LTableWright$Layout;", Cond.fieldLink RX2 16 "TableWright$Setting" "turned" "LTableWright$Layout;", Cond.fieldLink RX2 31 "TableWright$Setting" "isTurned" "Z", Cond.methodLink RX2 19 yX0_arrange, Cond.instanceMethod yX0_arrange, Cond.selects RX0 yX0_arrange yX0_arrange, Cond.initialized RX0, Cond.code yX0_arrange cX0_arrange 4 none, Cond.fieldLink RX0 39 "TableWright$Layout" "room" "I", Cond.fieldLink RX0 51 "TableWright$Layout" "isFit" "Z", Cond.fieldLink RX0 55 "TableWright$Layout" "pageCount" "I", Cond.fieldLink RX0 58 "TableWright$Layout" "nextRow" "I", Cond.fieldLink RX0 61 "TableWright$Layout" "nextNote" "I", Cond.methodLink RX0 43 yX0_isWidthFit, Cond.instanceMethod yX0_isWidthFit]
def wsX4_ofColumn_r5 : List Cond := [Cond.selects RX0 yX0_isWidthFit yX0_isWidthFit, Cond.code yX0_isWidthFit cX0_isWidthFit 5 (some .boolean), Cond.fieldLink RX0 9 "TableWright$Layout" "widths" "[I", Cond.methodLink RX0 112 yX0_tableWidth, Cond.instanceMethod yX0_tableWidth, Cond.selects RX0 yX0_tableWidth yX0_tableWidth, Cond.code yX0_tableWidth cX0_tableWidth 4 (some .int), Cond.methodLink RX0 116 yX0_mostSpareColumn, Cond.instanceMethod yX0_mostSpareColumn, Cond.selects RX0 yX0_mostSpareColumn yX0_mostSpareColumn, Cond.code yX0_mostSpareColumn cX0_mostSpareColumn 6 (some .int), Cond.methodLink RX0 47 yX0_areHeightsFit, Cond.instanceMethod yX0_areHeightsFit, Cond.selects RX0 yX0_areHeightsFit yX0_areHeightsFit, Cond.code yX0_areHeightsFit cX0_areHeightsFit 5 (some .boolean), Cond.methodLink RX0 104 Lib.Math.max.name, Cond.fieldLink RX0 15 "TableWright$Layout" "heights" "[I", Cond.methodLink RX0 122 yX0_heightOfCell, Cond.instanceMethod yX0_heightOfCell, Cond.selects RX0 yX0_heightOfCell yX0_heightOfCell, Cond.code yX0_heightOfCell cX0_heightOfCell 6 (some .int), Cond.methodLink RX0 97 yX3_isSpanning, Cond.methodLink RX0 69 yX0_fillPage, Cond.instanceMethod yX0_fillPage]
def wsX4_ofColumn_r6 : List Cond := [Cond.selects RX0 yX0_fillPage yX0_fillPage, Cond.code yX0_fillPage cX0_fillPage 4 none, Cond.fieldLink RX0 24 "TableWright$Layout" "firstRows" "[I", Cond.fieldLink RX0 27 "TableWright$Layout" "rowsOn" "[I", Cond.fieldLink RX0 30 "TableWright$Layout" "notesOn" "[I", Cond.fieldLink RX0 33 "TableWright$Layout" "left" "[I", Cond.fieldLink RX0 36 "TableWright$Layout" "lastRows" "[I", Cond.methodLink RX0 126 yX0_putWaitingNotes, Cond.instanceMethod yX0_putWaitingNotes, Cond.selects RX0 yX0_putWaitingNotes yX0_putWaitingNotes, Cond.code yX0_putWaitingNotes cX0_putWaitingNotes 4 none, Cond.fieldLink RX0 21 "TableWright$Layout" "notePages" "[I", Cond.methodLink RX0 129 yX0_hasRoomForNextRow, Cond.instanceMethod yX0_hasRoomForNextRow, Cond.selects RX0 yX0_hasRoomForNextRow yX0_hasRoomForNextRow, Cond.code yX0_hasRoomForNextRow cX0_hasRoomForNextRow 5 (some .boolean), Cond.methodLink RX0 142 yX0_heightOfGroup, Cond.instanceMethod yX0_heightOfGroup, Cond.selects RX0 yX0_heightOfGroup yX0_heightOfGroup, Cond.code yX0_heightOfGroup cX0_heightOfGroup 5 (some .int), Cond.methodLink RX0 132 yX0_putNextRow, Cond.instanceMethod yX0_putNextRow, Cond.selects RX0 yX0_putNextRow yX0_putNextRow, Cond.code yX0_putNextRow cX0_putNextRow 2 none]
def wsX4_ofColumn_r7 : List Cond := [Cond.fieldLink RX0 18 "TableWright$Layout" "rowPages" "[I", Cond.methodLink RX4 154 yX4_factOfColumn, Cond.instanceMethod yX4_factOfColumn, Cond.selects RX4 yX4_factOfColumn yX4_factOfColumn, Cond.code yX4_factOfColumn cX4_factOfColumn 4 (some .int), Cond.methodLink RX4 143 yX2_chosen, Cond.instanceMethod yX2_chosen, Cond.selects RX2 yX2_chosen yX2_chosen, Cond.code yX2_chosen cX2_chosen 1 (some (.object "TableWright$Layout")), Cond.methodLink RX4 271 yX3_sumUpTo, Cond.instanceMethod yX3_sumUpTo, Cond.selects RX3 yX3_sumUpTo yX3_sumUpTo, Cond.code yX3_sumUpTo cX3_sumUpTo 3 (some .int)]
def wsX4_ofColumn : List Cond := .code yX4_ofColumn cX4_ofColumn 3 (some .int) :: ((wsX4_ofColumn_r1 ++ (wsX4_ofColumn_r2 ++ (wsX4_ofColumn_r3 ++ (wsX4_ofColumn_r4 ++ (wsX4_ofColumn_r5 ++ (wsX4_ofColumn_r6 ++ wsX4_ofColumn_r7)))))) ++ wsX40 ++ wsX30 ++ wsX10 ++ wsX20 ++ wsX00 ++ (vx_atS RX4 215 "java/lang/IndexOutOfBoundsException" ["java/lang/RuntimeException", "java/lang/Exception"]).filter goodWord ++ (vx_atS RX4 126 "java/lang/IllegalArgumentException" ["java/lang/RuntimeException", "java/lang/Exception"]).filter goodWord)
def wsX4_factOfRow : List Cond := .code yX4_factOfRow cX4_factOfRow 4 (some .int) :: ([.fieldLink RX4 19 "TableWright" "setting" "LTableWright$Setting;", .methodLink RX4 143 yX2_chosen, .instanceMethod yX2_chosen, .selects RX2 yX2_chosen yX2_chosen, .initialized RX2, .code yX2_chosen cX2_chosen 1 (some (.object "TableWright$Layout")), .fieldLink RX2 31 "TableWright$Setting" "isTurned" "Z", .fieldLink RX2 16 "TableWright$Setting" "turned" "LTableWright$Layout;", .fieldLink RX2 10 "TableWright$Setting" "upright" "LTableWright$Layout;"] ++ wsX40 ++ wsX00 ++ wsX20)
def wsX4_ofRow_r1 : List Cond := [Cond.methodLink RX4 86 yX4_requireRow, Cond.instanceMethod yX4_requireRow, Cond.selects RX4 yX4_requireRow yX4_requireRow, Cond.initialized RX4, Cond.code yX4_requireRow cX4_requireRow 2 none, Cond.classLink RX4 211 "java/lang/IndexOutOfBoundsException", Cond.initialized "java/lang/IndexOutOfBoundsException", Cond.fieldLink RX4 12 "TableWright" "sheet" "LTableWright$Sheet;", Cond.methodLink RX4 47 yX4_requireRange, Cond.static yX4_requireRange, Cond.code yX4_requireRange cX4_requireRange 3 none, Cond.classLink RX4 122 "java/lang/IllegalArgumentException", Cond.initialized "java/lang/IllegalArgumentException", Cond.methodLink RX4 131 yX4_refresh, Cond.instanceMethod yX4_refresh, Cond.selects RX4 yX4_refresh yX4_refresh, Cond.code yX4_refresh cX4_refresh 1 none, Cond.fieldLink RX4 30 "TableWright" "isStale" "Z", Cond.fieldLink RX4 19 "TableWright" "setting" "LTableWright$Setting;", Cond.fieldLink RX4 23 "TableWright" "wide" "I", Cond.fieldLink RX4 27 "TableWright" "high" "I", Cond.methodLink RX4 229 yX3_reckon, Cond.instanceMethod yX3_reckon, Cond.selects RX3 yX3_reckon yX3_reckon]
def wsX4_ofRow_r2 : List Cond := [Cond.initialized RX3, Cond.code yX3_reckon cX3_reckon 2 none, Cond.fieldLink RX3 37 "TableWright$Sheet" "columnCount" "I", Cond.fieldLink RX3 9 "TableWright$Sheet" "kinds" "[I", Cond.methodLink RX3 61 yX3_reckonHidden, Cond.instanceMethod yX3_reckonHidden, Cond.selects RX3 yX3_reckonHidden yX3_reckonHidden, Cond.code yX3_reckonHidden cX3_reckonHidden 5 none, Cond.fieldLink RX3 41 "TableWright$Sheet" "rowCount" "I", Cond.fieldLink RX3 26 "TableWright$Sheet" "rows" "[LTableWright$Row;", Cond.methodLink RX3 65 yX3_reckonNumbers, Cond.instanceMethod yX3_reckonNumbers, Cond.selects RX3 yX3_reckonNumbers yX3_reckonNumbers, Cond.code yX3_reckonNumbers cX3_reckonNumbers 9 none, Cond.fieldLink RX3 18 "TableWright$Sheet" "firsts" "[I", Cond.fieldLink RX3 21 "TableWright$Sheet" "seconds" "[I", Cond.methodLink RX3 80 yX3_resultOf, Cond.static yX3_resultOf, Cond.code yX3_resultOf cX3_resultOf 7 (some .int), Cond.constantLong RX3 84 (-99999), Cond.constantLong RX3 86 (99999), Cond.methodLink RX3 88 Lib.MathLoose.min_long.x, Cond.static Lib.MathLoose.min_long.x, Cond.initialized "java/lang/Math"]
def wsX4_ofRow_r3 : List Cond := [Cond.code Lib.MathLoose.min_long.x Lib.MathLoose.min_long.code 4 (some .long), Cond.methodLink RX3 94 Lib.MathLoose.max_long.x, Cond.static Lib.MathLoose.max_long.x, Cond.code Lib.MathLoose.max_long.x Lib.MathLoose.max_long.code 4 (some .long), Cond.methodLink RX3 68 yX3_measureText, Cond.instanceMethod yX3_measureText, Cond.selects RX3 yX3_measureText yX3_measureText, Cond.code yX3_measureText cX3_measureText 5 none, Cond.fieldLink RX3 15 "TableWright$Sheet" "titles" "[I", Cond.methodLink RX3 104 Lib.Math.max.name, Cond.static Lib.Math.max.name, Cond.code Lib.Math.max.name Lib.Math.max.code 2 (some .int), Cond.fieldLink RX3 30 "TableWright$Sheet" "leasts" "[I", Cond.fieldLink RX3 33 "TableWright$Sheet" "bests" "[I", Cond.methodLink RX3 110 Lib.Math.min.name, Cond.static Lib.Math.min.name, Cond.code Lib.Math.min.name Lib.Math.min.code 2 (some .int), Cond.methodLink RX3 97 yX3_isSpanning, Cond.instanceMethod yX3_isSpanning, Cond.selects RX3 yX3_isSpanning yX3_isSpanning, Cond.code yX3_isSpanning cX3_isSpanning 3 (some .boolean), Cond.methodLink RX3 71 yX3_measureNumbers, Cond.instanceMethod yX3_measureNumbers, Cond.selects RX3 yX3_measureNumbers yX3_measureNumbers]
def wsX4_ofRow_r4 : List Cond := [Cond.code yX3_measureNumbers cX3_measureNumbers 4 none, Cond.methodLink RX3 112 yX3_sizeOf, Cond.static yX3_sizeOf, Cond.code yX3_sizeOf cX3_sizeOf 3 (some .int), Cond.methodLink RX4 232 yX2_arrange, Cond.instanceMethod yX2_arrange, Cond.selects RX2 yX2_arrange yX2_arrange, Cond.initialized RX2, Cond.code yX2_arrange cX2_arrange 5 none, Cond.fieldLink RX2 10 "TableWright$Setting" "upright" "LTableWright$Layout;", Cond.fieldLink RX2 16 "TableWright$Setting" "turned" "LTableWright$Layout;", Cond.fieldLink RX2 31 "TableWright$Setting" "isTurned" "Z", Cond.methodLink RX2 19 yX0_arrange, Cond.instanceMethod yX0_arrange, Cond.selects RX0 yX0_arrange yX0_arrange, Cond.initialized RX0, Cond.code yX0_arrange cX0_arrange 4 none, Cond.fieldLink RX0 39 "TableWright$Layout" "room" "I", Cond.fieldLink RX0 51 "TableWright$Layout" "isFit" "Z", Cond.fieldLink RX0 55 "TableWright$Layout" "pageCount" "I", Cond.fieldLink RX0 58 "TableWright$Layout" "nextRow" "I", Cond.fieldLink RX0 61 "TableWright$Layout" "nextNote" "I", Cond.methodLink RX0 43 yX0_isWidthFit, Cond.instanceMethod yX0_isWidthFit]
def wsX4_ofRow_r5 : List Cond := [Cond.selects RX0 yX0_isWidthFit yX0_isWidthFit, Cond.code yX0_isWidthFit cX0_isWidthFit 5 (some .boolean), Cond.fieldLink RX0 9 "TableWright$Layout" "widths" "[I", Cond.methodLink RX0 112 yX0_tableWidth, Cond.instanceMethod yX0_tableWidth, Cond.selects RX0 yX0_tableWidth yX0_tableWidth, Cond.code yX0_tableWidth cX0_tableWidth 4 (some .int), Cond.methodLink RX0 116 yX0_mostSpareColumn, Cond.instanceMethod yX0_mostSpareColumn, Cond.selects RX0 yX0_mostSpareColumn yX0_mostSpareColumn, Cond.code yX0_mostSpareColumn cX0_mostSpareColumn 6 (some .int), Cond.methodLink RX0 47 yX0_areHeightsFit, Cond.instanceMethod yX0_areHeightsFit, Cond.selects RX0 yX0_areHeightsFit yX0_areHeightsFit, Cond.code yX0_areHeightsFit cX0_areHeightsFit 5 (some .boolean), Cond.methodLink RX0 104 Lib.Math.max.name, Cond.fieldLink RX0 15 "TableWright$Layout" "heights" "[I", Cond.methodLink RX0 122 yX0_heightOfCell, Cond.instanceMethod yX0_heightOfCell, Cond.selects RX0 yX0_heightOfCell yX0_heightOfCell, Cond.code yX0_heightOfCell cX0_heightOfCell 6 (some .int), Cond.methodLink RX0 97 yX3_isSpanning, Cond.methodLink RX0 69 yX0_fillPage, Cond.instanceMethod yX0_fillPage]
def wsX4_ofRow_r6 : List Cond := [Cond.selects RX0 yX0_fillPage yX0_fillPage, Cond.code yX0_fillPage cX0_fillPage 4 none, Cond.fieldLink RX0 24 "TableWright$Layout" "firstRows" "[I", Cond.fieldLink RX0 27 "TableWright$Layout" "rowsOn" "[I", Cond.fieldLink RX0 30 "TableWright$Layout" "notesOn" "[I", Cond.fieldLink RX0 33 "TableWright$Layout" "left" "[I", Cond.fieldLink RX0 36 "TableWright$Layout" "lastRows" "[I", Cond.methodLink RX0 126 yX0_putWaitingNotes, Cond.instanceMethod yX0_putWaitingNotes, Cond.selects RX0 yX0_putWaitingNotes yX0_putWaitingNotes, Cond.code yX0_putWaitingNotes cX0_putWaitingNotes 4 none, Cond.fieldLink RX0 21 "TableWright$Layout" "notePages" "[I", Cond.methodLink RX0 129 yX0_hasRoomForNextRow, Cond.instanceMethod yX0_hasRoomForNextRow, Cond.selects RX0 yX0_hasRoomForNextRow yX0_hasRoomForNextRow, Cond.code yX0_hasRoomForNextRow cX0_hasRoomForNextRow 5 (some .boolean), Cond.methodLink RX0 142 yX0_heightOfGroup, Cond.instanceMethod yX0_heightOfGroup, Cond.selects RX0 yX0_heightOfGroup yX0_heightOfGroup, Cond.code yX0_heightOfGroup cX0_heightOfGroup 5 (some .int), Cond.methodLink RX0 132 yX0_putNextRow, Cond.instanceMethod yX0_putNextRow, Cond.selects RX0 yX0_putNextRow yX0_putNextRow, Cond.code yX0_putNextRow cX0_putNextRow 2 none]
def wsX4_ofRow_r7 : List Cond := [Cond.fieldLink RX0 18 "TableWright$Layout" "rowPages" "[I", Cond.methodLink RX4 157 yX4_factOfRow, Cond.instanceMethod yX4_factOfRow, Cond.selects RX4 yX4_factOfRow yX4_factOfRow, Cond.code yX4_factOfRow cX4_factOfRow 4 (some .int), Cond.methodLink RX4 143 yX2_chosen, Cond.instanceMethod yX2_chosen, Cond.selects RX2 yX2_chosen yX2_chosen, Cond.code yX2_chosen cX2_chosen 1 (some (.object "TableWright$Layout"))]
def wsX4_ofRow : List Cond := .code yX4_ofRow cX4_ofRow 3 (some .int) :: ((wsX4_ofRow_r1 ++ (wsX4_ofRow_r2 ++ (wsX4_ofRow_r3 ++ (wsX4_ofRow_r4 ++ (wsX4_ofRow_r5 ++ (wsX4_ofRow_r6 ++ wsX4_ofRow_r7)))))) ++ wsX40 ++ wsX30 ++ wsX10 ++ wsX20 ++ wsX00 ++ (vx_atS RX4 215 "java/lang/IndexOutOfBoundsException" ["java/lang/RuntimeException", "java/lang/Exception"]).filter goodWord ++ (vx_atS RX4 126 "java/lang/IllegalArgumentException" ["java/lang/RuntimeException", "java/lang/Exception"]).filter goodWord)
def wsX4_requirePage : List Cond := .code yX4_requirePage cX4_requirePage 2 none :: ([.classLink RX4 211 "java/lang/IndexOutOfBoundsException", .initialized "java/lang/IndexOutOfBoundsException", .fieldLink RX4 19 "TableWright" "setting" "LTableWright$Setting;", .methodLink RX4 143 yX2_chosen, .instanceMethod yX2_chosen, .selects RX2 yX2_chosen yX2_chosen, .initialized RX2, .code yX2_chosen cX2_chosen 1 (some (.object "TableWright$Layout")), .fieldLink RX2 31 "TableWright$Setting" "isTurned" "Z", .fieldLink RX2 16 "TableWright$Setting" "turned" "LTableWright$Layout;", .fieldLink RX2 10 "TableWright$Setting" "upright" "LTableWright$Layout;"] ++ wsX40 ++ wsX00 ++ wsX20 ++ (vx_atS RX4 215 "java/lang/IndexOutOfBoundsException" ["java/lang/RuntimeException", "java/lang/Exception"]).filter goodWord)
def wsX4_factOfPage : List Cond := .code yX4_factOfPage cX4_factOfPage 4 (some .int) :: ([.fieldLink RX4 19 "TableWright" "setting" "LTableWright$Setting;", .fieldLink RX4 12 "TableWright" "sheet" "LTableWright$Sheet;", .methodLink RX4 143 yX2_chosen, .instanceMethod yX2_chosen, .selects RX2 yX2_chosen yX2_chosen, .initialized RX2, .code yX2_chosen cX2_chosen 1 (some (.object "TableWright$Layout")), .fieldLink RX2 31 "TableWright$Setting" "isTurned" "Z", .fieldLink RX2 16 "TableWright$Setting" "turned" "LTableWright$Layout;", .fieldLink RX2 10 "TableWright$Setting" "upright" "LTableWright$Layout;", .methodLink RX4 289 yX0_readAloud, .instanceMethod yX0_readAloud, .selects RX0 yX0_readAloud yX0_readAloud, .initialized RX0, .code yX0_readAloud cX0_readAloud 5 (some .int), .fieldLink RX0 30 "TableWright$Layout" "notesOn" "[I", .fieldLink RX0 18 "TableWright$Layout" "rowPages" "[I", .methodLink RX0 83 yX0_shownCells, .static yX0_shownCells, .code yX0_shownCells cX0_shownCells 4 (some .int)] ++ wsX40 ++ wsX00 ++ wsX20 ++ wsX30 ++ wsX10)
def wsX4_ofPage_r1 : List Cond := [Cond.methodLink RX4 131 yX4_refresh, Cond.instanceMethod yX4_refresh, Cond.selects RX4 yX4_refresh yX4_refresh, Cond.initialized RX4, Cond.code yX4_refresh cX4_refresh 1 none, Cond.fieldLink RX4 30 "TableWright" "isStale" "Z", Cond.fieldLink RX4 12 "TableWright" "sheet" "LTableWright$Sheet;", Cond.fieldLink RX4 19 "TableWright" "setting" "LTableWright$Setting;", Cond.fieldLink RX4 23 "TableWright" "wide" "I", Cond.fieldLink RX4 27 "TableWright" "high" "I", Cond.methodLink RX4 229 yX3_reckon, Cond.instanceMethod yX3_reckon, Cond.selects RX3 yX3_reckon yX3_reckon, Cond.initialized RX3, Cond.code yX3_reckon cX3_reckon 2 none, Cond.fieldLink RX3 37 "TableWright$Sheet" "columnCount" "I", Cond.fieldLink RX3 9 "TableWright$Sheet" "kinds" "[I", Cond.methodLink RX3 61 yX3_reckonHidden, Cond.instanceMethod yX3_reckonHidden, Cond.selects RX3 yX3_reckonHidden yX3_reckonHidden, Cond.code yX3_reckonHidden cX3_reckonHidden 5 none, Cond.fieldLink RX3 41 "TableWright$Sheet" "rowCount" "I", Cond.fieldLink RX3 26 "TableWright$Sheet" "rows" "[LTableWright$Row;", Cond.methodLink RX3 65 yX3_reckonNumbers]
def wsX4_ofPage_r2 : List Cond := [Cond.instanceMethod yX3_reckonNumbers, Cond.selects RX3 yX3_reckonNumbers yX3_reckonNumbers, Cond.code yX3_reckonNumbers cX3_reckonNumbers 9 none, Cond.fieldLink RX3 18 "TableWright$Sheet" "firsts" "[I", Cond.fieldLink RX3 21 "TableWright$Sheet" "seconds" "[I", Cond.methodLink RX3 80 yX3_resultOf, Cond.static yX3_resultOf, Cond.code yX3_resultOf cX3_resultOf 7 (some .int), Cond.constantLong RX3 84 (-99999), Cond.constantLong RX3 86 (99999), Cond.methodLink RX3 88 Lib.MathLoose.min_long.x, Cond.static Lib.MathLoose.min_long.x, Cond.initialized "java/lang/Math", Cond.code Lib.MathLoose.min_long.x Lib.MathLoose.min_long.code 4 (some .long), Cond.methodLink RX3 94 Lib.MathLoose.max_long.x, Cond.static Lib.MathLoose.max_long.x, Cond.code Lib.MathLoose.max_long.x Lib.MathLoose.max_long.code 4 (some .long), Cond.methodLink RX3 68 yX3_measureText, Cond.instanceMethod yX3_measureText, Cond.selects RX3 yX3_measureText yX3_measureText, Cond.code yX3_measureText cX3_measureText 5 none, Cond.fieldLink RX3 15 "TableWright$Sheet" "titles" "[I", Cond.methodLink RX3 104 Lib.Math.max.name, Cond.static Lib.Math.max.name]
def wsX4_ofPage_r3 : List Cond := [Cond.code Lib.Math.max.name Lib.Math.max.code 2 (some .int), Cond.fieldLink RX3 30 "TableWright$Sheet" "leasts" "[I", Cond.fieldLink RX3 33 "TableWright$Sheet" "bests" "[I", Cond.methodLink RX3 110 Lib.Math.min.name, Cond.static Lib.Math.min.name, Cond.code Lib.Math.min.name Lib.Math.min.code 2 (some .int), Cond.methodLink RX3 97 yX3_isSpanning, Cond.instanceMethod yX3_isSpanning, Cond.selects RX3 yX3_isSpanning yX3_isSpanning, Cond.code yX3_isSpanning cX3_isSpanning 3 (some .boolean), Cond.methodLink RX3 71 yX3_measureNumbers, Cond.instanceMethod yX3_measureNumbers, Cond.selects RX3 yX3_measureNumbers yX3_measureNumbers, Cond.code yX3_measureNumbers cX3_measureNumbers 4 none, Cond.methodLink RX3 112 yX3_sizeOf, Cond.static yX3_sizeOf, Cond.code yX3_sizeOf cX3_sizeOf 3 (some .int), Cond.methodLink RX4 232 yX2_arrange, Cond.instanceMethod yX2_arrange, Cond.selects RX2 yX2_arrange yX2_arrange, Cond.initialized RX2, Cond.code yX2_arrange cX2_arrange 5 none, Cond.fieldLink RX2 10 "TableWright$Setting" "upright" "LTableWright$Layout;", Cond.fieldLink RX2 16 "TableWright$Setting" "turned" "LTableWright$Layout;"]
def wsX4_ofPage_r4 : List Cond := [Cond.fieldLink RX2 31 "TableWright$Setting" "isTurned" "Z", Cond.methodLink RX2 19 yX0_arrange, Cond.instanceMethod yX0_arrange, Cond.selects RX0 yX0_arrange yX0_arrange, Cond.initialized RX0, Cond.code yX0_arrange cX0_arrange 4 none, Cond.fieldLink RX0 39 "TableWright$Layout" "room" "I", Cond.fieldLink RX0 51 "TableWright$Layout" "isFit" "Z", Cond.fieldLink RX0 55 "TableWright$Layout" "pageCount" "I", Cond.fieldLink RX0 58 "TableWright$Layout" "nextRow" "I", Cond.fieldLink RX0 61 "TableWright$Layout" "nextNote" "I", Cond.methodLink RX0 43 yX0_isWidthFit, Cond.instanceMethod yX0_isWidthFit, Cond.selects RX0 yX0_isWidthFit yX0_isWidthFit, Cond.code yX0_isWidthFit cX0_isWidthFit 5 (some .boolean), Cond.fieldLink RX0 9 "TableWright$Layout" "widths" "[I", Cond.methodLink RX0 112 yX0_tableWidth, Cond.instanceMethod yX0_tableWidth, Cond.selects RX0 yX0_tableWidth yX0_tableWidth, Cond.code yX0_tableWidth cX0_tableWidth 4 (some .int), Cond.methodLink RX0 116 yX0_mostSpareColumn, Cond.instanceMethod yX0_mostSpareColumn, Cond.selects RX0 yX0_mostSpareColumn yX0_mostSpareColumn, Cond.code yX0_mostSpareColumn cX0_mostSpareColumn 6 (some .int)]
def wsX4_ofPage_r5 : List Cond := [Cond.methodLink RX0 47 yX0_areHeightsFit, Cond.instanceMethod yX0_areHeightsFit, Cond.selects RX0 yX0_areHeightsFit yX0_areHeightsFit, Cond.code yX0_areHeightsFit cX0_areHeightsFit 5 (some .boolean), Cond.methodLink RX0 104 Lib.Math.max.name, Cond.fieldLink RX0 15 "TableWright$Layout" "heights" "[I", Cond.methodLink RX0 122 yX0_heightOfCell, Cond.instanceMethod yX0_heightOfCell, Cond.selects RX0 yX0_heightOfCell yX0_heightOfCell, Cond.code yX0_heightOfCell cX0_heightOfCell 6 (some .int), Cond.methodLink RX0 97 yX3_isSpanning, Cond.methodLink RX0 69 yX0_fillPage, Cond.instanceMethod yX0_fillPage, Cond.selects RX0 yX0_fillPage yX0_fillPage, Cond.code yX0_fillPage cX0_fillPage 4 none, Cond.fieldLink RX0 24 "TableWright$Layout" "firstRows" "[I", Cond.fieldLink RX0 27 "TableWright$Layout" "rowsOn" "[I", Cond.fieldLink RX0 30 "TableWright$Layout" "notesOn" "[I", Cond.fieldLink RX0 33 "TableWright$Layout" "left" "[I", Cond.fieldLink RX0 36 "TableWright$Layout" "lastRows" "[I", Cond.methodLink RX0 126 yX0_putWaitingNotes, Cond.instanceMethod yX0_putWaitingNotes, Cond.selects RX0 yX0_putWaitingNotes yX0_putWaitingNotes, Cond.code yX0_putWaitingNotes cX0_putWaitingNotes 4 none]
def wsX4_ofPage_r6 : List Cond := [Cond.fieldLink RX0 21 "TableWright$Layout" "notePages" "[I", Cond.methodLink RX0 129 yX0_hasRoomForNextRow, Cond.instanceMethod yX0_hasRoomForNextRow, Cond.selects RX0 yX0_hasRoomForNextRow yX0_hasRoomForNextRow, Cond.code yX0_hasRoomForNextRow cX0_hasRoomForNextRow 5 (some .boolean), Cond.methodLink RX0 142 yX0_heightOfGroup, Cond.instanceMethod yX0_heightOfGroup, Cond.selects RX0 yX0_heightOfGroup yX0_heightOfGroup, Cond.code yX0_heightOfGroup cX0_heightOfGroup 5 (some .int), Cond.methodLink RX0 132 yX0_putNextRow, Cond.instanceMethod yX0_putNextRow, Cond.selects RX0 yX0_putNextRow yX0_putNextRow, Cond.code yX0_putNextRow cX0_putNextRow 2 none, Cond.fieldLink RX0 18 "TableWright$Layout" "rowPages" "[I", Cond.methodLink RX4 160 yX4_requirePage, Cond.instanceMethod yX4_requirePage, Cond.selects RX4 yX4_requirePage yX4_requirePage, Cond.code yX4_requirePage cX4_requirePage 2 none, Cond.classLink RX4 211 "java/lang/IndexOutOfBoundsException", Cond.initialized "java/lang/IndexOutOfBoundsException", Cond.methodLink RX4 143 yX2_chosen, Cond.instanceMethod yX2_chosen, Cond.selects RX2 yX2_chosen yX2_chosen, Cond.code yX2_chosen cX2_chosen 1 (some (.object "TableWright$Layout"))]
def wsX4_ofPage_r7 : List Cond := [Cond.methodLink RX4 47 yX4_requireRange, Cond.static yX4_requireRange, Cond.code yX4_requireRange cX4_requireRange 3 none, Cond.classLink RX4 122 "java/lang/IllegalArgumentException", Cond.initialized "java/lang/IllegalArgumentException", Cond.methodLink RX4 163 yX4_factOfPage, Cond.instanceMethod yX4_factOfPage, Cond.selects RX4 yX4_factOfPage yX4_factOfPage, Cond.code yX4_factOfPage cX4_factOfPage 4 (some .int), Cond.methodLink RX4 289 yX0_readAloud, Cond.instanceMethod yX0_readAloud, Cond.selects RX0 yX0_readAloud yX0_readAloud, Cond.code yX0_readAloud cX0_readAloud 5 (some .int), Cond.methodLink RX0 83 yX0_shownCells, Cond.static yX0_shownCells, Cond.code yX0_shownCells cX0_shownCells 4 (some .int)]
def wsX4_ofPage : List Cond := .code yX4_ofPage cX4_ofPage 3 (some .int) :: ((wsX4_ofPage_r1 ++ (wsX4_ofPage_r2 ++ (wsX4_ofPage_r3 ++ (wsX4_ofPage_r4 ++ (wsX4_ofPage_r5 ++ (wsX4_ofPage_r6 ++ wsX4_ofPage_r7)))))) ++ wsX40 ++ wsX30 ++ wsX10 ++ wsX20 ++ wsX00 ++ (vx_atS RX4 215 "java/lang/IndexOutOfBoundsException" ["java/lang/RuntimeException", "java/lang/Exception"]).filter goodWord ++ (vx_atS RX4 126 "java/lang/IllegalArgumentException" ["java/lang/RuntimeException", "java/lang/Exception"]).filter goodWord)
def wsX4_carried_r1 : List Cond := [Cond.fieldLink RX4 19 "TableWright" "setting" "LTableWright$Setting;", Cond.fieldLink RX4 12 "TableWright" "sheet" "LTableWright$Sheet;", Cond.methodLink RX4 131 yX4_refresh, Cond.instanceMethod yX4_refresh, Cond.selects RX4 yX4_refresh yX4_refresh, Cond.initialized RX4, Cond.code yX4_refresh cX4_refresh 1 none, Cond.fieldLink RX4 30 "TableWright" "isStale" "Z", Cond.fieldLink RX4 23 "TableWright" "wide" "I", Cond.fieldLink RX4 27 "TableWright" "high" "I", Cond.methodLink RX4 229 yX3_reckon, Cond.instanceMethod yX3_reckon, Cond.selects RX3 yX3_reckon yX3_reckon, Cond.initialized RX3, Cond.code yX3_reckon cX3_reckon 2 none, Cond.fieldLink RX3 37 "TableWright$Sheet" "columnCount" "I", Cond.fieldLink RX3 9 "TableWright$Sheet" "kinds" "[I", Cond.methodLink RX3 61 yX3_reckonHidden, Cond.instanceMethod yX3_reckonHidden, Cond.selects RX3 yX3_reckonHidden yX3_reckonHidden, Cond.code yX3_reckonHidden cX3_reckonHidden 5 none, Cond.fieldLink RX3 41 "TableWright$Sheet" "rowCount" "I", Cond.fieldLink RX3 26 "TableWright$Sheet" "rows" "[LTableWright$Row;", Cond.methodLink RX3 65 yX3_reckonNumbers]
def wsX4_carried_r2 : List Cond := [Cond.instanceMethod yX3_reckonNumbers, Cond.selects RX3 yX3_reckonNumbers yX3_reckonNumbers, Cond.code yX3_reckonNumbers cX3_reckonNumbers 9 none, Cond.fieldLink RX3 18 "TableWright$Sheet" "firsts" "[I", Cond.fieldLink RX3 21 "TableWright$Sheet" "seconds" "[I", Cond.methodLink RX3 80 yX3_resultOf, Cond.static yX3_resultOf, Cond.code yX3_resultOf cX3_resultOf 7 (some .int), Cond.constantLong RX3 84 (-99999), Cond.constantLong RX3 86 (99999), Cond.methodLink RX3 88 Lib.MathLoose.min_long.x, Cond.static Lib.MathLoose.min_long.x, Cond.initialized "java/lang/Math", Cond.code Lib.MathLoose.min_long.x Lib.MathLoose.min_long.code 4 (some .long), Cond.methodLink RX3 94 Lib.MathLoose.max_long.x, Cond.static Lib.MathLoose.max_long.x, Cond.code Lib.MathLoose.max_long.x Lib.MathLoose.max_long.code 4 (some .long), Cond.methodLink RX3 68 yX3_measureText, Cond.instanceMethod yX3_measureText, Cond.selects RX3 yX3_measureText yX3_measureText, Cond.code yX3_measureText cX3_measureText 5 none, Cond.fieldLink RX3 15 "TableWright$Sheet" "titles" "[I", Cond.methodLink RX3 104 Lib.Math.max.name, Cond.static Lib.Math.max.name]
def wsX4_carried_r3 : List Cond := [Cond.code Lib.Math.max.name Lib.Math.max.code 2 (some .int), Cond.fieldLink RX3 30 "TableWright$Sheet" "leasts" "[I", Cond.fieldLink RX3 33 "TableWright$Sheet" "bests" "[I", Cond.methodLink RX3 110 Lib.Math.min.name, Cond.static Lib.Math.min.name, Cond.code Lib.Math.min.name Lib.Math.min.code 2 (some .int), Cond.methodLink RX3 97 yX3_isSpanning, Cond.instanceMethod yX3_isSpanning, Cond.selects RX3 yX3_isSpanning yX3_isSpanning, Cond.code yX3_isSpanning cX3_isSpanning 3 (some .boolean), Cond.methodLink RX3 71 yX3_measureNumbers, Cond.instanceMethod yX3_measureNumbers, Cond.selects RX3 yX3_measureNumbers yX3_measureNumbers, Cond.code yX3_measureNumbers cX3_measureNumbers 4 none, Cond.methodLink RX3 112 yX3_sizeOf, Cond.static yX3_sizeOf, Cond.code yX3_sizeOf cX3_sizeOf 3 (some .int), Cond.methodLink RX4 232 yX2_arrange, Cond.instanceMethod yX2_arrange, Cond.selects RX2 yX2_arrange yX2_arrange, Cond.initialized RX2, Cond.code yX2_arrange cX2_arrange 5 none, Cond.fieldLink RX2 10 "TableWright$Setting" "upright" "LTableWright$Layout;", Cond.fieldLink RX2 16 "TableWright$Setting" "turned" "LTableWright$Layout;"]
def wsX4_carried_r4 : List Cond := [Cond.fieldLink RX2 31 "TableWright$Setting" "isTurned" "Z", Cond.methodLink RX2 19 yX0_arrange, Cond.instanceMethod yX0_arrange, Cond.selects RX0 yX0_arrange yX0_arrange, Cond.initialized RX0, Cond.code yX0_arrange cX0_arrange 4 none, Cond.fieldLink RX0 39 "TableWright$Layout" "room" "I", Cond.fieldLink RX0 51 "TableWright$Layout" "isFit" "Z", Cond.fieldLink RX0 55 "TableWright$Layout" "pageCount" "I", Cond.fieldLink RX0 58 "TableWright$Layout" "nextRow" "I", Cond.fieldLink RX0 61 "TableWright$Layout" "nextNote" "I", Cond.methodLink RX0 43 yX0_isWidthFit, Cond.instanceMethod yX0_isWidthFit, Cond.selects RX0 yX0_isWidthFit yX0_isWidthFit, Cond.code yX0_isWidthFit cX0_isWidthFit 5 (some .boolean), Cond.fieldLink RX0 9 "TableWright$Layout" "widths" "[I", Cond.methodLink RX0 112 yX0_tableWidth, Cond.instanceMethod yX0_tableWidth, Cond.selects RX0 yX0_tableWidth yX0_tableWidth, Cond.code yX0_tableWidth cX0_tableWidth 4 (some .int), Cond.methodLink RX0 116 yX0_mostSpareColumn, Cond.instanceMethod yX0_mostSpareColumn, Cond.selects RX0 yX0_mostSpareColumn yX0_mostSpareColumn, Cond.code yX0_mostSpareColumn cX0_mostSpareColumn 6 (some .int)]
def wsX4_carried_r5 : List Cond := [Cond.methodLink RX0 47 yX0_areHeightsFit, Cond.instanceMethod yX0_areHeightsFit, Cond.selects RX0 yX0_areHeightsFit yX0_areHeightsFit, Cond.code yX0_areHeightsFit cX0_areHeightsFit 5 (some .boolean), Cond.methodLink RX0 104 Lib.Math.max.name, Cond.fieldLink RX0 15 "TableWright$Layout" "heights" "[I", Cond.methodLink RX0 122 yX0_heightOfCell, Cond.instanceMethod yX0_heightOfCell, Cond.selects RX0 yX0_heightOfCell yX0_heightOfCell, Cond.code yX0_heightOfCell cX0_heightOfCell 6 (some .int), Cond.methodLink RX0 97 yX3_isSpanning, Cond.methodLink RX0 69 yX0_fillPage, Cond.instanceMethod yX0_fillPage, Cond.selects RX0 yX0_fillPage yX0_fillPage, Cond.code yX0_fillPage cX0_fillPage 4 none, Cond.fieldLink RX0 24 "TableWright$Layout" "firstRows" "[I", Cond.fieldLink RX0 27 "TableWright$Layout" "rowsOn" "[I", Cond.fieldLink RX0 30 "TableWright$Layout" "notesOn" "[I", Cond.fieldLink RX0 33 "TableWright$Layout" "left" "[I", Cond.fieldLink RX0 36 "TableWright$Layout" "lastRows" "[I", Cond.methodLink RX0 126 yX0_putWaitingNotes, Cond.instanceMethod yX0_putWaitingNotes, Cond.selects RX0 yX0_putWaitingNotes yX0_putWaitingNotes, Cond.code yX0_putWaitingNotes cX0_putWaitingNotes 4 none]
def wsX4_carried_r6 : List Cond := [Cond.fieldLink RX0 21 "TableWright$Layout" "notePages" "[I", Cond.methodLink RX0 129 yX0_hasRoomForNextRow, Cond.instanceMethod yX0_hasRoomForNextRow, Cond.selects RX0 yX0_hasRoomForNextRow yX0_hasRoomForNextRow, Cond.code yX0_hasRoomForNextRow cX0_hasRoomForNextRow 5 (some .boolean), Cond.methodLink RX0 142 yX0_heightOfGroup, Cond.instanceMethod yX0_heightOfGroup, Cond.selects RX0 yX0_heightOfGroup yX0_heightOfGroup, Cond.code yX0_heightOfGroup cX0_heightOfGroup 5 (some .int), Cond.methodLink RX0 132 yX0_putNextRow, Cond.instanceMethod yX0_putNextRow, Cond.selects RX0 yX0_putNextRow yX0_putNextRow, Cond.code yX0_putNextRow cX0_putNextRow 2 none, Cond.fieldLink RX0 18 "TableWright$Layout" "rowPages" "[I", Cond.methodLink RX4 160 yX4_requirePage, Cond.instanceMethod yX4_requirePage, Cond.selects RX4 yX4_requirePage yX4_requirePage, Cond.code yX4_requirePage cX4_requirePage 2 none, Cond.classLink RX4 211 "java/lang/IndexOutOfBoundsException", Cond.initialized "java/lang/IndexOutOfBoundsException", Cond.methodLink RX4 143 yX2_chosen, Cond.instanceMethod yX2_chosen, Cond.selects RX2 yX2_chosen yX2_chosen, Cond.code yX2_chosen cX2_chosen 1 (some (.object "TableWright$Layout"))]
def wsX4_carried_r7 : List Cond := [Cond.methodLink RX4 58 yX4_requireColumn, Cond.instanceMethod yX4_requireColumn, Cond.selects RX4 yX4_requireColumn yX4_requireColumn, Cond.code yX4_requireColumn cX4_requireColumn 2 none, Cond.methodLink RX4 166 yX0_carriedOn, Cond.instanceMethod yX0_carriedOn, Cond.selects RX0 yX0_carriedOn yX0_carriedOn, Cond.code yX0_carriedOn cX0_carriedOn 4 (some .int), Cond.methodLink RX0 76 yX3_sumUpTo, Cond.instanceMethod yX3_sumUpTo, Cond.selects RX3 yX3_sumUpTo yX3_sumUpTo, Cond.code yX3_sumUpTo cX3_sumUpTo 3 (some .int)]
def wsX4_carried : List Cond := .code yX4_carried cX4_carried 3 (some .int) :: ((wsX4_carried_r1 ++ (wsX4_carried_r2 ++ (wsX4_carried_r3 ++ (wsX4_carried_r4 ++ (wsX4_carried_r5 ++ (wsX4_carried_r6 ++ wsX4_carried_r7)))))) ++ wsX40 ++ wsX30 ++ wsX10 ++ wsX20 ++ wsX00 ++ (vx_atS RX4 215 "java/lang/IndexOutOfBoundsException" ["java/lang/RuntimeException", "java/lang/Exception"]).filter goodWord)
def wsX4_factOfTable_r1 : List Cond := [Cond.fieldLink RX4 19 "TableWright" "setting" "LTableWright$Setting;", Cond.fieldLink RX4 12 "TableWright" "sheet" "LTableWright$Sheet;", Cond.methodLink RX4 143 yX2_chosen, Cond.instanceMethod yX2_chosen, Cond.selects RX2 yX2_chosen yX2_chosen, Cond.initialized RX2, Cond.code yX2_chosen cX2_chosen 1 (some (.object "TableWright$Layout")), Cond.fieldLink RX2 31 "TableWright$Setting" "isTurned" "Z", Cond.fieldLink RX2 16 "TableWright$Setting" "turned" "LTableWright$Layout;", Cond.fieldLink RX2 10 "TableWright$Setting" "upright" "LTableWright$Layout;", Cond.methodLink RX4 147 yX0_pagesOrNone, Cond.instanceMethod yX0_pagesOrNone, Cond.selects RX0 yX0_pagesOrNone yX0_pagesOrNone, Cond.initialized RX0, Cond.code yX0_pagesOrNone cX0_pagesOrNone 1 (some .int), Cond.fieldLink RX0 51 "TableWright$Layout" "isFit" "Z", Cond.fieldLink RX0 55 "TableWright$Layout" "pageCount" "I", Cond.methodLink RX4 249 yX0_tableWidth, Cond.instanceMethod yX0_tableWidth, Cond.selects RX0 yX0_tableWidth yX0_tableWidth, Cond.code yX0_tableWidth cX0_tableWidth 4 (some .int), Cond.fieldLink RX0 9 "TableWright$Layout" "widths" "[I", Cond.methodLink RX4 253 yX0_heightOfRows, Cond.instanceMethod yX0_heightOfRows]
def wsX4_factOfTable_r2 : List Cond := [Cond.selects RX0 yX0_heightOfRows yX0_heightOfRows, Cond.code yX0_heightOfRows cX0_heightOfRows 4 (some .int), Cond.fieldLink RX0 15 "TableWright$Layout" "heights" "[I", Cond.methodLink RX4 256 yX3_linesOfNotes, Cond.instanceMethod yX3_linesOfNotes, Cond.selects RX3 yX3_linesOfNotes yX3_linesOfNotes, Cond.initialized RX3, Cond.code yX3_linesOfNotes cX3_linesOfNotes 3 (some .int), Cond.fieldLink RX3 41 "TableWright$Sheet" "rowCount" "I", Cond.fieldLink RX3 26 "TableWright$Sheet" "rows" "[LTableWright$Row;", Cond.methodLink RX4 259 yX0_notesElsewhere, Cond.instanceMethod yX0_notesElsewhere, Cond.selects RX0 yX0_notesElsewhere yX0_notesElsewhere, Cond.code yX0_notesElsewhere cX0_notesElsewhere 4 (some .int), Cond.fieldLink RX0 21 "TableWright$Layout" "notePages" "[I", Cond.fieldLink RX0 18 "TableWright$Layout" "rowPages" "[I"]
def wsX4_factOfTable : List Cond := .code yX4_factOfTable cX4_factOfTable 3 (some .int) :: ((wsX4_factOfTable_r1 ++ wsX4_factOfTable_r2) ++ wsX40 ++ wsX30 ++ wsX00 ++ wsX20 ++ wsX10)
def wsX4_many_r1 : List Cond := [Cond.methodLink RX4 47 yX4_requireRange, Cond.static yX4_requireRange, Cond.initialized RX4, Cond.code yX4_requireRange cX4_requireRange 3 none, Cond.classLink RX4 122 "java/lang/IllegalArgumentException", Cond.initialized "java/lang/IllegalArgumentException", Cond.methodLink RX4 131 yX4_refresh, Cond.instanceMethod yX4_refresh, Cond.selects RX4 yX4_refresh yX4_refresh, Cond.code yX4_refresh cX4_refresh 1 none, Cond.fieldLink RX4 30 "TableWright" "isStale" "Z", Cond.fieldLink RX4 12 "TableWright" "sheet" "LTableWright$Sheet;", Cond.fieldLink RX4 19 "TableWright" "setting" "LTableWright$Setting;", Cond.fieldLink RX4 23 "TableWright" "wide" "I", Cond.fieldLink RX4 27 "TableWright" "high" "I", Cond.methodLink RX4 229 yX3_reckon, Cond.instanceMethod yX3_reckon, Cond.selects RX3 yX3_reckon yX3_reckon, Cond.initialized RX3, Cond.code yX3_reckon cX3_reckon 2 none, Cond.fieldLink RX3 37 "TableWright$Sheet" "columnCount" "I", Cond.fieldLink RX3 9 "TableWright$Sheet" "kinds" "[I", Cond.methodLink RX3 61 yX3_reckonHidden, Cond.instanceMethod yX3_reckonHidden]
def wsX4_many_r2 : List Cond := [Cond.selects RX3 yX3_reckonHidden yX3_reckonHidden, Cond.code yX3_reckonHidden cX3_reckonHidden 5 none, Cond.fieldLink RX3 41 "TableWright$Sheet" "rowCount" "I", Cond.fieldLink RX3 26 "TableWright$Sheet" "rows" "[LTableWright$Row;", Cond.methodLink RX3 65 yX3_reckonNumbers, Cond.instanceMethod yX3_reckonNumbers, Cond.selects RX3 yX3_reckonNumbers yX3_reckonNumbers, Cond.code yX3_reckonNumbers cX3_reckonNumbers 9 none, Cond.fieldLink RX3 18 "TableWright$Sheet" "firsts" "[I", Cond.fieldLink RX3 21 "TableWright$Sheet" "seconds" "[I", Cond.methodLink RX3 80 yX3_resultOf, Cond.static yX3_resultOf, Cond.code yX3_resultOf cX3_resultOf 7 (some .int), Cond.constantLong RX3 84 (-99999), Cond.constantLong RX3 86 (99999), Cond.methodLink RX3 88 Lib.MathLoose.min_long.x, Cond.static Lib.MathLoose.min_long.x, Cond.initialized "java/lang/Math", Cond.code Lib.MathLoose.min_long.x Lib.MathLoose.min_long.code 4 (some .long), Cond.methodLink RX3 94 Lib.MathLoose.max_long.x, Cond.static Lib.MathLoose.max_long.x, Cond.code Lib.MathLoose.max_long.x Lib.MathLoose.max_long.code 4 (some .long), Cond.methodLink RX3 68 yX3_measureText, Cond.instanceMethod yX3_measureText]
def wsX4_many_r3 : List Cond := [Cond.selects RX3 yX3_measureText yX3_measureText, Cond.code yX3_measureText cX3_measureText 5 none, Cond.fieldLink RX3 15 "TableWright$Sheet" "titles" "[I", Cond.methodLink RX3 104 Lib.Math.max.name, Cond.static Lib.Math.max.name, Cond.code Lib.Math.max.name Lib.Math.max.code 2 (some .int), Cond.fieldLink RX3 30 "TableWright$Sheet" "leasts" "[I", Cond.fieldLink RX3 33 "TableWright$Sheet" "bests" "[I", Cond.methodLink RX3 110 Lib.Math.min.name, Cond.static Lib.Math.min.name, Cond.code Lib.Math.min.name Lib.Math.min.code 2 (some .int), Cond.methodLink RX3 97 yX3_isSpanning, Cond.instanceMethod yX3_isSpanning, Cond.selects RX3 yX3_isSpanning yX3_isSpanning, Cond.code yX3_isSpanning cX3_isSpanning 3 (some .boolean), Cond.methodLink RX3 71 yX3_measureNumbers, Cond.instanceMethod yX3_measureNumbers, Cond.selects RX3 yX3_measureNumbers yX3_measureNumbers, Cond.code yX3_measureNumbers cX3_measureNumbers 4 none, Cond.methodLink RX3 112 yX3_sizeOf, Cond.static yX3_sizeOf, Cond.code yX3_sizeOf cX3_sizeOf 3 (some .int), Cond.methodLink RX4 232 yX2_arrange, Cond.instanceMethod yX2_arrange]
def wsX4_many_r4 : List Cond := [Cond.selects RX2 yX2_arrange yX2_arrange, Cond.initialized RX2, Cond.code yX2_arrange cX2_arrange 5 none, Cond.fieldLink RX2 10 "TableWright$Setting" "upright" "LTableWright$Layout;", Cond.fieldLink RX2 16 "TableWright$Setting" "turned" "LTableWright$Layout;", Cond.fieldLink RX2 31 "TableWright$Setting" "isTurned" "Z", Cond.methodLink RX2 19 yX0_arrange, Cond.instanceMethod yX0_arrange, Cond.selects RX0 yX0_arrange yX0_arrange, Cond.initialized RX0, Cond.code yX0_arrange cX0_arrange 4 none, Cond.fieldLink RX0 39 "TableWright$Layout" "room" "I", Cond.fieldLink RX0 51 "TableWright$Layout" "isFit" "Z", Cond.fieldLink RX0 55 "TableWright$Layout" "pageCount" "I", Cond.fieldLink RX0 58 "TableWright$Layout" "nextRow" "I", Cond.fieldLink RX0 61 "TableWright$Layout" "nextNote" "I", Cond.methodLink RX0 43 yX0_isWidthFit, Cond.instanceMethod yX0_isWidthFit, Cond.selects RX0 yX0_isWidthFit yX0_isWidthFit, Cond.code yX0_isWidthFit cX0_isWidthFit 5 (some .boolean), Cond.fieldLink RX0 9 "TableWright$Layout" "widths" "[I", Cond.methodLink RX0 112 yX0_tableWidth, Cond.instanceMethod yX0_tableWidth, Cond.selects RX0 yX0_tableWidth yX0_tableWidth]
def wsX4_many_r5 : List Cond := [Cond.code yX0_tableWidth cX0_tableWidth 4 (some .int), Cond.methodLink RX0 116 yX0_mostSpareColumn, Cond.instanceMethod yX0_mostSpareColumn, Cond.selects RX0 yX0_mostSpareColumn yX0_mostSpareColumn, Cond.code yX0_mostSpareColumn cX0_mostSpareColumn 6 (some .int), Cond.methodLink RX0 47 yX0_areHeightsFit, Cond.instanceMethod yX0_areHeightsFit, Cond.selects RX0 yX0_areHeightsFit yX0_areHeightsFit, Cond.code yX0_areHeightsFit cX0_areHeightsFit 5 (some .boolean), Cond.methodLink RX0 104 Lib.Math.max.name, Cond.fieldLink RX0 15 "TableWright$Layout" "heights" "[I", Cond.methodLink RX0 122 yX0_heightOfCell, Cond.instanceMethod yX0_heightOfCell, Cond.selects RX0 yX0_heightOfCell yX0_heightOfCell, Cond.code yX0_heightOfCell cX0_heightOfCell 6 (some .int), Cond.methodLink RX0 97 yX3_isSpanning, Cond.methodLink RX0 69 yX0_fillPage, Cond.instanceMethod yX0_fillPage, Cond.selects RX0 yX0_fillPage yX0_fillPage, Cond.code yX0_fillPage cX0_fillPage 4 none, Cond.fieldLink RX0 24 "TableWright$Layout" "firstRows" "[I", Cond.fieldLink RX0 27 "TableWright$Layout" "rowsOn" "[I", Cond.fieldLink RX0 30 "TableWright$Layout" "notesOn" "[I", Cond.fieldLink RX0 33 "TableWright$Layout" "left" "[I"]
def wsX4_many_r6 : List Cond := [Cond.fieldLink RX0 36 "TableWright$Layout" "lastRows" "[I", Cond.methodLink RX0 126 yX0_putWaitingNotes, Cond.instanceMethod yX0_putWaitingNotes, Cond.selects RX0 yX0_putWaitingNotes yX0_putWaitingNotes, Cond.code yX0_putWaitingNotes cX0_putWaitingNotes 4 none, Cond.fieldLink RX0 21 "TableWright$Layout" "notePages" "[I", Cond.methodLink RX0 129 yX0_hasRoomForNextRow, Cond.instanceMethod yX0_hasRoomForNextRow, Cond.selects RX0 yX0_hasRoomForNextRow yX0_hasRoomForNextRow, Cond.code yX0_hasRoomForNextRow cX0_hasRoomForNextRow 5 (some .boolean), Cond.methodLink RX0 142 yX0_heightOfGroup, Cond.instanceMethod yX0_heightOfGroup, Cond.selects RX0 yX0_heightOfGroup yX0_heightOfGroup, Cond.code yX0_heightOfGroup cX0_heightOfGroup 5 (some .int), Cond.methodLink RX0 132 yX0_putNextRow, Cond.instanceMethod yX0_putNextRow, Cond.selects RX0 yX0_putNextRow yX0_putNextRow, Cond.code yX0_putNextRow cX0_putNextRow 2 none, Cond.fieldLink RX0 18 "TableWright$Layout" "rowPages" "[I", Cond.methodLink RX4 170 yX4_factOfTable, Cond.instanceMethod yX4_factOfTable, Cond.selects RX4 yX4_factOfTable yX4_factOfTable, Cond.code yX4_factOfTable cX4_factOfTable 3 (some .int), Cond.methodLink RX4 143 yX2_chosen]
def wsX4_many_r7 : List Cond := [Cond.instanceMethod yX2_chosen, Cond.selects RX2 yX2_chosen yX2_chosen, Cond.code yX2_chosen cX2_chosen 1 (some (.object "TableWright$Layout")), Cond.methodLink RX4 147 yX0_pagesOrNone, Cond.instanceMethod yX0_pagesOrNone, Cond.selects RX0 yX0_pagesOrNone yX0_pagesOrNone, Cond.code yX0_pagesOrNone cX0_pagesOrNone 1 (some .int), Cond.methodLink RX4 249 yX0_tableWidth, Cond.methodLink RX4 253 yX0_heightOfRows, Cond.instanceMethod yX0_heightOfRows, Cond.selects RX0 yX0_heightOfRows yX0_heightOfRows, Cond.code yX0_heightOfRows cX0_heightOfRows 4 (some .int), Cond.methodLink RX4 256 yX3_linesOfNotes, Cond.instanceMethod yX3_linesOfNotes, Cond.selects RX3 yX3_linesOfNotes yX3_linesOfNotes, Cond.code yX3_linesOfNotes cX3_linesOfNotes 3 (some .int), Cond.methodLink RX4 259 yX0_notesElsewhere, Cond.instanceMethod yX0_notesElsewhere, Cond.selects RX0 yX0_notesElsewhere yX0_notesElsewhere, Cond.code yX0_notesElsewhere cX0_notesElsewhere 4 (some .int)]
def wsX4_many : List Cond := .code yX4_many cX4_many 2 (some .int) :: ((wsX4_many_r1 ++ (wsX4_many_r2 ++ (wsX4_many_r3 ++ (wsX4_many_r4 ++ (wsX4_many_r5 ++ (wsX4_many_r6 ++ wsX4_many_r7)))))) ++ wsX40 ++ wsX30 ++ wsX10 ++ wsX20 ++ wsX00 ++ (vx_atS RX4 126 "java/lang/IllegalArgumentException" ["java/lang/RuntimeException", "java/lang/Exception"]).filter goodWord)
def wsX4_pagesIn_r1 : List Cond := [Cond.fieldLink RX4 43 "TableWright" "probe" "LTableWright$Layout;", Cond.fieldLink RX4 12 "TableWright" "sheet" "LTableWright$Sheet;", Cond.methodLink RX4 236 yX0_arrange, Cond.instanceMethod yX0_arrange, Cond.selects RX0 yX0_arrange yX0_arrange, Cond.initialized RX0, Cond.code yX0_arrange cX0_arrange 4 none, Cond.fieldLink RX0 39 "TableWright$Layout" "room" "I", Cond.fieldLink RX0 51 "TableWright$Layout" "isFit" "Z", Cond.fieldLink RX0 55 "TableWright$Layout" "pageCount" "I", Cond.fieldLink RX0 58 "TableWright$Layout" "nextRow" "I", Cond.fieldLink RX0 61 "TableWright$Layout" "nextNote" "I", Cond.methodLink RX0 43 yX0_isWidthFit, Cond.instanceMethod yX0_isWidthFit, Cond.selects RX0 yX0_isWidthFit yX0_isWidthFit, Cond.code yX0_isWidthFit cX0_isWidthFit 5 (some .boolean), Cond.fieldLink RX0 9 "TableWright$Layout" "widths" "[I", Cond.methodLink RX0 112 yX0_tableWidth, Cond.instanceMethod yX0_tableWidth, Cond.selects RX0 yX0_tableWidth yX0_tableWidth, Cond.code yX0_tableWidth cX0_tableWidth 4 (some .int), Cond.methodLink RX0 116 yX0_mostSpareColumn, Cond.instanceMethod yX0_mostSpareColumn, Cond.selects RX0 yX0_mostSpareColumn yX0_mostSpareColumn]
def wsX4_pagesIn_r2 : List Cond := [Cond.code yX0_mostSpareColumn cX0_mostSpareColumn 6 (some .int), Cond.methodLink RX0 47 yX0_areHeightsFit, Cond.instanceMethod yX0_areHeightsFit, Cond.selects RX0 yX0_areHeightsFit yX0_areHeightsFit, Cond.code yX0_areHeightsFit cX0_areHeightsFit 5 (some .boolean), Cond.methodLink RX0 104 Lib.Math.max.name, Cond.static Lib.Math.max.name, Cond.initialized "java/lang/Math", Cond.code Lib.Math.max.name Lib.Math.max.code 2 (some .int), Cond.fieldLink RX0 15 "TableWright$Layout" "heights" "[I", Cond.methodLink RX0 122 yX0_heightOfCell, Cond.instanceMethod yX0_heightOfCell, Cond.selects RX0 yX0_heightOfCell yX0_heightOfCell, Cond.code yX0_heightOfCell cX0_heightOfCell 6 (some .int), Cond.methodLink RX0 97 yX3_isSpanning, Cond.instanceMethod yX3_isSpanning, Cond.selects RX3 yX3_isSpanning yX3_isSpanning, Cond.initialized RX3, Cond.code yX3_isSpanning cX3_isSpanning 3 (some .boolean), Cond.fieldLink RX3 37 "TableWright$Sheet" "columnCount" "I", Cond.fieldLink RX3 26 "TableWright$Sheet" "rows" "[LTableWright$Row;", Cond.methodLink RX0 69 yX0_fillPage, Cond.instanceMethod yX0_fillPage, Cond.selects RX0 yX0_fillPage yX0_fillPage]
def wsX4_pagesIn_r3 : List Cond := [Cond.code yX0_fillPage cX0_fillPage 4 none, Cond.fieldLink RX0 24 "TableWright$Layout" "firstRows" "[I", Cond.fieldLink RX0 27 "TableWright$Layout" "rowsOn" "[I", Cond.fieldLink RX0 30 "TableWright$Layout" "notesOn" "[I", Cond.fieldLink RX0 33 "TableWright$Layout" "left" "[I", Cond.fieldLink RX0 36 "TableWright$Layout" "lastRows" "[I", Cond.methodLink RX0 126 yX0_putWaitingNotes, Cond.instanceMethod yX0_putWaitingNotes, Cond.selects RX0 yX0_putWaitingNotes yX0_putWaitingNotes, Cond.code yX0_putWaitingNotes cX0_putWaitingNotes 4 none, Cond.fieldLink RX0 21 "TableWright$Layout" "notePages" "[I", Cond.methodLink RX0 129 yX0_hasRoomForNextRow, Cond.instanceMethod yX0_hasRoomForNextRow, Cond.selects RX0 yX0_hasRoomForNextRow yX0_hasRoomForNextRow, Cond.code yX0_hasRoomForNextRow cX0_hasRoomForNextRow 5 (some .boolean), Cond.methodLink RX0 142 yX0_heightOfGroup, Cond.instanceMethod yX0_heightOfGroup, Cond.selects RX0 yX0_heightOfGroup yX0_heightOfGroup, Cond.code yX0_heightOfGroup cX0_heightOfGroup 5 (some .int), Cond.methodLink RX0 132 yX0_putNextRow, Cond.instanceMethod yX0_putNextRow, Cond.selects RX0 yX0_putNextRow yX0_putNextRow, Cond.code yX0_putNextRow cX0_putNextRow 2 none, Cond.fieldLink RX0 18 "TableWright$Layout" "rowPages" "[I"]
def wsX4_pagesIn_r4 : List Cond := [Cond.methodLink RX4 147 yX0_pagesOrNone, Cond.instanceMethod yX0_pagesOrNone, Cond.selects RX0 yX0_pagesOrNone yX0_pagesOrNone, Cond.code yX0_pagesOrNone cX0_pagesOrNone 1 (some .int)]
def wsX4_pagesIn : List Cond := .code yX4_pagesIn cX4_pagesIn 3 (some .int) :: ((wsX4_pagesIn_r1 ++ (wsX4_pagesIn_r2 ++ (wsX4_pagesIn_r3 ++ wsX4_pagesIn_r4))) ++ wsX40 ++ wsX00 ++ wsX30 ++ wsX10)
def wsX4_pagesWith_r1 : List Cond := [Cond.methodLink RX4 47 yX4_requireRange, Cond.static yX4_requireRange, Cond.initialized RX4, Cond.code yX4_requireRange cX4_requireRange 3 none, Cond.classLink RX4 122 "java/lang/IllegalArgumentException", Cond.initialized "java/lang/IllegalArgumentException", Cond.methodLink RX4 131 yX4_refresh, Cond.instanceMethod yX4_refresh, Cond.selects RX4 yX4_refresh yX4_refresh, Cond.code yX4_refresh cX4_refresh 1 none, Cond.fieldLink RX4 30 "TableWright" "isStale" "Z", Cond.fieldLink RX4 12 "TableWright" "sheet" "LTableWright$Sheet;", Cond.fieldLink RX4 19 "TableWright" "setting" "LTableWright$Setting;", Cond.fieldLink RX4 23 "TableWright" "wide" "I", Cond.fieldLink RX4 27 "TableWright" "high" "I", Cond.methodLink RX4 229 yX3_reckon, Cond.instanceMethod yX3_reckon, Cond.selects RX3 yX3_reckon yX3_reckon, Cond.initialized RX3, Cond.code yX3_reckon cX3_reckon 2 none, Cond.fieldLink RX3 37 "TableWright$Sheet" "columnCount" "I", Cond.fieldLink RX3 9 "TableWright$Sheet" "kinds" "[I", Cond.methodLink RX3 61 yX3_reckonHidden, Cond.instanceMethod yX3_reckonHidden]
def wsX4_pagesWith_r2 : List Cond := [Cond.selects RX3 yX3_reckonHidden yX3_reckonHidden, Cond.code yX3_reckonHidden cX3_reckonHidden 5 none, Cond.fieldLink RX3 41 "TableWright$Sheet" "rowCount" "I", Cond.fieldLink RX3 26 "TableWright$Sheet" "rows" "[LTableWright$Row;", Cond.methodLink RX3 65 yX3_reckonNumbers, Cond.instanceMethod yX3_reckonNumbers, Cond.selects RX3 yX3_reckonNumbers yX3_reckonNumbers, Cond.code yX3_reckonNumbers cX3_reckonNumbers 9 none, Cond.fieldLink RX3 18 "TableWright$Sheet" "firsts" "[I", Cond.fieldLink RX3 21 "TableWright$Sheet" "seconds" "[I", Cond.methodLink RX3 80 yX3_resultOf, Cond.static yX3_resultOf, Cond.code yX3_resultOf cX3_resultOf 7 (some .int), Cond.constantLong RX3 84 (-99999), Cond.constantLong RX3 86 (99999), Cond.methodLink RX3 88 Lib.MathLoose.min_long.x, Cond.static Lib.MathLoose.min_long.x, Cond.initialized "java/lang/Math", Cond.code Lib.MathLoose.min_long.x Lib.MathLoose.min_long.code 4 (some .long), Cond.methodLink RX3 94 Lib.MathLoose.max_long.x, Cond.static Lib.MathLoose.max_long.x, Cond.code Lib.MathLoose.max_long.x Lib.MathLoose.max_long.code 4 (some .long), Cond.methodLink RX3 68 yX3_measureText, Cond.instanceMethod yX3_measureText]
def wsX4_pagesWith_r3 : List Cond := [Cond.selects RX3 yX3_measureText yX3_measureText, Cond.code yX3_measureText cX3_measureText 5 none, Cond.fieldLink RX3 15 "TableWright$Sheet" "titles" "[I", Cond.methodLink RX3 104 Lib.Math.max.name, Cond.static Lib.Math.max.name, Cond.code Lib.Math.max.name Lib.Math.max.code 2 (some .int), Cond.fieldLink RX3 30 "TableWright$Sheet" "leasts" "[I", Cond.fieldLink RX3 33 "TableWright$Sheet" "bests" "[I", Cond.methodLink RX3 110 Lib.Math.min.name, Cond.static Lib.Math.min.name, Cond.code Lib.Math.min.name Lib.Math.min.code 2 (some .int), Cond.methodLink RX3 97 yX3_isSpanning, Cond.instanceMethod yX3_isSpanning, Cond.selects RX3 yX3_isSpanning yX3_isSpanning, Cond.code yX3_isSpanning cX3_isSpanning 3 (some .boolean), Cond.methodLink RX3 71 yX3_measureNumbers, Cond.instanceMethod yX3_measureNumbers, Cond.selects RX3 yX3_measureNumbers yX3_measureNumbers, Cond.code yX3_measureNumbers cX3_measureNumbers 4 none, Cond.methodLink RX3 112 yX3_sizeOf, Cond.static yX3_sizeOf, Cond.code yX3_sizeOf cX3_sizeOf 3 (some .int), Cond.methodLink RX4 232 yX2_arrange, Cond.instanceMethod yX2_arrange]
def wsX4_pagesWith_r4 : List Cond := [Cond.selects RX2 yX2_arrange yX2_arrange, Cond.initialized RX2, Cond.code yX2_arrange cX2_arrange 5 none, Cond.fieldLink RX2 10 "TableWright$Setting" "upright" "LTableWright$Layout;", Cond.fieldLink RX2 16 "TableWright$Setting" "turned" "LTableWright$Layout;", Cond.fieldLink RX2 31 "TableWright$Setting" "isTurned" "Z", Cond.methodLink RX2 19 yX0_arrange, Cond.instanceMethod yX0_arrange, Cond.selects RX0 yX0_arrange yX0_arrange, Cond.initialized RX0, Cond.code yX0_arrange cX0_arrange 4 none, Cond.fieldLink RX0 39 "TableWright$Layout" "room" "I", Cond.fieldLink RX0 51 "TableWright$Layout" "isFit" "Z", Cond.fieldLink RX0 55 "TableWright$Layout" "pageCount" "I", Cond.fieldLink RX0 58 "TableWright$Layout" "nextRow" "I", Cond.fieldLink RX0 61 "TableWright$Layout" "nextNote" "I", Cond.methodLink RX0 43 yX0_isWidthFit, Cond.instanceMethod yX0_isWidthFit, Cond.selects RX0 yX0_isWidthFit yX0_isWidthFit, Cond.code yX0_isWidthFit cX0_isWidthFit 5 (some .boolean), Cond.fieldLink RX0 9 "TableWright$Layout" "widths" "[I", Cond.methodLink RX0 112 yX0_tableWidth, Cond.instanceMethod yX0_tableWidth, Cond.selects RX0 yX0_tableWidth yX0_tableWidth]
def wsX4_pagesWith_r5 : List Cond := [Cond.code yX0_tableWidth cX0_tableWidth 4 (some .int), Cond.methodLink RX0 116 yX0_mostSpareColumn, Cond.instanceMethod yX0_mostSpareColumn, Cond.selects RX0 yX0_mostSpareColumn yX0_mostSpareColumn, Cond.code yX0_mostSpareColumn cX0_mostSpareColumn 6 (some .int), Cond.methodLink RX0 47 yX0_areHeightsFit, Cond.instanceMethod yX0_areHeightsFit, Cond.selects RX0 yX0_areHeightsFit yX0_areHeightsFit, Cond.code yX0_areHeightsFit cX0_areHeightsFit 5 (some .boolean), Cond.methodLink RX0 104 Lib.Math.max.name, Cond.fieldLink RX0 15 "TableWright$Layout" "heights" "[I", Cond.methodLink RX0 122 yX0_heightOfCell, Cond.instanceMethod yX0_heightOfCell, Cond.selects RX0 yX0_heightOfCell yX0_heightOfCell, Cond.code yX0_heightOfCell cX0_heightOfCell 6 (some .int), Cond.methodLink RX0 97 yX3_isSpanning, Cond.methodLink RX0 69 yX0_fillPage, Cond.instanceMethod yX0_fillPage, Cond.selects RX0 yX0_fillPage yX0_fillPage, Cond.code yX0_fillPage cX0_fillPage 4 none, Cond.fieldLink RX0 24 "TableWright$Layout" "firstRows" "[I", Cond.fieldLink RX0 27 "TableWright$Layout" "rowsOn" "[I", Cond.fieldLink RX0 30 "TableWright$Layout" "notesOn" "[I", Cond.fieldLink RX0 33 "TableWright$Layout" "left" "[I"]
def wsX4_pagesWith_r6 : List Cond := [Cond.fieldLink RX0 36 "TableWright$Layout" "lastRows" "[I", Cond.methodLink RX0 126 yX0_putWaitingNotes, Cond.instanceMethod yX0_putWaitingNotes, Cond.selects RX0 yX0_putWaitingNotes yX0_putWaitingNotes, Cond.code yX0_putWaitingNotes cX0_putWaitingNotes 4 none, Cond.fieldLink RX0 21 "TableWright$Layout" "notePages" "[I", Cond.methodLink RX0 129 yX0_hasRoomForNextRow, Cond.instanceMethod yX0_hasRoomForNextRow, Cond.selects RX0 yX0_hasRoomForNextRow yX0_hasRoomForNextRow, Cond.code yX0_hasRoomForNextRow cX0_hasRoomForNextRow 5 (some .boolean), Cond.methodLink RX0 142 yX0_heightOfGroup, Cond.instanceMethod yX0_heightOfGroup, Cond.selects RX0 yX0_heightOfGroup yX0_heightOfGroup, Cond.code yX0_heightOfGroup cX0_heightOfGroup 5 (some .int), Cond.methodLink RX0 132 yX0_putNextRow, Cond.instanceMethod yX0_putNextRow, Cond.selects RX0 yX0_putNextRow yX0_putNextRow, Cond.code yX0_putNextRow cX0_putNextRow 2 none, Cond.fieldLink RX0 18 "TableWright$Layout" "rowPages" "[I", Cond.methodLink RX4 180 yX4_pagesIn, Cond.instanceMethod yX4_pagesIn, Cond.selects RX4 yX4_pagesIn yX4_pagesIn, Cond.code yX4_pagesIn cX4_pagesIn 3 (some .int), Cond.fieldLink RX4 43 "TableWright" "probe" "LTableWright$Layout;"]
def wsX4_pagesWith_r7 : List Cond := [Cond.methodLink RX4 236 yX0_arrange, Cond.methodLink RX4 147 yX0_pagesOrNone, Cond.instanceMethod yX0_pagesOrNone, Cond.selects RX0 yX0_pagesOrNone yX0_pagesOrNone, Cond.code yX0_pagesOrNone cX0_pagesOrNone 1 (some .int)]
def wsX4_pagesWith : List Cond := .code yX4_pagesWith cX4_pagesWith 4 (some .int) :: ((wsX4_pagesWith_r1 ++ (wsX4_pagesWith_r2 ++ (wsX4_pagesWith_r3 ++ (wsX4_pagesWith_r4 ++ (wsX4_pagesWith_r5 ++ (wsX4_pagesWith_r6 ++ wsX4_pagesWith_r7)))))) ++ wsX40 ++ wsX30 ++ wsX10 ++ wsX20 ++ wsX00 ++ (vx_atS RX4 126 "java/lang/IllegalArgumentException" ["java/lang/RuntimeException", "java/lang/Exception"]).filter goodWord)
def wsX4_layoutOfTrial_r1 : List Cond := [Cond.fieldLink RX4 34 "TableWright" "trialSheet" "LTableWright$Sheet;", Cond.fieldLink RX4 37 "TableWright" "trialSetting" "LTableWright$Setting;", Cond.fieldLink RX4 23 "TableWright" "wide" "I", Cond.fieldLink RX4 27 "TableWright" "high" "I", Cond.methodLink RX4 229 yX3_reckon, Cond.instanceMethod yX3_reckon, Cond.selects RX3 yX3_reckon yX3_reckon, Cond.initialized RX3, Cond.code yX3_reckon cX3_reckon 2 none, Cond.fieldLink RX3 37 "TableWright$Sheet" "columnCount" "I", Cond.fieldLink RX3 9 "TableWright$Sheet" "kinds" "[I", Cond.methodLink RX3 61 yX3_reckonHidden, Cond.instanceMethod yX3_reckonHidden, Cond.selects RX3 yX3_reckonHidden yX3_reckonHidden, Cond.code yX3_reckonHidden cX3_reckonHidden 5 none, Cond.fieldLink RX3 41 "TableWright$Sheet" "rowCount" "I", Cond.fieldLink RX3 26 "TableWright$Sheet" "rows" "[LTableWright$Row;", Cond.methodLink RX3 65 yX3_reckonNumbers, Cond.instanceMethod yX3_reckonNumbers, Cond.selects RX3 yX3_reckonNumbers yX3_reckonNumbers, Cond.code yX3_reckonNumbers cX3_reckonNumbers 9 none, Cond.fieldLink RX3 18 "TableWright$Sheet" "firsts" "[I", Cond.fieldLink RX3 21 "TableWright$Sheet" "seconds" "[I", Cond.methodLink RX3 80 yX3_resultOf]
def wsX4_layoutOfTrial_r2 : List Cond := [Cond.static yX3_resultOf, Cond.code yX3_resultOf cX3_resultOf 7 (some .int), Cond.constantLong RX3 84 (-99999), Cond.constantLong RX3 86 (99999), Cond.methodLink RX3 88 Lib.MathLoose.min_long.x, Cond.static Lib.MathLoose.min_long.x, Cond.initialized "java/lang/Math", Cond.code Lib.MathLoose.min_long.x Lib.MathLoose.min_long.code 4 (some .long), Cond.methodLink RX3 94 Lib.MathLoose.max_long.x, Cond.static Lib.MathLoose.max_long.x, Cond.code Lib.MathLoose.max_long.x Lib.MathLoose.max_long.code 4 (some .long), Cond.methodLink RX3 68 yX3_measureText, Cond.instanceMethod yX3_measureText, Cond.selects RX3 yX3_measureText yX3_measureText, Cond.code yX3_measureText cX3_measureText 5 none, Cond.fieldLink RX3 15 "TableWright$Sheet" "titles" "[I", Cond.methodLink RX3 104 Lib.Math.max.name, Cond.static Lib.Math.max.name, Cond.code Lib.Math.max.name Lib.Math.max.code 2 (some .int), Cond.fieldLink RX3 30 "TableWright$Sheet" "leasts" "[I", Cond.fieldLink RX3 33 "TableWright$Sheet" "bests" "[I", Cond.methodLink RX3 110 Lib.Math.min.name, Cond.static Lib.Math.min.name, Cond.code Lib.Math.min.name Lib.Math.min.code 2 (some .int)]
def wsX4_layoutOfTrial_r3 : List Cond := [Cond.methodLink RX3 97 yX3_isSpanning, Cond.instanceMethod yX3_isSpanning, Cond.selects RX3 yX3_isSpanning yX3_isSpanning, Cond.code yX3_isSpanning cX3_isSpanning 3 (some .boolean), Cond.methodLink RX3 71 yX3_measureNumbers, Cond.instanceMethod yX3_measureNumbers, Cond.selects RX3 yX3_measureNumbers yX3_measureNumbers, Cond.code yX3_measureNumbers cX3_measureNumbers 4 none, Cond.methodLink RX3 112 yX3_sizeOf, Cond.static yX3_sizeOf, Cond.code yX3_sizeOf cX3_sizeOf 3 (some .int), Cond.methodLink RX4 232 yX2_arrange, Cond.instanceMethod yX2_arrange, Cond.selects RX2 yX2_arrange yX2_arrange, Cond.initialized RX2, Cond.code yX2_arrange cX2_arrange 5 none, Cond.fieldLink RX2 10 "TableWright$Setting" "upright" "LTableWright$Layout;", Cond.fieldLink RX2 16 "TableWright$Setting" "turned" "LTableWright$Layout;", Cond.fieldLink RX2 31 "TableWright$Setting" "isTurned" "Z", Cond.methodLink RX2 19 yX0_arrange, Cond.instanceMethod yX0_arrange, Cond.selects RX0 yX0_arrange yX0_arrange, Cond.initialized RX0, Cond.code yX0_arrange cX0_arrange 4 none]
def wsX4_layoutOfTrial_r4 : List Cond := [Cond.fieldLink RX0 39 "TableWright$Layout" "room" "I", Cond.fieldLink RX0 51 "TableWright$Layout" "isFit" "Z", Cond.fieldLink RX0 55 "TableWright$Layout" "pageCount" "I", Cond.fieldLink RX0 58 "TableWright$Layout" "nextRow" "I", Cond.fieldLink RX0 61 "TableWright$Layout" "nextNote" "I", Cond.methodLink RX0 43 yX0_isWidthFit, Cond.instanceMethod yX0_isWidthFit, Cond.selects RX0 yX0_isWidthFit yX0_isWidthFit, Cond.code yX0_isWidthFit cX0_isWidthFit 5 (some .boolean), Cond.fieldLink RX0 9 "TableWright$Layout" "widths" "[I", Cond.methodLink RX0 112 yX0_tableWidth, Cond.instanceMethod yX0_tableWidth, Cond.selects RX0 yX0_tableWidth yX0_tableWidth, Cond.code yX0_tableWidth cX0_tableWidth 4 (some .int), Cond.methodLink RX0 116 yX0_mostSpareColumn, Cond.instanceMethod yX0_mostSpareColumn, Cond.selects RX0 yX0_mostSpareColumn yX0_mostSpareColumn, Cond.code yX0_mostSpareColumn cX0_mostSpareColumn 6 (some .int), Cond.methodLink RX0 47 yX0_areHeightsFit, Cond.instanceMethod yX0_areHeightsFit, Cond.selects RX0 yX0_areHeightsFit yX0_areHeightsFit, Cond.code yX0_areHeightsFit cX0_areHeightsFit 5 (some .boolean), Cond.methodLink RX0 104 Lib.Math.max.name, Cond.fieldLink RX0 15 "TableWright$Layout" "heights" "[I"]
def wsX4_layoutOfTrial_r5 : List Cond := [Cond.methodLink RX0 122 yX0_heightOfCell, Cond.instanceMethod yX0_heightOfCell, Cond.selects RX0 yX0_heightOfCell yX0_heightOfCell, Cond.code yX0_heightOfCell cX0_heightOfCell 6 (some .int), Cond.methodLink RX0 97 yX3_isSpanning, Cond.methodLink RX0 69 yX0_fillPage, Cond.instanceMethod yX0_fillPage, Cond.selects RX0 yX0_fillPage yX0_fillPage, Cond.code yX0_fillPage cX0_fillPage 4 none, Cond.fieldLink RX0 24 "TableWright$Layout" "firstRows" "[I", Cond.fieldLink RX0 27 "TableWright$Layout" "rowsOn" "[I", Cond.fieldLink RX0 30 "TableWright$Layout" "notesOn" "[I", Cond.fieldLink RX0 33 "TableWright$Layout" "left" "[I", Cond.fieldLink RX0 36 "TableWright$Layout" "lastRows" "[I", Cond.methodLink RX0 126 yX0_putWaitingNotes, Cond.instanceMethod yX0_putWaitingNotes, Cond.selects RX0 yX0_putWaitingNotes yX0_putWaitingNotes, Cond.code yX0_putWaitingNotes cX0_putWaitingNotes 4 none, Cond.fieldLink RX0 21 "TableWright$Layout" "notePages" "[I", Cond.methodLink RX0 129 yX0_hasRoomForNextRow, Cond.instanceMethod yX0_hasRoomForNextRow, Cond.selects RX0 yX0_hasRoomForNextRow yX0_hasRoomForNextRow, Cond.code yX0_hasRoomForNextRow cX0_hasRoomForNextRow 5 (some .boolean), Cond.methodLink RX0 142 yX0_heightOfGroup]
def wsX4_layoutOfTrial_r6 : List Cond := [Cond.instanceMethod yX0_heightOfGroup, Cond.selects RX0 yX0_heightOfGroup yX0_heightOfGroup, Cond.code yX0_heightOfGroup cX0_heightOfGroup 5 (some .int), Cond.methodLink RX0 132 yX0_putNextRow, Cond.instanceMethod yX0_putNextRow, Cond.selects RX0 yX0_putNextRow yX0_putNextRow, Cond.code yX0_putNextRow cX0_putNextRow 2 none, Cond.fieldLink RX0 18 "TableWright$Layout" "rowPages" "[I", Cond.methodLink RX4 143 yX2_chosen, Cond.instanceMethod yX2_chosen, Cond.selects RX2 yX2_chosen yX2_chosen, Cond.code yX2_chosen cX2_chosen 1 (some (.object "TableWright$Layout"))]
def wsX4_layoutOfTrial : List Cond := .code yX4_layoutOfTrial cX4_layoutOfTrial 1 (some (.object "TableWright$Layout")) :: ((wsX4_layoutOfTrial_r1 ++ (wsX4_layoutOfTrial_r2 ++ (wsX4_layoutOfTrial_r3 ++ (wsX4_layoutOfTrial_r4 ++ (wsX4_layoutOfTrial_r5 ++ wsX4_layoutOfTrial_r6))))) ++ wsX40 ++ wsX30 ++ wsX10 ++ wsX20 ++ wsX00)
def wsX4_isPageOther : List Cond := .code yX4_isPageOther cX4_isPageOther 5 (some .boolean) :: ([.fieldLink RX4 12 "TableWright" "sheet" "LTableWright$Sheet;", .fieldLink RX4 34 "TableWright" "trialSheet" "LTableWright$Sheet;", .methodLink RX4 166 yX0_carriedOn, .instanceMethod yX0_carriedOn, .selects RX0 yX0_carriedOn yX0_carriedOn, .initialized RX0, .code yX0_carriedOn cX0_carriedOn 4 (some .int), .fieldLink RX0 36 "TableWright$Layout" "lastRows" "[I", .methodLink RX0 76 yX3_sumUpTo, .instanceMethod yX3_sumUpTo, .selects RX3 yX3_sumUpTo yX3_sumUpTo, .initialized RX3, .code yX3_sumUpTo cX3_sumUpTo 3 (some .int), .fieldLink RX3 9 "TableWright$Sheet" "kinds" "[I", .fieldLink RX3 26 "TableWright$Sheet" "rows" "[LTableWright$Row;"] ++ wsX00 ++ wsX40 ++ wsX30 ++ wsX10)
def wsX4_changedBy_r1 : List Cond := [Cond.fieldLink RX4 19 "TableWright" "setting" "LTableWright$Setting;", Cond.fieldLink RX4 34 "TableWright" "trialSheet" "LTableWright$Sheet;", Cond.fieldLink RX4 12 "TableWright" "sheet" "LTableWright$Sheet;", Cond.methodLink RX4 190 Lib.Math.max.name, Cond.static Lib.Math.max.name, Cond.initialized "java/lang/Math", Cond.code Lib.Math.max.name Lib.Math.max.code 2 (some .int), Cond.methodLink RX4 92 yX4_requireNumberCell, Cond.instanceMethod yX4_requireNumberCell, Cond.selects RX4 yX4_requireNumberCell yX4_requireNumberCell, Cond.initialized RX4, Cond.code yX4_requireNumberCell cX4_requireNumberCell 4 none, Cond.methodLink RX4 86 yX4_requireRow, Cond.instanceMethod yX4_requireRow, Cond.selects RX4 yX4_requireRow yX4_requireRow, Cond.code yX4_requireRow cX4_requireRow 2 none, Cond.classLink RX4 211 "java/lang/IndexOutOfBoundsException", Cond.initialized "java/lang/IndexOutOfBoundsException", Cond.methodLink RX4 58 yX4_requireColumn, Cond.instanceMethod yX4_requireColumn, Cond.selects RX4 yX4_requireColumn yX4_requireColumn, Cond.code yX4_requireColumn cX4_requireColumn 2 none, Cond.methodLink RX4 104 yX4_requireKind, Cond.instanceMethod yX4_requireKind]
def wsX4_changedBy_r2 : List Cond := [Cond.selects RX4 yX4_requireKind yX4_requireKind, Cond.code yX4_requireKind cX4_requireKind 3 none, Cond.classLink RX4 122 "java/lang/IllegalArgumentException", Cond.initialized "java/lang/IllegalArgumentException", Cond.methodLink RX4 47 yX4_requireRange, Cond.static yX4_requireRange, Cond.code yX4_requireRange cX4_requireRange 3 none, Cond.methodLink RX4 131 yX4_refresh, Cond.instanceMethod yX4_refresh, Cond.selects RX4 yX4_refresh yX4_refresh, Cond.code yX4_refresh cX4_refresh 1 none, Cond.fieldLink RX4 30 "TableWright" "isStale" "Z", Cond.fieldLink RX4 23 "TableWright" "wide" "I", Cond.fieldLink RX4 27 "TableWright" "high" "I", Cond.methodLink RX4 229 yX3_reckon, Cond.instanceMethod yX3_reckon, Cond.selects RX3 yX3_reckon yX3_reckon, Cond.initialized RX3, Cond.code yX3_reckon cX3_reckon 2 none, Cond.fieldLink RX3 37 "TableWright$Sheet" "columnCount" "I", Cond.fieldLink RX3 9 "TableWright$Sheet" "kinds" "[I", Cond.methodLink RX3 61 yX3_reckonHidden, Cond.instanceMethod yX3_reckonHidden, Cond.selects RX3 yX3_reckonHidden yX3_reckonHidden]
def wsX4_changedBy_r3 : List Cond := [Cond.code yX3_reckonHidden cX3_reckonHidden 5 none, Cond.fieldLink RX3 41 "TableWright$Sheet" "rowCount" "I", Cond.fieldLink RX3 26 "TableWright$Sheet" "rows" "[LTableWright$Row;", Cond.methodLink RX3 65 yX3_reckonNumbers, Cond.instanceMethod yX3_reckonNumbers, Cond.selects RX3 yX3_reckonNumbers yX3_reckonNumbers, Cond.code yX3_reckonNumbers cX3_reckonNumbers 9 none, Cond.fieldLink RX3 18 "TableWright$Sheet" "firsts" "[I", Cond.fieldLink RX3 21 "TableWright$Sheet" "seconds" "[I", Cond.methodLink RX3 80 yX3_resultOf, Cond.static yX3_resultOf, Cond.code yX3_resultOf cX3_resultOf 7 (some .int), Cond.constantLong RX3 84 (-99999), Cond.constantLong RX3 86 (99999), Cond.methodLink RX3 88 Lib.MathLoose.min_long.x, Cond.static Lib.MathLoose.min_long.x, Cond.code Lib.MathLoose.min_long.x Lib.MathLoose.min_long.code 4 (some .long), Cond.methodLink RX3 94 Lib.MathLoose.max_long.x, Cond.static Lib.MathLoose.max_long.x, Cond.code Lib.MathLoose.max_long.x Lib.MathLoose.max_long.code 4 (some .long), Cond.methodLink RX3 68 yX3_measureText, Cond.instanceMethod yX3_measureText, Cond.selects RX3 yX3_measureText yX3_measureText, Cond.code yX3_measureText cX3_measureText 5 none]
def wsX4_changedBy_r4 : List Cond := [Cond.fieldLink RX3 15 "TableWright$Sheet" "titles" "[I", Cond.methodLink RX3 104 Lib.Math.max.name, Cond.fieldLink RX3 30 "TableWright$Sheet" "leasts" "[I", Cond.fieldLink RX3 33 "TableWright$Sheet" "bests" "[I", Cond.methodLink RX3 110 Lib.Math.min.name, Cond.static Lib.Math.min.name, Cond.code Lib.Math.min.name Lib.Math.min.code 2 (some .int), Cond.methodLink RX3 97 yX3_isSpanning, Cond.instanceMethod yX3_isSpanning, Cond.selects RX3 yX3_isSpanning yX3_isSpanning, Cond.code yX3_isSpanning cX3_isSpanning 3 (some .boolean), Cond.methodLink RX3 71 yX3_measureNumbers, Cond.instanceMethod yX3_measureNumbers, Cond.selects RX3 yX3_measureNumbers yX3_measureNumbers, Cond.code yX3_measureNumbers cX3_measureNumbers 4 none, Cond.methodLink RX3 112 yX3_sizeOf, Cond.static yX3_sizeOf, Cond.code yX3_sizeOf cX3_sizeOf 3 (some .int), Cond.methodLink RX4 232 yX2_arrange, Cond.instanceMethod yX2_arrange, Cond.selects RX2 yX2_arrange yX2_arrange, Cond.initialized RX2, Cond.code yX2_arrange cX2_arrange 5 none, Cond.fieldLink RX2 10 "TableWright$Setting" "upright" "LTableWright$Layout;"]
def wsX4_changedBy_r5 : List Cond := [Cond.fieldLink RX2 16 "TableWright$Setting" "turned" "LTableWright$Layout;", Cond.fieldLink RX2 31 "TableWright$Setting" "isTurned" "Z", Cond.methodLink RX2 19 yX0_arrange, Cond.instanceMethod yX0_arrange, Cond.selects RX0 yX0_arrange yX0_arrange, Cond.initialized RX0, Cond.code yX0_arrange cX0_arrange 4 none, Cond.fieldLink RX0 39 "TableWright$Layout" "room" "I", Cond.fieldLink RX0 51 "TableWright$Layout" "isFit" "Z", Cond.fieldLink RX0 55 "TableWright$Layout" "pageCount" "I", Cond.fieldLink RX0 58 "TableWright$Layout" "nextRow" "I", Cond.fieldLink RX0 61 "TableWright$Layout" "nextNote" "I", Cond.methodLink RX0 43 yX0_isWidthFit, Cond.instanceMethod yX0_isWidthFit, Cond.selects RX0 yX0_isWidthFit yX0_isWidthFit, Cond.code yX0_isWidthFit cX0_isWidthFit 5 (some .boolean), Cond.fieldLink RX0 9 "TableWright$Layout" "widths" "[I", Cond.methodLink RX0 112 yX0_tableWidth, Cond.instanceMethod yX0_tableWidth, Cond.selects RX0 yX0_tableWidth yX0_tableWidth, Cond.code yX0_tableWidth cX0_tableWidth 4 (some .int), Cond.methodLink RX0 116 yX0_mostSpareColumn, Cond.instanceMethod yX0_mostSpareColumn, Cond.selects RX0 yX0_mostSpareColumn yX0_mostSpareColumn]
def wsX4_changedBy_r6 : List Cond := [Cond.code yX0_mostSpareColumn cX0_mostSpareColumn 6 (some .int), Cond.methodLink RX0 47 yX0_areHeightsFit, Cond.instanceMethod yX0_areHeightsFit, Cond.selects RX0 yX0_areHeightsFit yX0_areHeightsFit, Cond.code yX0_areHeightsFit cX0_areHeightsFit 5 (some .boolean), Cond.methodLink RX0 104 Lib.Math.max.name, Cond.fieldLink RX0 15 "TableWright$Layout" "heights" "[I", Cond.methodLink RX0 122 yX0_heightOfCell, Cond.instanceMethod yX0_heightOfCell, Cond.selects RX0 yX0_heightOfCell yX0_heightOfCell, Cond.code yX0_heightOfCell cX0_heightOfCell 6 (some .int), Cond.methodLink RX0 97 yX3_isSpanning, Cond.methodLink RX0 69 yX0_fillPage, Cond.instanceMethod yX0_fillPage, Cond.selects RX0 yX0_fillPage yX0_fillPage, Cond.code yX0_fillPage cX0_fillPage 4 none, Cond.fieldLink RX0 24 "TableWright$Layout" "firstRows" "[I", Cond.fieldLink RX0 27 "TableWright$Layout" "rowsOn" "[I", Cond.fieldLink RX0 30 "TableWright$Layout" "notesOn" "[I", Cond.fieldLink RX0 33 "TableWright$Layout" "left" "[I", Cond.fieldLink RX0 36 "TableWright$Layout" "lastRows" "[I", Cond.methodLink RX0 126 yX0_putWaitingNotes, Cond.instanceMethod yX0_putWaitingNotes, Cond.selects RX0 yX0_putWaitingNotes yX0_putWaitingNotes]
def wsX4_changedBy_r7 : List Cond := [Cond.code yX0_putWaitingNotes cX0_putWaitingNotes 4 none, Cond.fieldLink RX0 21 "TableWright$Layout" "notePages" "[I", Cond.methodLink RX0 129 yX0_hasRoomForNextRow, Cond.instanceMethod yX0_hasRoomForNextRow, Cond.selects RX0 yX0_hasRoomForNextRow yX0_hasRoomForNextRow, Cond.code yX0_hasRoomForNextRow cX0_hasRoomForNextRow 5 (some .boolean), Cond.methodLink RX0 142 yX0_heightOfGroup, Cond.instanceMethod yX0_heightOfGroup, Cond.selects RX0 yX0_heightOfGroup yX0_heightOfGroup, Cond.code yX0_heightOfGroup cX0_heightOfGroup 5 (some .int), Cond.methodLink RX0 132 yX0_putNextRow, Cond.instanceMethod yX0_putNextRow, Cond.selects RX0 yX0_putNextRow yX0_putNextRow, Cond.code yX0_putNextRow cX0_putNextRow 2 none, Cond.fieldLink RX0 18 "TableWright$Layout" "rowPages" "[I", Cond.methodLink RX4 143 yX2_chosen, Cond.instanceMethod yX2_chosen, Cond.selects RX2 yX2_chosen yX2_chosen, Cond.code yX2_chosen cX2_chosen 1 (some (.object "TableWright$Layout")), Cond.methodLink RX4 183 yX3_copyFrom, Cond.instanceMethod yX3_copyFrom, Cond.selects RX3 yX3_copyFrom yX3_copyFrom, Cond.code yX3_copyFrom cX3_copyFrom 3 none, Cond.methodLink RX3 47 yX1_copyFrom]
def wsX4_changedBy_r8 : List Cond := [Cond.instanceMethod yX1_copyFrom, Cond.selects RX1 yX1_copyFrom yX1_copyFrom, Cond.initialized RX1, Cond.code yX1_copyFrom cX1_copyFrom 3 none, Cond.fieldLink RX1 9 "TableWright$Row" "values" "[I", Cond.fieldLink RX1 15 "TableWright$Row" "lengths" "[I", Cond.fieldLink RX1 18 "TableWright$Row" "words" "[I", Cond.fieldLink RX1 21 "TableWright$Row" "isToSpan" "[Z", Cond.fieldLink RX1 31 "TableWright$Row" "noteLines" "I", Cond.fieldLink RX1 35 "TableWright$Row" "isKept" "Z", Cond.methodLink RX4 187 yX4_layoutOfTrial, Cond.instanceMethod yX4_layoutOfTrial, Cond.selects RX4 yX4_layoutOfTrial yX4_layoutOfTrial, Cond.code yX4_layoutOfTrial cX4_layoutOfTrial 1 (some (.object "TableWright$Layout")), Cond.fieldLink RX4 37 "TableWright" "trialSetting" "LTableWright$Setting;", Cond.methodLink RX4 193 yX4_isPageOther, Cond.instanceMethod yX4_isPageOther, Cond.selects RX4 yX4_isPageOther yX4_isPageOther, Cond.code yX4_isPageOther cX4_isPageOther 5 (some .boolean), Cond.methodLink RX4 166 yX0_carriedOn, Cond.instanceMethod yX0_carriedOn, Cond.selects RX0 yX0_carriedOn yX0_carriedOn, Cond.code yX0_carriedOn cX0_carriedOn 4 (some .int), Cond.methodLink RX0 76 yX3_sumUpTo]
def wsX4_changedBy_r9 : List Cond := [Cond.instanceMethod yX3_sumUpTo, Cond.selects RX3 yX3_sumUpTo yX3_sumUpTo, Cond.code yX3_sumUpTo cX3_sumUpTo 3 (some .int)]
def wsX4_changedBy : List Cond := .code yX4_changedBy cX4_changedBy 10 (some .int) :: ((wsX4_changedBy_r1 ++ (wsX4_changedBy_r2 ++ (wsX4_changedBy_r3 ++ (wsX4_changedBy_r4 ++ (wsX4_changedBy_r5 ++ (wsX4_changedBy_r6 ++ (wsX4_changedBy_r7 ++ (wsX4_changedBy_r8 ++ wsX4_changedBy_r9)))))))) ++ wsX40 ++ wsX30 ++ wsX10 ++ wsX00 ++ wsX20 ++ (vx_atS RX4 215 "java/lang/IndexOutOfBoundsException" ["java/lang/RuntimeException", "java/lang/Exception"]).filter goodWord ++ (vx_atS RX4 126 "java/lang/IllegalArgumentException" ["java/lang/RuntimeException", "java/lang/Exception"]).filter goodWord)
def wsX4_digestWith : List Cond := .code yX4_digestWith cX4_digestWith 3 (some .long) :: ([.constantLong RX4 293 (31)])
def wsX4_digestWithRow_r1 : List Cond := [Cond.fieldLink RX4 12 "TableWright" "sheet" "LTableWright$Sheet;", Cond.methodLink RX4 157 yX4_factOfRow, Cond.instanceMethod yX4_factOfRow, Cond.selects RX4 yX4_factOfRow yX4_factOfRow, Cond.initialized RX4, Cond.code yX4_factOfRow cX4_factOfRow 4 (some .int), Cond.fieldLink RX4 19 "TableWright" "setting" "LTableWright$Setting;", Cond.methodLink RX4 143 yX2_chosen, Cond.instanceMethod yX2_chosen, Cond.selects RX2 yX2_chosen yX2_chosen, Cond.initialized RX2, Cond.code yX2_chosen cX2_chosen 1 (some (.object "TableWright$Layout")), Cond.fieldLink RX2 31 "TableWright$Setting" "isTurned" "Z", Cond.fieldLink RX2 16 "TableWright$Setting" "turned" "LTableWright$Layout;", Cond.fieldLink RX2 10 "TableWright$Setting" "upright" "LTableWright$Layout;", Cond.methodLink RX4 199 yX4_digestWith, Cond.static yX4_digestWith, Cond.code yX4_digestWith cX4_digestWith 3 (some .long), Cond.constantLong RX4 293 (31), Cond.methodLink RX4 150 yX4_factOfCell, Cond.instanceMethod yX4_factOfCell, Cond.selects RX4 yX4_factOfCell yX4_factOfCell, Cond.code yX4_factOfCell cX4_factOfCell 6 (some .int), Cond.methodLink RX4 283 yX0_heightOfCell]
def wsX4_digestWithRow_r2 : List Cond := [Cond.instanceMethod yX0_heightOfCell, Cond.selects RX0 yX0_heightOfCell yX0_heightOfCell, Cond.initialized RX0, Cond.code yX0_heightOfCell cX0_heightOfCell 6 (some .int), Cond.fieldLink RX0 9 "TableWright$Layout" "widths" "[I", Cond.methodLink RX0 104 Lib.Math.max.name, Cond.static Lib.Math.max.name, Cond.initialized "java/lang/Math", Cond.code Lib.Math.max.name Lib.Math.max.code 2 (some .int), Cond.methodLink RX0 97 yX3_isSpanning, Cond.instanceMethod yX3_isSpanning, Cond.selects RX3 yX3_isSpanning yX3_isSpanning, Cond.initialized RX3, Cond.code yX3_isSpanning cX3_isSpanning 3 (some .boolean), Cond.fieldLink RX3 37 "TableWright$Sheet" "columnCount" "I", Cond.fieldLink RX3 26 "TableWright$Sheet" "rows" "[LTableWright$Row;", Cond.methodLink RX4 271 yX3_sumUpTo, Cond.instanceMethod yX3_sumUpTo, Cond.selects RX3 yX3_sumUpTo yX3_sumUpTo, Cond.code yX3_sumUpTo cX3_sumUpTo 3 (some .int), Cond.fieldLink RX3 9 "TableWright$Sheet" "kinds" "[I"]
def wsX4_digestWithRow : List Cond := .code yX4_digestWithRow cX4_digestWithRow 8 (some .long) :: ((wsX4_digestWithRow_r1 ++ wsX4_digestWithRow_r2) ++ wsX40 ++ wsX30 ++ wsX00 ++ wsX20 ++ wsX10)
def wsX4_digestWithPage_r1 : List Cond := [Cond.fieldLink RX4 12 "TableWright" "sheet" "LTableWright$Sheet;", Cond.fieldLink RX4 19 "TableWright" "setting" "LTableWright$Setting;", Cond.methodLink RX4 163 yX4_factOfPage, Cond.instanceMethod yX4_factOfPage, Cond.selects RX4 yX4_factOfPage yX4_factOfPage, Cond.initialized RX4, Cond.code yX4_factOfPage cX4_factOfPage 4 (some .int), Cond.methodLink RX4 143 yX2_chosen, Cond.instanceMethod yX2_chosen, Cond.selects RX2 yX2_chosen yX2_chosen, Cond.initialized RX2, Cond.code yX2_chosen cX2_chosen 1 (some (.object "TableWright$Layout")), Cond.fieldLink RX2 31 "TableWright$Setting" "isTurned" "Z", Cond.fieldLink RX2 16 "TableWright$Setting" "turned" "LTableWright$Layout;", Cond.fieldLink RX2 10 "TableWright$Setting" "upright" "LTableWright$Layout;", Cond.methodLink RX4 289 yX0_readAloud, Cond.instanceMethod yX0_readAloud, Cond.selects RX0 yX0_readAloud yX0_readAloud, Cond.initialized RX0, Cond.code yX0_readAloud cX0_readAloud 5 (some .int), Cond.fieldLink RX0 30 "TableWright$Layout" "notesOn" "[I", Cond.fieldLink RX0 18 "TableWright$Layout" "rowPages" "[I", Cond.methodLink RX0 83 yX0_shownCells, Cond.static yX0_shownCells]
def wsX4_digestWithPage_r2 : List Cond := [Cond.code yX0_shownCells cX0_shownCells 4 (some .int), Cond.methodLink RX4 199 yX4_digestWith, Cond.static yX4_digestWith, Cond.code yX4_digestWith cX4_digestWith 3 (some .long), Cond.constantLong RX4 293 (31), Cond.methodLink RX4 166 yX0_carriedOn, Cond.instanceMethod yX0_carriedOn, Cond.selects RX0 yX0_carriedOn yX0_carriedOn, Cond.code yX0_carriedOn cX0_carriedOn 4 (some .int), Cond.fieldLink RX0 36 "TableWright$Layout" "lastRows" "[I", Cond.methodLink RX0 76 yX3_sumUpTo, Cond.instanceMethod yX3_sumUpTo, Cond.selects RX3 yX3_sumUpTo yX3_sumUpTo, Cond.initialized RX3, Cond.code yX3_sumUpTo cX3_sumUpTo 3 (some .int), Cond.fieldLink RX3 9 "TableWright$Sheet" "kinds" "[I", Cond.fieldLink RX3 26 "TableWright$Sheet" "rows" "[LTableWright$Row;"]
def wsX4_digestWithPage : List Cond := .code yX4_digestWithPage cX4_digestWithPage 7 (some .long) :: ((wsX4_digestWithPage_r1 ++ wsX4_digestWithPage_r2) ++ wsX40 ++ wsX30 ++ wsX00 ++ wsX20 ++ wsX10)
def wsX4_digest_r1 : List Cond := [Cond.constantLong RX4 197 (58119), Cond.fieldLink RX4 12 "TableWright" "sheet" "LTableWright$Sheet;", Cond.fieldLink RX4 19 "TableWright" "setting" "LTableWright$Setting;", Cond.methodLink RX4 131 yX4_refresh, Cond.instanceMethod yX4_refresh, Cond.selects RX4 yX4_refresh yX4_refresh, Cond.initialized RX4, Cond.code yX4_refresh cX4_refresh 1 none, Cond.fieldLink RX4 30 "TableWright" "isStale" "Z", Cond.fieldLink RX4 23 "TableWright" "wide" "I", Cond.fieldLink RX4 27 "TableWright" "high" "I", Cond.methodLink RX4 229 yX3_reckon, Cond.instanceMethod yX3_reckon, Cond.selects RX3 yX3_reckon yX3_reckon, Cond.initialized RX3, Cond.code yX3_reckon cX3_reckon 2 none, Cond.fieldLink RX3 37 "TableWright$Sheet" "columnCount" "I", Cond.fieldLink RX3 9 "TableWright$Sheet" "kinds" "[I", Cond.methodLink RX3 61 yX3_reckonHidden, Cond.instanceMethod yX3_reckonHidden, Cond.selects RX3 yX3_reckonHidden yX3_reckonHidden, Cond.code yX3_reckonHidden cX3_reckonHidden 5 none, Cond.fieldLink RX3 41 "TableWright$Sheet" "rowCount" "I", Cond.fieldLink RX3 26 "TableWright$Sheet" "rows" "[LTableWright$Row;"]
def wsX4_digest_r2 : List Cond := [Cond.methodLink RX3 65 yX3_reckonNumbers, Cond.instanceMethod yX3_reckonNumbers, Cond.selects RX3 yX3_reckonNumbers yX3_reckonNumbers, Cond.code yX3_reckonNumbers cX3_reckonNumbers 9 none, Cond.fieldLink RX3 18 "TableWright$Sheet" "firsts" "[I", Cond.fieldLink RX3 21 "TableWright$Sheet" "seconds" "[I", Cond.methodLink RX3 80 yX3_resultOf, Cond.static yX3_resultOf, Cond.code yX3_resultOf cX3_resultOf 7 (some .int), Cond.constantLong RX3 84 (-99999), Cond.constantLong RX3 86 (99999), Cond.methodLink RX3 88 Lib.MathLoose.min_long.x, Cond.static Lib.MathLoose.min_long.x, Cond.initialized "java/lang/Math", Cond.code Lib.MathLoose.min_long.x Lib.MathLoose.min_long.code 4 (some .long), Cond.methodLink RX3 94 Lib.MathLoose.max_long.x, Cond.static Lib.MathLoose.max_long.x, Cond.code Lib.MathLoose.max_long.x Lib.MathLoose.max_long.code 4 (some .long), Cond.methodLink RX3 68 yX3_measureText, Cond.instanceMethod yX3_measureText, Cond.selects RX3 yX3_measureText yX3_measureText, Cond.code yX3_measureText cX3_measureText 5 none, Cond.fieldLink RX3 15 "TableWright$Sheet" "titles" "[I", Cond.methodLink RX3 104 Lib.Math.max.name]
def wsX4_digest_r3 : List Cond := [Cond.static Lib.Math.max.name, Cond.code Lib.Math.max.name Lib.Math.max.code 2 (some .int), Cond.fieldLink RX3 30 "TableWright$Sheet" "leasts" "[I", Cond.fieldLink RX3 33 "TableWright$Sheet" "bests" "[I", Cond.methodLink RX3 110 Lib.Math.min.name, Cond.static Lib.Math.min.name, Cond.code Lib.Math.min.name Lib.Math.min.code 2 (some .int), Cond.methodLink RX3 97 yX3_isSpanning, Cond.instanceMethod yX3_isSpanning, Cond.selects RX3 yX3_isSpanning yX3_isSpanning, Cond.code yX3_isSpanning cX3_isSpanning 3 (some .boolean), Cond.methodLink RX3 71 yX3_measureNumbers, Cond.instanceMethod yX3_measureNumbers, Cond.selects RX3 yX3_measureNumbers yX3_measureNumbers, Cond.code yX3_measureNumbers cX3_measureNumbers 4 none, Cond.methodLink RX3 112 yX3_sizeOf, Cond.static yX3_sizeOf, Cond.code yX3_sizeOf cX3_sizeOf 3 (some .int), Cond.methodLink RX4 232 yX2_arrange, Cond.instanceMethod yX2_arrange, Cond.selects RX2 yX2_arrange yX2_arrange, Cond.initialized RX2, Cond.code yX2_arrange cX2_arrange 5 none, Cond.fieldLink RX2 10 "TableWright$Setting" "upright" "LTableWright$Layout;"]
def wsX4_digest_r4 : List Cond := [Cond.fieldLink RX2 16 "TableWright$Setting" "turned" "LTableWright$Layout;", Cond.fieldLink RX2 31 "TableWright$Setting" "isTurned" "Z", Cond.methodLink RX2 19 yX0_arrange, Cond.instanceMethod yX0_arrange, Cond.selects RX0 yX0_arrange yX0_arrange, Cond.initialized RX0, Cond.code yX0_arrange cX0_arrange 4 none, Cond.fieldLink RX0 39 "TableWright$Layout" "room" "I", Cond.fieldLink RX0 51 "TableWright$Layout" "isFit" "Z", Cond.fieldLink RX0 55 "TableWright$Layout" "pageCount" "I", Cond.fieldLink RX0 58 "TableWright$Layout" "nextRow" "I", Cond.fieldLink RX0 61 "TableWright$Layout" "nextNote" "I", Cond.methodLink RX0 43 yX0_isWidthFit, Cond.instanceMethod yX0_isWidthFit, Cond.selects RX0 yX0_isWidthFit yX0_isWidthFit, Cond.code yX0_isWidthFit cX0_isWidthFit 5 (some .boolean), Cond.fieldLink RX0 9 "TableWright$Layout" "widths" "[I", Cond.methodLink RX0 112 yX0_tableWidth, Cond.instanceMethod yX0_tableWidth, Cond.selects RX0 yX0_tableWidth yX0_tableWidth, Cond.code yX0_tableWidth cX0_tableWidth 4 (some .int), Cond.methodLink RX0 116 yX0_mostSpareColumn, Cond.instanceMethod yX0_mostSpareColumn, Cond.selects RX0 yX0_mostSpareColumn yX0_mostSpareColumn]
def wsX4_digest_r5 : List Cond := [Cond.code yX0_mostSpareColumn cX0_mostSpareColumn 6 (some .int), Cond.methodLink RX0 47 yX0_areHeightsFit, Cond.instanceMethod yX0_areHeightsFit, Cond.selects RX0 yX0_areHeightsFit yX0_areHeightsFit, Cond.code yX0_areHeightsFit cX0_areHeightsFit 5 (some .boolean), Cond.methodLink RX0 104 Lib.Math.max.name, Cond.fieldLink RX0 15 "TableWright$Layout" "heights" "[I", Cond.methodLink RX0 122 yX0_heightOfCell, Cond.instanceMethod yX0_heightOfCell, Cond.selects RX0 yX0_heightOfCell yX0_heightOfCell, Cond.code yX0_heightOfCell cX0_heightOfCell 6 (some .int), Cond.methodLink RX0 97 yX3_isSpanning, Cond.methodLink RX0 69 yX0_fillPage, Cond.instanceMethod yX0_fillPage, Cond.selects RX0 yX0_fillPage yX0_fillPage, Cond.code yX0_fillPage cX0_fillPage 4 none, Cond.fieldLink RX0 24 "TableWright$Layout" "firstRows" "[I", Cond.fieldLink RX0 27 "TableWright$Layout" "rowsOn" "[I", Cond.fieldLink RX0 30 "TableWright$Layout" "notesOn" "[I", Cond.fieldLink RX0 33 "TableWright$Layout" "left" "[I", Cond.fieldLink RX0 36 "TableWright$Layout" "lastRows" "[I", Cond.methodLink RX0 126 yX0_putWaitingNotes, Cond.instanceMethod yX0_putWaitingNotes, Cond.selects RX0 yX0_putWaitingNotes yX0_putWaitingNotes]
def wsX4_digest_r6 : List Cond := [Cond.code yX0_putWaitingNotes cX0_putWaitingNotes 4 none, Cond.fieldLink RX0 21 "TableWright$Layout" "notePages" "[I", Cond.methodLink RX0 129 yX0_hasRoomForNextRow, Cond.instanceMethod yX0_hasRoomForNextRow, Cond.selects RX0 yX0_hasRoomForNextRow yX0_hasRoomForNextRow, Cond.code yX0_hasRoomForNextRow cX0_hasRoomForNextRow 5 (some .boolean), Cond.methodLink RX0 142 yX0_heightOfGroup, Cond.instanceMethod yX0_heightOfGroup, Cond.selects RX0 yX0_heightOfGroup yX0_heightOfGroup, Cond.code yX0_heightOfGroup cX0_heightOfGroup 5 (some .int), Cond.methodLink RX0 132 yX0_putNextRow, Cond.instanceMethod yX0_putNextRow, Cond.selects RX0 yX0_putNextRow yX0_putNextRow, Cond.code yX0_putNextRow cX0_putNextRow 2 none, Cond.fieldLink RX0 18 "TableWright$Layout" "rowPages" "[I", Cond.methodLink RX4 170 yX4_factOfTable, Cond.instanceMethod yX4_factOfTable, Cond.selects RX4 yX4_factOfTable yX4_factOfTable, Cond.code yX4_factOfTable cX4_factOfTable 3 (some .int), Cond.methodLink RX4 143 yX2_chosen, Cond.instanceMethod yX2_chosen, Cond.selects RX2 yX2_chosen yX2_chosen, Cond.code yX2_chosen cX2_chosen 1 (some (.object "TableWright$Layout")), Cond.methodLink RX4 147 yX0_pagesOrNone]
def wsX4_digest_r7 : List Cond := [Cond.instanceMethod yX0_pagesOrNone, Cond.selects RX0 yX0_pagesOrNone yX0_pagesOrNone, Cond.code yX0_pagesOrNone cX0_pagesOrNone 1 (some .int), Cond.methodLink RX4 249 yX0_tableWidth, Cond.methodLink RX4 253 yX0_heightOfRows, Cond.instanceMethod yX0_heightOfRows, Cond.selects RX0 yX0_heightOfRows yX0_heightOfRows, Cond.code yX0_heightOfRows cX0_heightOfRows 4 (some .int), Cond.methodLink RX4 256 yX3_linesOfNotes, Cond.instanceMethod yX3_linesOfNotes, Cond.selects RX3 yX3_linesOfNotes yX3_linesOfNotes, Cond.code yX3_linesOfNotes cX3_linesOfNotes 3 (some .int), Cond.methodLink RX4 259 yX0_notesElsewhere, Cond.instanceMethod yX0_notesElsewhere, Cond.selects RX0 yX0_notesElsewhere yX0_notesElsewhere, Cond.code yX0_notesElsewhere cX0_notesElsewhere 4 (some .int), Cond.methodLink RX4 199 yX4_digestWith, Cond.static yX4_digestWith, Cond.code yX4_digestWith cX4_digestWith 3 (some .long), Cond.constantLong RX4 293 (31), Cond.methodLink RX4 154 yX4_factOfColumn, Cond.instanceMethod yX4_factOfColumn, Cond.selects RX4 yX4_factOfColumn yX4_factOfColumn, Cond.code yX4_factOfColumn cX4_factOfColumn 4 (some .int)]
def wsX4_digest_r8 : List Cond := [Cond.methodLink RX4 271 yX3_sumUpTo, Cond.instanceMethod yX3_sumUpTo, Cond.selects RX3 yX3_sumUpTo yX3_sumUpTo, Cond.code yX3_sumUpTo cX3_sumUpTo 3 (some .int), Cond.methodLink RX4 203 yX4_digestWithRow, Cond.instanceMethod yX4_digestWithRow, Cond.selects RX4 yX4_digestWithRow yX4_digestWithRow, Cond.code yX4_digestWithRow cX4_digestWithRow 8 (some .long), Cond.methodLink RX4 157 yX4_factOfRow, Cond.instanceMethod yX4_factOfRow, Cond.selects RX4 yX4_factOfRow yX4_factOfRow, Cond.code yX4_factOfRow cX4_factOfRow 4 (some .int), Cond.methodLink RX4 150 yX4_factOfCell, Cond.instanceMethod yX4_factOfCell, Cond.selects RX4 yX4_factOfCell yX4_factOfCell, Cond.code yX4_factOfCell cX4_factOfCell 6 (some .int), Cond.methodLink RX4 283 yX0_heightOfCell, Cond.methodLink RX4 206 yX4_digestWithPage, Cond.instanceMethod yX4_digestWithPage, Cond.selects RX4 yX4_digestWithPage yX4_digestWithPage, Cond.code yX4_digestWithPage cX4_digestWithPage 7 (some .long), Cond.methodLink RX4 163 yX4_factOfPage, Cond.instanceMethod yX4_factOfPage, Cond.selects RX4 yX4_factOfPage yX4_factOfPage]
def wsX4_digest_r9 : List Cond := [Cond.code yX4_factOfPage cX4_factOfPage 4 (some .int), Cond.methodLink RX4 289 yX0_readAloud, Cond.instanceMethod yX0_readAloud, Cond.selects RX0 yX0_readAloud yX0_readAloud, Cond.code yX0_readAloud cX0_readAloud 5 (some .int), Cond.methodLink RX0 83 yX0_shownCells, Cond.static yX0_shownCells, Cond.code yX0_shownCells cX0_shownCells 4 (some .int), Cond.methodLink RX4 166 yX0_carriedOn, Cond.instanceMethod yX0_carriedOn, Cond.selects RX0 yX0_carriedOn yX0_carriedOn, Cond.code yX0_carriedOn cX0_carriedOn 4 (some .int), Cond.methodLink RX0 76 yX3_sumUpTo, Cond.methodLink RX4 180 yX4_pagesIn, Cond.instanceMethod yX4_pagesIn, Cond.selects RX4 yX4_pagesIn yX4_pagesIn, Cond.code yX4_pagesIn cX4_pagesIn 3 (some .int), Cond.fieldLink RX4 43 "TableWright" "probe" "LTableWright$Layout;", Cond.methodLink RX4 236 yX0_arrange]
def wsX4_digest : List Cond := .code yX4_digest cX4_digest 5 (some .long) :: ((wsX4_digest_r1 ++ (wsX4_digest_r2 ++ (wsX4_digest_r3 ++ (wsX4_digest_r4 ++ (wsX4_digest_r5 ++ (wsX4_digest_r6 ++ (wsX4_digest_r7 ++ (wsX4_digest_r8 ++ wsX4_digest_r9)))))))) ++ wsX40 ++ wsX30 ++ wsX00 ++ wsX10 ++ wsX20)
def wsJ9_max_7cf53 : List Cond := .code yJ9_max_7cf53 cJ9_max_7cf53 2 (some .int) :: ([])
def wsJ9_max_f86c9 : List Cond := .code yJ9_max_f86c9 cJ9_max_f86c9 4 (some .long) :: ([])
def wsJ9_min_7cf53 : List Cond := .code yJ9_min_7cf53 cJ9_min_7cf53 2 (some .int) :: ([])
def wsJ9_min_f86c9 : List Cond := .code yJ9_min_f86c9 cJ9_min_f86c9 4 (some .long) :: ([])
def wsL_below : List Cond := .code yL_below cL_below 2 (some .int) :: ([.constant RL 7 (2147483647)])
def wsL_cell : List Cond := .code yL_cell cL_cell 2 (some .int) :: ([.constant RL 8 (790386105)])
def wsL_isTogether_r1 : List Cond := [Cond.methodLink RL 84 yX4_ofRow, Cond.instanceMethod yX4_ofRow, Cond.selects RX4 yX4_ofRow yX4_ofRow, Cond.initialized RX4, Cond.code yX4_ofRow cX4_ofRow 3 (some .int), Cond.methodLink RX4 86 yX4_requireRow, Cond.instanceMethod yX4_requireRow, Cond.selects RX4 yX4_requireRow yX4_requireRow, Cond.code yX4_requireRow cX4_requireRow 2 none, Cond.classLink RX4 211 "java/lang/IndexOutOfBoundsException", Cond.initialized "java/lang/IndexOutOfBoundsException", Cond.fieldLink RX4 12 "TableWright" "sheet" "LTableWright$Sheet;", Cond.methodLink RX4 47 yX4_requireRange, Cond.static yX4_requireRange, Cond.code yX4_requireRange cX4_requireRange 3 none, Cond.classLink RX4 122 "java/lang/IllegalArgumentException", Cond.initialized "java/lang/IllegalArgumentException", Cond.methodLink RX4 131 yX4_refresh, Cond.instanceMethod yX4_refresh, Cond.selects RX4 yX4_refresh yX4_refresh, Cond.code yX4_refresh cX4_refresh 1 none, Cond.fieldLink RX4 30 "TableWright" "isStale" "Z", Cond.fieldLink RX4 19 "TableWright" "setting" "LTableWright$Setting;", Cond.fieldLink RX4 23 "TableWright" "wide" "I"]
def wsL_isTogether_r2 : List Cond := [Cond.fieldLink RX4 27 "TableWright" "high" "I", Cond.methodLink RX4 229 yX3_reckon, Cond.instanceMethod yX3_reckon, Cond.selects RX3 yX3_reckon yX3_reckon, Cond.initialized RX3, Cond.code yX3_reckon cX3_reckon 2 none, Cond.fieldLink RX3 37 "TableWright$Sheet" "columnCount" "I", Cond.fieldLink RX3 9 "TableWright$Sheet" "kinds" "[I", Cond.methodLink RX3 61 yX3_reckonHidden, Cond.instanceMethod yX3_reckonHidden, Cond.selects RX3 yX3_reckonHidden yX3_reckonHidden, Cond.code yX3_reckonHidden cX3_reckonHidden 5 none, Cond.fieldLink RX3 41 "TableWright$Sheet" "rowCount" "I", Cond.fieldLink RX3 26 "TableWright$Sheet" "rows" "[LTableWright$Row;", Cond.methodLink RX3 65 yX3_reckonNumbers, Cond.instanceMethod yX3_reckonNumbers, Cond.selects RX3 yX3_reckonNumbers yX3_reckonNumbers, Cond.code yX3_reckonNumbers cX3_reckonNumbers 9 none, Cond.fieldLink RX3 18 "TableWright$Sheet" "firsts" "[I", Cond.fieldLink RX3 21 "TableWright$Sheet" "seconds" "[I", Cond.methodLink RX3 80 yX3_resultOf, Cond.static yX3_resultOf, Cond.code yX3_resultOf cX3_resultOf 7 (some .int), Cond.constantLong RX3 84 (-99999)]
def wsL_isTogether_r3 : List Cond := [Cond.constantLong RX3 86 (99999), Cond.methodLink RX3 88 Lib.MathLoose.min_long.x, Cond.static Lib.MathLoose.min_long.x, Cond.initialized "java/lang/Math", Cond.code Lib.MathLoose.min_long.x Lib.MathLoose.min_long.code 4 (some .long), Cond.methodLink RX3 94 Lib.MathLoose.max_long.x, Cond.static Lib.MathLoose.max_long.x, Cond.code Lib.MathLoose.max_long.x Lib.MathLoose.max_long.code 4 (some .long), Cond.methodLink RX3 68 yX3_measureText, Cond.instanceMethod yX3_measureText, Cond.selects RX3 yX3_measureText yX3_measureText, Cond.code yX3_measureText cX3_measureText 5 none, Cond.fieldLink RX3 15 "TableWright$Sheet" "titles" "[I", Cond.methodLink RX3 104 Lib.Math.max.name, Cond.static Lib.Math.max.name, Cond.code Lib.Math.max.name Lib.Math.max.code 2 (some .int), Cond.fieldLink RX3 30 "TableWright$Sheet" "leasts" "[I", Cond.fieldLink RX3 33 "TableWright$Sheet" "bests" "[I", Cond.methodLink RX3 110 Lib.Math.min.name, Cond.static Lib.Math.min.name, Cond.code Lib.Math.min.name Lib.Math.min.code 2 (some .int), Cond.methodLink RX3 97 yX3_isSpanning, Cond.instanceMethod yX3_isSpanning, Cond.selects RX3 yX3_isSpanning yX3_isSpanning]
def wsL_isTogether_r4 : List Cond := [Cond.code yX3_isSpanning cX3_isSpanning 3 (some .boolean), Cond.methodLink RX3 71 yX3_measureNumbers, Cond.instanceMethod yX3_measureNumbers, Cond.selects RX3 yX3_measureNumbers yX3_measureNumbers, Cond.code yX3_measureNumbers cX3_measureNumbers 4 none, Cond.methodLink RX3 112 yX3_sizeOf, Cond.static yX3_sizeOf, Cond.code yX3_sizeOf cX3_sizeOf 3 (some .int), Cond.methodLink RX4 232 yX2_arrange, Cond.instanceMethod yX2_arrange, Cond.selects RX2 yX2_arrange yX2_arrange, Cond.initialized RX2, Cond.code yX2_arrange cX2_arrange 5 none, Cond.fieldLink RX2 10 "TableWright$Setting" "upright" "LTableWright$Layout;", Cond.fieldLink RX2 16 "TableWright$Setting" "turned" "LTableWright$Layout;", Cond.fieldLink RX2 31 "TableWright$Setting" "isTurned" "Z", Cond.methodLink RX2 19 yX0_arrange, Cond.instanceMethod yX0_arrange, Cond.selects RX0 yX0_arrange yX0_arrange, Cond.initialized RX0, Cond.code yX0_arrange cX0_arrange 4 none, Cond.fieldLink RX0 39 "TableWright$Layout" "room" "I", Cond.fieldLink RX0 51 "TableWright$Layout" "isFit" "Z", Cond.fieldLink RX0 55 "TableWright$Layout" "pageCount" "I"]
def wsL_isTogether_r5 : List Cond := [Cond.fieldLink RX0 58 "TableWright$Layout" "nextRow" "I", Cond.fieldLink RX0 61 "TableWright$Layout" "nextNote" "I", Cond.methodLink RX0 43 yX0_isWidthFit, Cond.instanceMethod yX0_isWidthFit, Cond.selects RX0 yX0_isWidthFit yX0_isWidthFit, Cond.code yX0_isWidthFit cX0_isWidthFit 5 (some .boolean), Cond.fieldLink RX0 9 "TableWright$Layout" "widths" "[I", Cond.methodLink RX0 112 yX0_tableWidth, Cond.instanceMethod yX0_tableWidth, Cond.selects RX0 yX0_tableWidth yX0_tableWidth, Cond.code yX0_tableWidth cX0_tableWidth 4 (some .int), Cond.methodLink RX0 116 yX0_mostSpareColumn, Cond.instanceMethod yX0_mostSpareColumn, Cond.selects RX0 yX0_mostSpareColumn yX0_mostSpareColumn, Cond.code yX0_mostSpareColumn cX0_mostSpareColumn 6 (some .int), Cond.methodLink RX0 47 yX0_areHeightsFit, Cond.instanceMethod yX0_areHeightsFit, Cond.selects RX0 yX0_areHeightsFit yX0_areHeightsFit, Cond.code yX0_areHeightsFit cX0_areHeightsFit 5 (some .boolean), Cond.methodLink RX0 104 Lib.Math.max.name, Cond.fieldLink RX0 15 "TableWright$Layout" "heights" "[I", Cond.methodLink RX0 122 yX0_heightOfCell, Cond.instanceMethod yX0_heightOfCell, Cond.selects RX0 yX0_heightOfCell yX0_heightOfCell]
def wsL_isTogether_r6 : List Cond := [Cond.code yX0_heightOfCell cX0_heightOfCell 6 (some .int), Cond.methodLink RX0 97 yX3_isSpanning, Cond.methodLink RX0 69 yX0_fillPage, Cond.instanceMethod yX0_fillPage, Cond.selects RX0 yX0_fillPage yX0_fillPage, Cond.code yX0_fillPage cX0_fillPage 4 none, Cond.fieldLink RX0 24 "TableWright$Layout" "firstRows" "[I", Cond.fieldLink RX0 27 "TableWright$Layout" "rowsOn" "[I", Cond.fieldLink RX0 30 "TableWright$Layout" "notesOn" "[I", Cond.fieldLink RX0 33 "TableWright$Layout" "left" "[I", Cond.fieldLink RX0 36 "TableWright$Layout" "lastRows" "[I", Cond.methodLink RX0 126 yX0_putWaitingNotes, Cond.instanceMethod yX0_putWaitingNotes, Cond.selects RX0 yX0_putWaitingNotes yX0_putWaitingNotes, Cond.code yX0_putWaitingNotes cX0_putWaitingNotes 4 none, Cond.fieldLink RX0 21 "TableWright$Layout" "notePages" "[I", Cond.methodLink RX0 129 yX0_hasRoomForNextRow, Cond.instanceMethod yX0_hasRoomForNextRow, Cond.selects RX0 yX0_hasRoomForNextRow yX0_hasRoomForNextRow, Cond.code yX0_hasRoomForNextRow cX0_hasRoomForNextRow 5 (some .boolean), Cond.methodLink RX0 142 yX0_heightOfGroup, Cond.instanceMethod yX0_heightOfGroup, Cond.selects RX0 yX0_heightOfGroup yX0_heightOfGroup, Cond.code yX0_heightOfGroup cX0_heightOfGroup 5 (some .int)]
def wsL_isTogether_r7 : List Cond := [Cond.methodLink RX0 132 yX0_putNextRow, Cond.instanceMethod yX0_putNextRow, Cond.selects RX0 yX0_putNextRow yX0_putNextRow, Cond.code yX0_putNextRow cX0_putNextRow 2 none, Cond.fieldLink RX0 18 "TableWright$Layout" "rowPages" "[I", Cond.methodLink RX4 157 yX4_factOfRow, Cond.instanceMethod yX4_factOfRow, Cond.selects RX4 yX4_factOfRow yX4_factOfRow, Cond.code yX4_factOfRow cX4_factOfRow 4 (some .int), Cond.methodLink RX4 143 yX2_chosen, Cond.instanceMethod yX2_chosen, Cond.selects RX2 yX2_chosen yX2_chosen, Cond.code yX2_chosen cX2_chosen 1 (some (.object "TableWright$Layout")), Cond.methodLink RL 81 yX4_ofPage, Cond.instanceMethod yX4_ofPage, Cond.selects RX4 yX4_ofPage yX4_ofPage, Cond.code yX4_ofPage cX4_ofPage 3 (some .int), Cond.methodLink RX4 160 yX4_requirePage, Cond.instanceMethod yX4_requirePage, Cond.selects RX4 yX4_requirePage yX4_requirePage, Cond.code yX4_requirePage cX4_requirePage 2 none, Cond.methodLink RX4 163 yX4_factOfPage, Cond.instanceMethod yX4_factOfPage, Cond.selects RX4 yX4_factOfPage yX4_factOfPage]
def wsL_isTogether_r8 : List Cond := [Cond.code yX4_factOfPage cX4_factOfPage 4 (some .int), Cond.methodLink RX4 289 yX0_readAloud, Cond.instanceMethod yX0_readAloud, Cond.selects RX0 yX0_readAloud yX0_readAloud, Cond.code yX0_readAloud cX0_readAloud 5 (some .int), Cond.methodLink RX0 83 yX0_shownCells, Cond.static yX0_shownCells, Cond.code yX0_shownCells cX0_shownCells 4 (some .int)]
def wsL_isTogether : List Cond := .code yL_isTogether cL_isTogether 10 (some .boolean) :: ((wsL_isTogether_r1 ++ (wsL_isTogether_r2 ++ (wsL_isTogether_r3 ++ (wsL_isTogether_r4 ++ (wsL_isTogether_r5 ++ (wsL_isTogether_r6 ++ (wsL_isTogether_r7 ++ wsL_isTogether_r8))))))) ++ wsX40 ++ wsX30 ++ wsX10 ++ wsX20 ++ wsX00 ++ (vx_atS RX4 215 "java/lang/IndexOutOfBoundsException" ["java/lang/RuntimeException", "java/lang/Exception"]).filter goodWord ++ (vx_atS RX4 126 "java/lang/IllegalArgumentException" ["java/lang/RuntimeException", "java/lang/Exception"]).filter goodWord)
def wsL_isLaid_r1 : List Cond := [Cond.methodLink RL 90 Lib.Math.max.name, Cond.static Lib.Math.max.name, Cond.initialized "java/lang/Math", Cond.code Lib.Math.max.name Lib.Math.max.code 2 (some .int), Cond.methodLink RL 26 yX4_many, Cond.instanceMethod yX4_many, Cond.selects RX4 yX4_many yX4_many, Cond.initialized RX4, Cond.code yX4_many cX4_many 2 (some .int), Cond.methodLink RX4 47 yX4_requireRange, Cond.static yX4_requireRange, Cond.code yX4_requireRange cX4_requireRange 3 none, Cond.classLink RX4 122 "java/lang/IllegalArgumentException", Cond.initialized "java/lang/IllegalArgumentException", Cond.methodLink RX4 131 yX4_refresh, Cond.instanceMethod yX4_refresh, Cond.selects RX4 yX4_refresh yX4_refresh, Cond.code yX4_refresh cX4_refresh 1 none, Cond.fieldLink RX4 30 "TableWright" "isStale" "Z", Cond.fieldLink RX4 12 "TableWright" "sheet" "LTableWright$Sheet;", Cond.fieldLink RX4 19 "TableWright" "setting" "LTableWright$Setting;", Cond.fieldLink RX4 23 "TableWright" "wide" "I", Cond.fieldLink RX4 27 "TableWright" "high" "I", Cond.methodLink RX4 229 yX3_reckon]
def wsL_isLaid_r2 : List Cond := [Cond.instanceMethod yX3_reckon, Cond.selects RX3 yX3_reckon yX3_reckon, Cond.initialized RX3, Cond.code yX3_reckon cX3_reckon 2 none, Cond.fieldLink RX3 37 "TableWright$Sheet" "columnCount" "I", Cond.fieldLink RX3 9 "TableWright$Sheet" "kinds" "[I", Cond.methodLink RX3 61 yX3_reckonHidden, Cond.instanceMethod yX3_reckonHidden, Cond.selects RX3 yX3_reckonHidden yX3_reckonHidden, Cond.code yX3_reckonHidden cX3_reckonHidden 5 none, Cond.fieldLink RX3 41 "TableWright$Sheet" "rowCount" "I", Cond.fieldLink RX3 26 "TableWright$Sheet" "rows" "[LTableWright$Row;", Cond.methodLink RX3 65 yX3_reckonNumbers, Cond.instanceMethod yX3_reckonNumbers, Cond.selects RX3 yX3_reckonNumbers yX3_reckonNumbers, Cond.code yX3_reckonNumbers cX3_reckonNumbers 9 none, Cond.fieldLink RX3 18 "TableWright$Sheet" "firsts" "[I", Cond.fieldLink RX3 21 "TableWright$Sheet" "seconds" "[I", Cond.methodLink RX3 80 yX3_resultOf, Cond.static yX3_resultOf, Cond.code yX3_resultOf cX3_resultOf 7 (some .int), Cond.constantLong RX3 84 (-99999), Cond.constantLong RX3 86 (99999), Cond.methodLink RX3 88 Lib.MathLoose.min_long.x]
def wsL_isLaid_r3 : List Cond := [Cond.static Lib.MathLoose.min_long.x, Cond.code Lib.MathLoose.min_long.x Lib.MathLoose.min_long.code 4 (some .long), Cond.methodLink RX3 94 Lib.MathLoose.max_long.x, Cond.static Lib.MathLoose.max_long.x, Cond.code Lib.MathLoose.max_long.x Lib.MathLoose.max_long.code 4 (some .long), Cond.methodLink RX3 68 yX3_measureText, Cond.instanceMethod yX3_measureText, Cond.selects RX3 yX3_measureText yX3_measureText, Cond.code yX3_measureText cX3_measureText 5 none, Cond.fieldLink RX3 15 "TableWright$Sheet" "titles" "[I", Cond.methodLink RX3 104 Lib.Math.max.name, Cond.fieldLink RX3 30 "TableWright$Sheet" "leasts" "[I", Cond.fieldLink RX3 33 "TableWright$Sheet" "bests" "[I", Cond.methodLink RX3 110 Lib.Math.min.name, Cond.static Lib.Math.min.name, Cond.code Lib.Math.min.name Lib.Math.min.code 2 (some .int), Cond.methodLink RX3 97 yX3_isSpanning, Cond.instanceMethod yX3_isSpanning, Cond.selects RX3 yX3_isSpanning yX3_isSpanning, Cond.code yX3_isSpanning cX3_isSpanning 3 (some .boolean), Cond.methodLink RX3 71 yX3_measureNumbers, Cond.instanceMethod yX3_measureNumbers, Cond.selects RX3 yX3_measureNumbers yX3_measureNumbers, Cond.code yX3_measureNumbers cX3_measureNumbers 4 none]
def wsL_isLaid_r4 : List Cond := [Cond.methodLink RX3 112 yX3_sizeOf, Cond.static yX3_sizeOf, Cond.code yX3_sizeOf cX3_sizeOf 3 (some .int), Cond.methodLink RX4 232 yX2_arrange, Cond.instanceMethod yX2_arrange, Cond.selects RX2 yX2_arrange yX2_arrange, Cond.initialized RX2, Cond.code yX2_arrange cX2_arrange 5 none, Cond.fieldLink RX2 10 "TableWright$Setting" "upright" "LTableWright$Layout;", Cond.fieldLink RX2 16 "TableWright$Setting" "turned" "LTableWright$Layout;", Cond.fieldLink RX2 31 "TableWright$Setting" "isTurned" "Z", Cond.methodLink RX2 19 yX0_arrange, Cond.instanceMethod yX0_arrange, Cond.selects RX0 yX0_arrange yX0_arrange, Cond.initialized RX0, Cond.code yX0_arrange cX0_arrange 4 none, Cond.fieldLink RX0 39 "TableWright$Layout" "room" "I", Cond.fieldLink RX0 51 "TableWright$Layout" "isFit" "Z", Cond.fieldLink RX0 55 "TableWright$Layout" "pageCount" "I", Cond.fieldLink RX0 58 "TableWright$Layout" "nextRow" "I", Cond.fieldLink RX0 61 "TableWright$Layout" "nextNote" "I", Cond.methodLink RX0 43 yX0_isWidthFit, Cond.instanceMethod yX0_isWidthFit, Cond.selects RX0 yX0_isWidthFit yX0_isWidthFit]
def wsL_isLaid_r5 : List Cond := [Cond.code yX0_isWidthFit cX0_isWidthFit 5 (some .boolean), Cond.fieldLink RX0 9 "TableWright$Layout" "widths" "[I", Cond.methodLink RX0 112 yX0_tableWidth, Cond.instanceMethod yX0_tableWidth, Cond.selects RX0 yX0_tableWidth yX0_tableWidth, Cond.code yX0_tableWidth cX0_tableWidth 4 (some .int), Cond.methodLink RX0 116 yX0_mostSpareColumn, Cond.instanceMethod yX0_mostSpareColumn, Cond.selects RX0 yX0_mostSpareColumn yX0_mostSpareColumn, Cond.code yX0_mostSpareColumn cX0_mostSpareColumn 6 (some .int), Cond.methodLink RX0 47 yX0_areHeightsFit, Cond.instanceMethod yX0_areHeightsFit, Cond.selects RX0 yX0_areHeightsFit yX0_areHeightsFit, Cond.code yX0_areHeightsFit cX0_areHeightsFit 5 (some .boolean), Cond.methodLink RX0 104 Lib.Math.max.name, Cond.fieldLink RX0 15 "TableWright$Layout" "heights" "[I", Cond.methodLink RX0 122 yX0_heightOfCell, Cond.instanceMethod yX0_heightOfCell, Cond.selects RX0 yX0_heightOfCell yX0_heightOfCell, Cond.code yX0_heightOfCell cX0_heightOfCell 6 (some .int), Cond.methodLink RX0 97 yX3_isSpanning, Cond.methodLink RX0 69 yX0_fillPage, Cond.instanceMethod yX0_fillPage, Cond.selects RX0 yX0_fillPage yX0_fillPage]
def wsL_isLaid_r6 : List Cond := [Cond.code yX0_fillPage cX0_fillPage 4 none, Cond.fieldLink RX0 24 "TableWright$Layout" "firstRows" "[I", Cond.fieldLink RX0 27 "TableWright$Layout" "rowsOn" "[I", Cond.fieldLink RX0 30 "TableWright$Layout" "notesOn" "[I", Cond.fieldLink RX0 33 "TableWright$Layout" "left" "[I", Cond.fieldLink RX0 36 "TableWright$Layout" "lastRows" "[I", Cond.methodLink RX0 126 yX0_putWaitingNotes, Cond.instanceMethod yX0_putWaitingNotes, Cond.selects RX0 yX0_putWaitingNotes yX0_putWaitingNotes, Cond.code yX0_putWaitingNotes cX0_putWaitingNotes 4 none, Cond.fieldLink RX0 21 "TableWright$Layout" "notePages" "[I", Cond.methodLink RX0 129 yX0_hasRoomForNextRow, Cond.instanceMethod yX0_hasRoomForNextRow, Cond.selects RX0 yX0_hasRoomForNextRow yX0_hasRoomForNextRow, Cond.code yX0_hasRoomForNextRow cX0_hasRoomForNextRow 5 (some .boolean), Cond.methodLink RX0 142 yX0_heightOfGroup, Cond.instanceMethod yX0_heightOfGroup, Cond.selects RX0 yX0_heightOfGroup yX0_heightOfGroup, Cond.code yX0_heightOfGroup cX0_heightOfGroup 5 (some .int), Cond.methodLink RX0 132 yX0_putNextRow, Cond.instanceMethod yX0_putNextRow, Cond.selects RX0 yX0_putNextRow yX0_putNextRow, Cond.code yX0_putNextRow cX0_putNextRow 2 none, Cond.fieldLink RX0 18 "TableWright$Layout" "rowPages" "[I"]
def wsL_isLaid_r7 : List Cond := [Cond.methodLink RX4 170 yX4_factOfTable, Cond.instanceMethod yX4_factOfTable, Cond.selects RX4 yX4_factOfTable yX4_factOfTable, Cond.code yX4_factOfTable cX4_factOfTable 3 (some .int), Cond.methodLink RX4 143 yX2_chosen, Cond.instanceMethod yX2_chosen, Cond.selects RX2 yX2_chosen yX2_chosen, Cond.code yX2_chosen cX2_chosen 1 (some (.object "TableWright$Layout")), Cond.methodLink RX4 147 yX0_pagesOrNone, Cond.instanceMethod yX0_pagesOrNone, Cond.selects RX0 yX0_pagesOrNone yX0_pagesOrNone, Cond.code yX0_pagesOrNone cX0_pagesOrNone 1 (some .int), Cond.methodLink RX4 249 yX0_tableWidth, Cond.methodLink RX4 253 yX0_heightOfRows, Cond.instanceMethod yX0_heightOfRows, Cond.selects RX0 yX0_heightOfRows yX0_heightOfRows, Cond.code yX0_heightOfRows cX0_heightOfRows 4 (some .int), Cond.methodLink RX4 256 yX3_linesOfNotes, Cond.instanceMethod yX3_linesOfNotes, Cond.selects RX3 yX3_linesOfNotes yX3_linesOfNotes, Cond.code yX3_linesOfNotes cX3_linesOfNotes 3 (some .int), Cond.methodLink RX4 259 yX0_notesElsewhere, Cond.instanceMethod yX0_notesElsewhere, Cond.selects RX0 yX0_notesElsewhere yX0_notesElsewhere]
def wsL_isLaid_r8 : List Cond := [Cond.code yX0_notesElsewhere cX0_notesElsewhere 4 (some .int), Cond.methodLink RL 78 yX4_ofColumn, Cond.instanceMethod yX4_ofColumn, Cond.selects RX4 yX4_ofColumn yX4_ofColumn, Cond.code yX4_ofColumn cX4_ofColumn 3 (some .int), Cond.methodLink RX4 58 yX4_requireColumn, Cond.instanceMethod yX4_requireColumn, Cond.selects RX4 yX4_requireColumn yX4_requireColumn, Cond.code yX4_requireColumn cX4_requireColumn 2 none, Cond.classLink RX4 211 "java/lang/IndexOutOfBoundsException", Cond.initialized "java/lang/IndexOutOfBoundsException", Cond.methodLink RX4 154 yX4_factOfColumn, Cond.instanceMethod yX4_factOfColumn, Cond.selects RX4 yX4_factOfColumn yX4_factOfColumn, Cond.code yX4_factOfColumn cX4_factOfColumn 4 (some .int), Cond.methodLink RX4 271 yX3_sumUpTo, Cond.instanceMethod yX3_sumUpTo, Cond.selects RX3 yX3_sumUpTo yX3_sumUpTo, Cond.code yX3_sumUpTo cX3_sumUpTo 3 (some .int), Cond.methodLink RL 81 yX4_ofPage, Cond.instanceMethod yX4_ofPage, Cond.selects RX4 yX4_ofPage yX4_ofPage, Cond.code yX4_ofPage cX4_ofPage 3 (some .int), Cond.methodLink RX4 160 yX4_requirePage]
def wsL_isLaid_r9 : List Cond := [Cond.instanceMethod yX4_requirePage, Cond.selects RX4 yX4_requirePage yX4_requirePage, Cond.code yX4_requirePage cX4_requirePage 2 none, Cond.methodLink RX4 163 yX4_factOfPage, Cond.instanceMethod yX4_factOfPage, Cond.selects RX4 yX4_factOfPage yX4_factOfPage, Cond.code yX4_factOfPage cX4_factOfPage 4 (some .int), Cond.methodLink RX4 289 yX0_readAloud, Cond.instanceMethod yX0_readAloud, Cond.selects RX0 yX0_readAloud yX0_readAloud, Cond.code yX0_readAloud cX0_readAloud 5 (some .int), Cond.methodLink RX0 83 yX0_shownCells, Cond.static yX0_shownCells, Cond.code yX0_shownCells cX0_shownCells 4 (some .int), Cond.methodLink RL 84 yX4_ofRow, Cond.instanceMethod yX4_ofRow, Cond.selects RX4 yX4_ofRow yX4_ofRow, Cond.code yX4_ofRow cX4_ofRow 3 (some .int), Cond.methodLink RX4 86 yX4_requireRow, Cond.instanceMethod yX4_requireRow, Cond.selects RX4 yX4_requireRow yX4_requireRow, Cond.code yX4_requireRow cX4_requireRow 2 none, Cond.methodLink RX4 157 yX4_factOfRow, Cond.instanceMethod yX4_factOfRow]
def wsL_isLaid_r10 : List Cond := [Cond.selects RX4 yX4_factOfRow yX4_factOfRow, Cond.code yX4_factOfRow cX4_factOfRow 4 (some .int), Cond.methodLink RL 87 yX4_carried, Cond.instanceMethod yX4_carried, Cond.selects RX4 yX4_carried yX4_carried, Cond.code yX4_carried cX4_carried 3 (some .int), Cond.methodLink RX4 166 yX0_carriedOn, Cond.instanceMethod yX0_carriedOn, Cond.selects RX0 yX0_carriedOn yX0_carriedOn, Cond.code yX0_carriedOn cX0_carriedOn 4 (some .int), Cond.methodLink RX0 76 yX3_sumUpTo, Cond.methodLink RL 73 yX4_cell, Cond.instanceMethod yX4_cell, Cond.selects RX4 yX4_cell yX4_cell, Cond.code yX4_cell cX4_cell 4 (some .int), Cond.methodLink RX4 150 yX4_factOfCell, Cond.instanceMethod yX4_factOfCell, Cond.selects RX4 yX4_factOfCell yX4_factOfCell, Cond.code yX4_factOfCell cX4_factOfCell 6 (some .int), Cond.methodLink RX4 283 yX0_heightOfCell, Cond.methodLink RL 93 yL_isTogether, Cond.static yL_isTogether, Cond.initialized RL, Cond.code yL_isTogether cL_isTogether 10 (some .boolean)]
def wsL_isLaid : List Cond := .code yL_isLaid cL_isLaid 17 (some .boolean) :: ((wsL_isLaid_r1 ++ (wsL_isLaid_r2 ++ (wsL_isLaid_r3 ++ (wsL_isLaid_r4 ++ (wsL_isLaid_r5 ++ (wsL_isLaid_r6 ++ (wsL_isLaid_r7 ++ (wsL_isLaid_r8 ++ (wsL_isLaid_r9 ++ wsL_isLaid_r10))))))))) ++ wsX40 ++ wsX30 ++ wsX10 ++ wsX20 ++ wsX00 ++ (vx_atS RX4 126 "java/lang/IllegalArgumentException" ["java/lang/RuntimeException", "java/lang/Exception"]).filter goodWord ++ (vx_atS RX4 215 "java/lang/IndexOutOfBoundsException" ["java/lang/RuntimeException", "java/lang/Exception"]).filter goodWord)
def wsL_law0_r1 : List Cond := [Cond.classLink RL 9 RX4, Cond.instantiable RX4 8, Cond.initialized RX4, Cond.arrayClass .boolean, Cond.arrayClass .int, Cond.methodLink RL 45 Lib.Math.min.name, Cond.static Lib.Math.min.name, Cond.initialized "java/lang/Math", Cond.code Lib.Math.min.name Lib.Math.min.code 2 (some .int), Cond.methodLink RL 11 yX4_init, Cond.instanceMethod yX4_init, Cond.code yX4_init cX4_init 1 none, Cond.methodLink RX4 3 objectInit, Cond.instanceMethod objectInit, Cond.code objectInit ⟨#[0xb1]⟩ 1 none, Cond.classLink RX4 9 RX3, Cond.instantiable RX3 9, Cond.initialized RX3, Cond.fieldLink RX4 12 "TableWright" "sheet" "LTableWright$Sheet;", Cond.classLink RX4 16 RX2, Cond.instantiable RX2 3, Cond.initialized RX2, Cond.fieldLink RX4 19 "TableWright" "setting" "LTableWright$Setting;", Cond.fieldLink RX4 23 "TableWright" "wide" "I"]
def wsL_law0_r2 : List Cond := [Cond.fieldLink RX4 27 "TableWright" "high" "I", Cond.fieldLink RX4 30 "TableWright" "isStale" "Z", Cond.fieldLink RX4 34 "TableWright" "trialSheet" "LTableWright$Sheet;", Cond.fieldLink RX4 37 "TableWright" "trialSetting" "LTableWright$Setting;", Cond.classLink RX4 40 RX0, Cond.instantiable RX0 14, Cond.initialized RX0, Cond.fieldLink RX4 43 "TableWright" "probe" "LTableWright$Layout;", Cond.methodLink RX4 11 yX3_init, Cond.instanceMethod yX3_init, Cond.code yX3_init cX3_init 2 none, Cond.methodLink RX3 3 objectInit, Cond.fieldLink RX3 9 "TableWright$Sheet" "kinds" "[I", Cond.fieldLink RX3 15 "TableWright$Sheet" "titles" "[I", Cond.fieldLink RX3 18 "TableWright$Sheet" "firsts" "[I", Cond.fieldLink RX3 21 "TableWright$Sheet" "seconds" "[I", Cond.classLink RX3 24 RX1, Cond.fieldLink RX3 26 "TableWright$Sheet" "rows" "[LTableWright$Row;", Cond.fieldLink RX3 30 "TableWright$Sheet" "leasts" "[I", Cond.fieldLink RX3 33 "TableWright$Sheet" "bests" "[I", Cond.instantiable RX1 8, Cond.initialized RX1, Cond.instanceMethod yX1_init, Cond.code yX1_init cX1_init 1 none]
def wsL_law0_r3 : List Cond := [Cond.methodLink RX1 3 objectInit, Cond.fieldLink RX1 9 "TableWright$Row" "values" "[I", Cond.fieldLink RX1 15 "TableWright$Row" "lengths" "[I", Cond.fieldLink RX1 18 "TableWright$Row" "words" "[I", Cond.fieldLink RX1 21 "TableWright$Row" "isToSpan" "[Z", Cond.fieldLink RX1 25 "TableWright$Row" "sums" "[I", Cond.fieldLink RX1 28 "TableWright$Row" "isHidden" "[Z", Cond.instanceMethod yX2_init, Cond.code yX2_init cX2_init 1 none, Cond.methodLink RX2 1 objectInit, Cond.classLink RX2 7 RX0, Cond.fieldLink RX2 10 "TableWright$Setting" "upright" "LTableWright$Layout;", Cond.fieldLink RX2 16 "TableWright$Setting" "turned" "LTableWright$Layout;", Cond.instanceMethod yX0_init, Cond.code yX0_init cX0_init 1 none, Cond.methodLink RX0 3 objectInit, Cond.fieldLink RX0 9 "TableWright$Layout" "widths" "[I", Cond.fieldLink RX0 15 "TableWright$Layout" "heights" "[I", Cond.fieldLink RX0 18 "TableWright$Layout" "rowPages" "[I", Cond.fieldLink RX0 21 "TableWright$Layout" "notePages" "[I", Cond.fieldLink RX0 24 "TableWright$Layout" "firstRows" "[I", Cond.fieldLink RX0 27 "TableWright$Layout" "rowsOn" "[I", Cond.fieldLink RX0 30 "TableWright$Layout" "notesOn" "[I", Cond.fieldLink RX0 33 "TableWright$Layout" "left" "[I"]
def wsL_law0_r4 : List Cond := [Cond.fieldLink RX0 36 "TableWright$Layout" "lastRows" "[I", Cond.methodLink RL 12 yL_cell, Cond.static yL_cell, Cond.initialized RL, Cond.code yL_cell cL_cell 2 (some .int), Cond.constant RL 8 (790386105), Cond.methodLink RL 18 yL_below, Cond.static yL_below, Cond.code yL_below cL_below 2 (some .int), Cond.constant RL 7 (2147483647), Cond.methodLink RL 22 yX4_column, Cond.instanceMethod yX4_column, Cond.selects RX4 yX4_column yX4_column, Cond.code yX4_column cX4_column 3 (some .int), Cond.methodLink RX4 47 yX4_requireRange, Cond.static yX4_requireRange, Cond.code yX4_requireRange cX4_requireRange 3 none, Cond.classLink RX4 122 "java/lang/IllegalArgumentException", Cond.initialized "java/lang/IllegalArgumentException", Cond.methodLink RX4 51 yX4_requireSpareColumn, Cond.instanceMethod yX4_requireSpareColumn, Cond.selects RX4 yX4_requireSpareColumn yX4_requireSpareColumn, Cond.code yX4_requireSpareColumn cX4_requireSpareColumn 1 none, Cond.classLink RX4 75 "java/lang/IllegalStateException"]
def wsL_law0_r5 : List Cond := [Cond.initialized "java/lang/IllegalStateException", Cond.methodLink RX4 54 yX3_addColumn, Cond.instanceMethod yX3_addColumn, Cond.selects RX3 yX3_addColumn yX3_addColumn, Cond.code yX3_addColumn cX3_addColumn 4 (some .int), Cond.fieldLink RX3 37 "TableWright$Sheet" "columnCount" "I", Cond.methodLink RL 26 yX4_many, Cond.instanceMethod yX4_many, Cond.selects RX4 yX4_many yX4_many, Cond.code yX4_many cX4_many 2 (some .int), Cond.methodLink RX4 131 yX4_refresh, Cond.instanceMethod yX4_refresh, Cond.selects RX4 yX4_refresh yX4_refresh, Cond.code yX4_refresh cX4_refresh 1 none, Cond.methodLink RX4 229 yX3_reckon, Cond.instanceMethod yX3_reckon, Cond.selects RX3 yX3_reckon yX3_reckon, Cond.code yX3_reckon cX3_reckon 2 none, Cond.methodLink RX3 61 yX3_reckonHidden, Cond.instanceMethod yX3_reckonHidden, Cond.selects RX3 yX3_reckonHidden yX3_reckonHidden, Cond.code yX3_reckonHidden cX3_reckonHidden 5 none, Cond.fieldLink RX3 41 "TableWright$Sheet" "rowCount" "I", Cond.methodLink RX3 65 yX3_reckonNumbers]
def wsL_law0_r6 : List Cond := [Cond.instanceMethod yX3_reckonNumbers, Cond.selects RX3 yX3_reckonNumbers yX3_reckonNumbers, Cond.code yX3_reckonNumbers cX3_reckonNumbers 9 none, Cond.methodLink RX3 80 yX3_resultOf, Cond.static yX3_resultOf, Cond.code yX3_resultOf cX3_resultOf 7 (some .int), Cond.constantLong RX3 84 (-99999), Cond.constantLong RX3 86 (99999), Cond.methodLink RX3 88 Lib.MathLoose.min_long.x, Cond.static Lib.MathLoose.min_long.x, Cond.code Lib.MathLoose.min_long.x Lib.MathLoose.min_long.code 4 (some .long), Cond.methodLink RX3 94 Lib.MathLoose.max_long.x, Cond.static Lib.MathLoose.max_long.x, Cond.code Lib.MathLoose.max_long.x Lib.MathLoose.max_long.code 4 (some .long), Cond.methodLink RX3 68 yX3_measureText, Cond.instanceMethod yX3_measureText, Cond.selects RX3 yX3_measureText yX3_measureText, Cond.code yX3_measureText cX3_measureText 5 none, Cond.methodLink RX3 104 Lib.Math.max.name, Cond.static Lib.Math.max.name, Cond.code Lib.Math.max.name Lib.Math.max.code 2 (some .int), Cond.methodLink RX3 110 Lib.Math.min.name, Cond.methodLink RX3 97 yX3_isSpanning, Cond.instanceMethod yX3_isSpanning]
def wsL_law0_r7 : List Cond := [Cond.selects RX3 yX3_isSpanning yX3_isSpanning, Cond.code yX3_isSpanning cX3_isSpanning 3 (some .boolean), Cond.methodLink RX3 71 yX3_measureNumbers, Cond.instanceMethod yX3_measureNumbers, Cond.selects RX3 yX3_measureNumbers yX3_measureNumbers, Cond.code yX3_measureNumbers cX3_measureNumbers 4 none, Cond.methodLink RX3 112 yX3_sizeOf, Cond.static yX3_sizeOf, Cond.code yX3_sizeOf cX3_sizeOf 3 (some .int), Cond.methodLink RX4 232 yX2_arrange, Cond.instanceMethod yX2_arrange, Cond.selects RX2 yX2_arrange yX2_arrange, Cond.code yX2_arrange cX2_arrange 5 none, Cond.fieldLink RX2 31 "TableWright$Setting" "isTurned" "Z", Cond.methodLink RX2 19 yX0_arrange, Cond.instanceMethod yX0_arrange, Cond.selects RX0 yX0_arrange yX0_arrange, Cond.code yX0_arrange cX0_arrange 4 none, Cond.fieldLink RX0 39 "TableWright$Layout" "room" "I", Cond.fieldLink RX0 51 "TableWright$Layout" "isFit" "Z", Cond.fieldLink RX0 55 "TableWright$Layout" "pageCount" "I", Cond.fieldLink RX0 58 "TableWright$Layout" "nextRow" "I", Cond.fieldLink RX0 61 "TableWright$Layout" "nextNote" "I", Cond.methodLink RX0 43 yX0_isWidthFit]
def wsL_law0_r8 : List Cond := [Cond.instanceMethod yX0_isWidthFit, Cond.selects RX0 yX0_isWidthFit yX0_isWidthFit, Cond.code yX0_isWidthFit cX0_isWidthFit 5 (some .boolean), Cond.methodLink RX0 112 yX0_tableWidth, Cond.instanceMethod yX0_tableWidth, Cond.selects RX0 yX0_tableWidth yX0_tableWidth, Cond.code yX0_tableWidth cX0_tableWidth 4 (some .int), Cond.methodLink RX0 116 yX0_mostSpareColumn, Cond.instanceMethod yX0_mostSpareColumn, Cond.selects RX0 yX0_mostSpareColumn yX0_mostSpareColumn, Cond.code yX0_mostSpareColumn cX0_mostSpareColumn 6 (some .int), Cond.methodLink RX0 47 yX0_areHeightsFit, Cond.instanceMethod yX0_areHeightsFit, Cond.selects RX0 yX0_areHeightsFit yX0_areHeightsFit, Cond.code yX0_areHeightsFit cX0_areHeightsFit 5 (some .boolean), Cond.methodLink RX0 104 Lib.Math.max.name, Cond.methodLink RX0 122 yX0_heightOfCell, Cond.instanceMethod yX0_heightOfCell, Cond.selects RX0 yX0_heightOfCell yX0_heightOfCell, Cond.code yX0_heightOfCell cX0_heightOfCell 6 (some .int), Cond.methodLink RX0 97 yX3_isSpanning, Cond.methodLink RX0 69 yX0_fillPage, Cond.instanceMethod yX0_fillPage, Cond.selects RX0 yX0_fillPage yX0_fillPage]
def wsL_law0_r9 : List Cond := [Cond.code yX0_fillPage cX0_fillPage 4 none, Cond.methodLink RX0 126 yX0_putWaitingNotes, Cond.instanceMethod yX0_putWaitingNotes, Cond.selects RX0 yX0_putWaitingNotes yX0_putWaitingNotes, Cond.code yX0_putWaitingNotes cX0_putWaitingNotes 4 none, Cond.methodLink RX0 129 yX0_hasRoomForNextRow, Cond.instanceMethod yX0_hasRoomForNextRow, Cond.selects RX0 yX0_hasRoomForNextRow yX0_hasRoomForNextRow, Cond.code yX0_hasRoomForNextRow cX0_hasRoomForNextRow 5 (some .boolean), Cond.methodLink RX0 142 yX0_heightOfGroup, Cond.instanceMethod yX0_heightOfGroup, Cond.selects RX0 yX0_heightOfGroup yX0_heightOfGroup, Cond.code yX0_heightOfGroup cX0_heightOfGroup 5 (some .int), Cond.methodLink RX0 132 yX0_putNextRow, Cond.instanceMethod yX0_putNextRow, Cond.selects RX0 yX0_putNextRow yX0_putNextRow, Cond.code yX0_putNextRow cX0_putNextRow 2 none, Cond.methodLink RX4 170 yX4_factOfTable, Cond.instanceMethod yX4_factOfTable, Cond.selects RX4 yX4_factOfTable yX4_factOfTable, Cond.code yX4_factOfTable cX4_factOfTable 3 (some .int), Cond.methodLink RX4 143 yX2_chosen, Cond.instanceMethod yX2_chosen, Cond.selects RX2 yX2_chosen yX2_chosen]
def wsL_law0_r10 : List Cond := [Cond.code yX2_chosen cX2_chosen 1 (some (.object "TableWright$Layout")), Cond.methodLink RX4 147 yX0_pagesOrNone, Cond.instanceMethod yX0_pagesOrNone, Cond.selects RX0 yX0_pagesOrNone yX0_pagesOrNone, Cond.code yX0_pagesOrNone cX0_pagesOrNone 1 (some .int), Cond.methodLink RX4 249 yX0_tableWidth, Cond.methodLink RX4 253 yX0_heightOfRows, Cond.instanceMethod yX0_heightOfRows, Cond.selects RX0 yX0_heightOfRows yX0_heightOfRows, Cond.code yX0_heightOfRows cX0_heightOfRows 4 (some .int), Cond.methodLink RX4 256 yX3_linesOfNotes, Cond.instanceMethod yX3_linesOfNotes, Cond.selects RX3 yX3_linesOfNotes yX3_linesOfNotes, Cond.code yX3_linesOfNotes cX3_linesOfNotes 3 (some .int), Cond.methodLink RX4 259 yX0_notesElsewhere, Cond.instanceMethod yX0_notesElsewhere, Cond.selects RX0 yX0_notesElsewhere yX0_notesElsewhere, Cond.code yX0_notesElsewhere cX0_notesElsewhere 4 (some .int), Cond.methodLink RL 30 yX4_row, Cond.instanceMethod yX4_row, Cond.selects RX4 yX4_row yX4_row, Cond.code yX4_row cX4_row 1 (some .int), Cond.methodLink RX4 82 yX3_addRow, Cond.instanceMethod yX3_addRow]
def wsL_law0_r11 : List Cond := [Cond.selects RX3 yX3_addRow yX3_addRow, Cond.code yX3_addRow cX3_addRow 1 (some .int), Cond.methodLink RX3 44 yX1_clear, Cond.instanceMethod yX1_clear, Cond.selects RX1 yX1_clear yX1_clear, Cond.code yX1_clear cX1_clear 2 none, Cond.fieldLink RX1 31 "TableWright$Row" "noteLines" "I", Cond.fieldLink RX1 35 "TableWright$Row" "isKept" "Z", Cond.methodLink RL 34 yX4_note, Cond.instanceMethod yX4_note, Cond.selects RX4 yX4_note yX4_note, Cond.code yX4_note cX4_note 4 (some .int), Cond.methodLink RX4 86 yX4_requireRow, Cond.instanceMethod yX4_requireRow, Cond.selects RX4 yX4_requireRow yX4_requireRow, Cond.code yX4_requireRow cX4_requireRow 2 none, Cond.classLink RX4 211 "java/lang/IndexOutOfBoundsException", Cond.initialized "java/lang/IndexOutOfBoundsException", Cond.methodLink RL 37 yX4_keep, Cond.instanceMethod yX4_keep, Cond.selects RX4 yX4_keep yX4_keep, Cond.code yX4_keep cX4_keep 4 (some .boolean), Cond.methodLink RL 41 yX4_span, Cond.instanceMethod yX4_span]
def wsL_law0_r12 : List Cond := [Cond.selects RX4 yX4_span yX4_span, Cond.code yX4_span cX4_span 4 (some .boolean), Cond.methodLink RX4 58 yX4_requireColumn, Cond.instanceMethod yX4_requireColumn, Cond.selects RX4 yX4_requireColumn yX4_requireColumn, Cond.code yX4_requireColumn cX4_requireColumn 2 none, Cond.methodLink RX4 104 yX4_requireKind, Cond.instanceMethod yX4_requireKind, Cond.selects RX4 yX4_requireKind yX4_requireKind, Cond.code yX4_requireKind cX4_requireKind 3 none, Cond.methodLink RL 50 yX4_text, Cond.instanceMethod yX4_text, Cond.selects RX4 yX4_text yX4_text, Cond.code yX4_text cX4_text 6 (some .int), Cond.methodLink RX4 108 Lib.Math.min.name, Cond.methodLink RL 54 yX4_number, Cond.instanceMethod yX4_number, Cond.selects RX4 yX4_number yX4_number, Cond.code yX4_number cX4_number 5 (some .int), Cond.methodLink RX4 92 yX4_requireNumberCell, Cond.instanceMethod yX4_requireNumberCell, Cond.selects RX4 yX4_requireNumberCell yX4_requireNumberCell, Cond.code yX4_requireNumberCell cX4_requireNumberCell 4 none, Cond.methodLink RL 58 yX4_paper]
def wsL_law0_r13 : List Cond := [Cond.instanceMethod yX4_paper, Cond.selects RX4 yX4_paper yX4_paper, Cond.code yX4_paper cX4_paper 3 (some .int), Cond.methodLink RL 61 yX4_pagesWith, Cond.instanceMethod yX4_pagesWith, Cond.selects RX4 yX4_pagesWith yX4_pagesWith, Cond.code yX4_pagesWith cX4_pagesWith 4 (some .int), Cond.methodLink RX4 180 yX4_pagesIn, Cond.instanceMethod yX4_pagesIn, Cond.selects RX4 yX4_pagesIn yX4_pagesIn, Cond.code yX4_pagesIn cX4_pagesIn 3 (some .int), Cond.methodLink RX4 236 yX0_arrange, Cond.methodLink RL 65 yL_isLaid, Cond.static yL_isLaid, Cond.code yL_isLaid cL_isLaid 17 (some .boolean), Cond.methodLink RL 90 Lib.Math.max.name, Cond.methodLink RL 78 yX4_ofColumn, Cond.instanceMethod yX4_ofColumn, Cond.selects RX4 yX4_ofColumn yX4_ofColumn, Cond.code yX4_ofColumn cX4_ofColumn 3 (some .int), Cond.methodLink RX4 154 yX4_factOfColumn, Cond.instanceMethod yX4_factOfColumn, Cond.selects RX4 yX4_factOfColumn yX4_factOfColumn, Cond.code yX4_factOfColumn cX4_factOfColumn 4 (some .int)]
def wsL_law0_r14 : List Cond := [Cond.methodLink RX4 271 yX3_sumUpTo, Cond.instanceMethod yX3_sumUpTo, Cond.selects RX3 yX3_sumUpTo yX3_sumUpTo, Cond.code yX3_sumUpTo cX3_sumUpTo 3 (some .int), Cond.methodLink RL 81 yX4_ofPage, Cond.instanceMethod yX4_ofPage, Cond.selects RX4 yX4_ofPage yX4_ofPage, Cond.code yX4_ofPage cX4_ofPage 3 (some .int), Cond.methodLink RX4 160 yX4_requirePage, Cond.instanceMethod yX4_requirePage, Cond.selects RX4 yX4_requirePage yX4_requirePage, Cond.code yX4_requirePage cX4_requirePage 2 none, Cond.methodLink RX4 163 yX4_factOfPage, Cond.instanceMethod yX4_factOfPage, Cond.selects RX4 yX4_factOfPage yX4_factOfPage, Cond.code yX4_factOfPage cX4_factOfPage 4 (some .int), Cond.methodLink RX4 289 yX0_readAloud, Cond.instanceMethod yX0_readAloud, Cond.selects RX0 yX0_readAloud yX0_readAloud, Cond.code yX0_readAloud cX0_readAloud 5 (some .int), Cond.methodLink RX0 83 yX0_shownCells, Cond.static yX0_shownCells, Cond.code yX0_shownCells cX0_shownCells 4 (some .int), Cond.methodLink RL 84 yX4_ofRow]
def wsL_law0_r15 : List Cond := [Cond.instanceMethod yX4_ofRow, Cond.selects RX4 yX4_ofRow yX4_ofRow, Cond.code yX4_ofRow cX4_ofRow 3 (some .int), Cond.methodLink RX4 157 yX4_factOfRow, Cond.instanceMethod yX4_factOfRow, Cond.selects RX4 yX4_factOfRow yX4_factOfRow, Cond.code yX4_factOfRow cX4_factOfRow 4 (some .int), Cond.methodLink RL 87 yX4_carried, Cond.instanceMethod yX4_carried, Cond.selects RX4 yX4_carried yX4_carried, Cond.code yX4_carried cX4_carried 3 (some .int), Cond.methodLink RX4 166 yX0_carriedOn, Cond.instanceMethod yX0_carriedOn, Cond.selects RX0 yX0_carriedOn yX0_carriedOn, Cond.code yX0_carriedOn cX0_carriedOn 4 (some .int), Cond.methodLink RX0 76 yX3_sumUpTo, Cond.methodLink RL 73 yX4_cell, Cond.instanceMethod yX4_cell, Cond.selects RX4 yX4_cell yX4_cell, Cond.code yX4_cell cX4_cell 4 (some .int), Cond.methodLink RX4 150 yX4_factOfCell, Cond.instanceMethod yX4_factOfCell, Cond.selects RX4 yX4_factOfCell yX4_factOfCell, Cond.code yX4_factOfCell cX4_factOfCell 6 (some .int)]
def wsL_law0_r16 : List Cond := [Cond.methodLink RX4 283 yX0_heightOfCell, Cond.methodLink RL 93 yL_isTogether, Cond.static yL_isTogether, Cond.code yL_isTogether cL_isTogether 10 (some .boolean), Cond.methodLink RL 69 yX4_digest, Cond.instanceMethod yX4_digest, Cond.selects RX4 yX4_digest yX4_digest, Cond.code yX4_digest cX4_digest 5 (some .long), Cond.constantLong RX4 197 (58119), Cond.methodLink RX4 199 yX4_digestWith, Cond.static yX4_digestWith, Cond.code yX4_digestWith cX4_digestWith 3 (some .long), Cond.constantLong RX4 293 (31), Cond.methodLink RX4 203 yX4_digestWithRow, Cond.instanceMethod yX4_digestWithRow, Cond.selects RX4 yX4_digestWithRow yX4_digestWithRow, Cond.code yX4_digestWithRow cX4_digestWithRow 8 (some .long), Cond.methodLink RX4 206 yX4_digestWithPage, Cond.instanceMethod yX4_digestWithPage, Cond.selects RX4 yX4_digestWithPage yX4_digestWithPage, Cond.code yX4_digestWithPage cX4_digestWithPage 7 (some .long), Cond.methodLink RL 75 yX4_changedBy, Cond.instanceMethod yX4_changedBy, Cond.selects RX4 yX4_changedBy yX4_changedBy]
def wsL_law0_r17 : List Cond := [Cond.code yX4_changedBy cX4_changedBy 10 (some .int), Cond.methodLink RX4 190 Lib.Math.max.name, Cond.methodLink RX4 183 yX3_copyFrom, Cond.instanceMethod yX3_copyFrom, Cond.selects RX3 yX3_copyFrom yX3_copyFrom, Cond.code yX3_copyFrom cX3_copyFrom 3 none, Cond.methodLink RX3 47 yX1_copyFrom, Cond.instanceMethod yX1_copyFrom, Cond.selects RX1 yX1_copyFrom yX1_copyFrom, Cond.code yX1_copyFrom cX1_copyFrom 3 none, Cond.methodLink RX4 187 yX4_layoutOfTrial, Cond.instanceMethod yX4_layoutOfTrial, Cond.selects RX4 yX4_layoutOfTrial yX4_layoutOfTrial, Cond.code yX4_layoutOfTrial cX4_layoutOfTrial 1 (some (.object "TableWright$Layout")), Cond.methodLink RX4 193 yX4_isPageOther, Cond.instanceMethod yX4_isPageOther, Cond.selects RX4 yX4_isPageOther yX4_isPageOther, Cond.code yX4_isPageOther cX4_isPageOther 5 (some .boolean)]
def wsL_law0 : List Cond := (wsL_law0_r1 ++ (wsL_law0_r2 ++ (wsL_law0_r3 ++ (wsL_law0_r4 ++ (wsL_law0_r5 ++ (wsL_law0_r6 ++ (wsL_law0_r7 ++ (wsL_law0_r8 ++ (wsL_law0_r9 ++ (wsL_law0_r10 ++ (wsL_law0_r11 ++ (wsL_law0_r12 ++ (wsL_law0_r13 ++ (wsL_law0_r14 ++ (wsL_law0_r15 ++ (wsL_law0_r16 ++ wsL_law0_r17)))))))))))))))) ++ wsX40 ++ wsX30 ++ wsX20 ++ wsX00 ++ wsX10 ++ ([] : List Cond)
def wsL_law : List Cond := wsL_law0 ++ (vx_atS RX4 126 "java/lang/IllegalArgumentException" ["java/lang/RuntimeException", "java/lang/Exception"]).filter goodWord ++ (vx_atS RX4 79 "java/lang/IllegalStateException" ["java/lang/RuntimeException", "java/lang/Exception"]).filter goodWord ++ (vx_atS RX4 215 "java/lang/IndexOutOfBoundsException" ["java/lang/RuntimeException", "java/lang/Exception"]).filter goodWord
set_option maxRecDepth 20000 in
theorem wsL_law_in0 : ∀ w ∈ wsL_law0, w ∈ lw_tbl := fun w h => (goodIn_p wsL_law0 [410, 47, 50, 55, 62, 153, 159, 643, 639, 257, 260, 332, 352, 548, 419, 423, 427, 431, 434, 439, 442, 446, 453, 450, 458, 461, 465, 469, 473, 477, 481, 485, 489, 495, 499, 503, 507, 511, 552, 527, 531, 557, 561, 565, 356, 361, 365, 515, 377, 519, 414, 397, 402, 407, 369, 373, 523, 569, 573, 647, 651, 613, 544, 655, 659, 629, 633, 636, 664, 621, 668, 599, 535, 539, 672, 604, 608, 617, 625, 578, 582, 586, 590, 595] (by decide +kernel) (by decide +kernel) w h).1
theorem wsL_law_x0 : ∀ w ∈ (vx_atS RX4 126 "java/lang/IllegalArgumentException" ["java/lang/RuntimeException", "java/lang/Exception"]).filter goodWord, w ∈ lw_tbl := by decide +kernel
theorem wsL_law_x1 : ∀ w ∈ (vx_atS RX4 79 "java/lang/IllegalStateException" ["java/lang/RuntimeException", "java/lang/Exception"]).filter goodWord, w ∈ lw_tbl := by decide +kernel
theorem wsL_law_x2 : ∀ w ∈ (vx_atS RX4 215 "java/lang/IndexOutOfBoundsException" ["java/lang/RuntimeException", "java/lang/Exception"]).filter goodWord, w ∈ lw_tbl := by decide +kernel
theorem wsL_law_in : ∀ w ∈ wsL_law, w ∈ lw_tbl := fun w h => (List.mem_append.mp h).elim (fun h => (List.mem_append.mp h).elim (fun h => (List.mem_append.mp h).elim (fun h => wsL_law_in0 w h) (fun h => wsL_law_x0 w h)) (fun h => wsL_law_x1 w h)) (fun h => wsL_law_x2 w h)
theorem inlX0 : ∀ w ∈ wsX00, w ∈ wsL_law := fun _ h => List.mem_append_left _ (List.mem_append_left _ (List.mem_append_left _ (List.mem_append_left _ (List.mem_append_left _ (List.mem_append_right _ h)))))
theorem inX0 : ∀ w ∈ wsX00, w ∈ lw_tbl := fun w h => wsL_law_in w (inlX0 w h)
theorem inlX1 : ∀ w ∈ wsX10, w ∈ wsL_law := fun _ h => List.mem_append_left _ (List.mem_append_left _ (List.mem_append_left _ (List.mem_append_left _ (List.mem_append_right _ h))))
theorem inX1 : ∀ w ∈ wsX10, w ∈ lw_tbl := fun w h => wsL_law_in w (inlX1 w h)
theorem inlX2 : ∀ w ∈ wsX20, w ∈ wsL_law := fun _ h => List.mem_append_left _ (List.mem_append_left _ (List.mem_append_left _ (List.mem_append_left _ (List.mem_append_left _ (List.mem_append_left _ (List.mem_append_right _ h))))))
theorem inX2 : ∀ w ∈ wsX20, w ∈ lw_tbl := fun w h => wsL_law_in w (inlX2 w h)
theorem inlX3 : ∀ w ∈ wsX30, w ∈ wsL_law := fun _ h => List.mem_append_left _ (List.mem_append_left _ (List.mem_append_left _ (List.mem_append_left _ (List.mem_append_left _ (List.mem_append_left _ (List.mem_append_left _ (List.mem_append_right _ h)))))))
theorem inX3 : ∀ w ∈ wsX30, w ∈ lw_tbl := fun w h => wsL_law_in w (inlX3 w h)
theorem inlX4 : ∀ w ∈ wsX40, w ∈ wsL_law := fun _ h => List.mem_append_left _ (List.mem_append_left _ (List.mem_append_left _ (List.mem_append_left _ (List.mem_append_left _ (List.mem_append_left _ (List.mem_append_left _ (List.mem_append_left _ (List.mem_append_right _ h))))))))
theorem inX4 : ∀ w ∈ wsX40, w ∈ lw_tbl := fun w h => wsL_law_in w (inlX4 w h)
theorem inX5 : ∀ w ∈ wsX50, w ∈ lw_tbl := by decide +kernel
theorem inX6 : ∀ w ∈ wsX60, w ∈ lw_tbl := by decide +kernel
theorem inX7 : ∀ w ∈ wsX70, w ∈ lw_tbl := by decide +kernel
theorem inX8 : ∀ w ∈ wsX80, w ∈ lw_tbl := by decide +kernel
theorem inX9 : ∀ w ∈ wsX90, w ∈ lw_tbl := by decide +kernel
theorem inX10 : ∀ w ∈ wsX100, w ∈ lw_tbl := by decide +kernel
theorem inJx145de : ∀ w ∈ wsJx145de0, w ∈ lw_tbl := by decide +kernel
theorem inJ9 : ∀ w ∈ wsJ90, w ∈ lw_tbl := by decide +kernel
theorem inJ0 : ∀ w ∈ wsJ00, w ∈ lw_tbl := by decide +kernel
theorem dX0_init_0 : decode cX0_init 0 = .ok (.aload_n 0, 1) := by decide +kernel
theorem dX0_init_1 : decode cX0_init 1 = .ok (.invokespecial 3, 3) := by decide +kernel
theorem dX0_init_4 : decode cX0_init 4 = .ok (.aload_n 0, 1) := by decide +kernel
theorem dX0_init_5 : decode cX0_init 5 = .ok (.bipush 6, 2) := by decide +kernel
theorem dX0_init_7 : decode cX0_init 7 = .ok (.newarray .int, 2) := by decide +kernel
theorem dX0_init_9 : decode cX0_init 9 = .ok (.putfield 9, 3) := by decide +kernel
theorem dX0_init_12 : decode cX0_init 12 = .ok (.aload_n 0, 1) := by decide +kernel
theorem dX0_init_13 : decode cX0_init 13 = .ok (.bipush 30, 2) := by decide +kernel
theorem dX0_init_15 : decode cX0_init 15 = .ok (.newarray .int, 2) := by decide +kernel
theorem dX0_init_17 : decode cX0_init 17 = .ok (.putfield 15, 3) := by decide +kernel
theorem dX0_init_20 : decode cX0_init 20 = .ok (.aload_n 0, 1) := by decide +kernel
theorem dX0_init_21 : decode cX0_init 21 = .ok (.bipush 30, 2) := by decide +kernel
theorem dX0_init_23 : decode cX0_init 23 = .ok (.newarray .int, 2) := by decide +kernel
theorem dX0_init_25 : decode cX0_init 25 = .ok (.putfield 18, 3) := by decide +kernel
theorem dX0_init_28 : decode cX0_init 28 = .ok (.aload_n 0, 1) := by decide +kernel
theorem dX0_init_29 : decode cX0_init 29 = .ok (.bipush 30, 2) := by decide +kernel
theorem dX0_init_31 : decode cX0_init 31 = .ok (.newarray .int, 2) := by decide +kernel
theorem dX0_init_33 : decode cX0_init 33 = .ok (.putfield 21, 3) := by decide +kernel
theorem dX0_init_36 : decode cX0_init 36 = .ok (.aload_n 0, 1) := by decide +kernel
theorem dX0_init_37 : decode cX0_init 37 = .ok (.bipush 60, 2) := by decide +kernel
theorem dX0_init_39 : decode cX0_init 39 = .ok (.newarray .int, 2) := by decide +kernel
theorem dX0_init_41 : decode cX0_init 41 = .ok (.putfield 24, 3) := by decide +kernel
theorem dX0_init_44 : decode cX0_init 44 = .ok (.aload_n 0, 1) := by decide +kernel
theorem dX0_init_45 : decode cX0_init 45 = .ok (.bipush 60, 2) := by decide +kernel
theorem dX0_init_47 : decode cX0_init 47 = .ok (.newarray .int, 2) := by decide +kernel
theorem dX0_init_49 : decode cX0_init 49 = .ok (.putfield 27, 3) := by decide +kernel
theorem dX0_init_52 : decode cX0_init 52 = .ok (.aload_n 0, 1) := by decide +kernel
theorem dX0_init_53 : decode cX0_init 53 = .ok (.bipush 60, 2) := by decide +kernel
theorem dX0_init_55 : decode cX0_init 55 = .ok (.newarray .int, 2) := by decide +kernel
theorem dX0_init_57 : decode cX0_init 57 = .ok (.putfield 30, 3) := by decide +kernel
theorem dX0_init_60 : decode cX0_init 60 = .ok (.aload_n 0, 1) := by decide +kernel
theorem dX0_init_61 : decode cX0_init 61 = .ok (.bipush 60, 2) := by decide +kernel
theorem dX0_init_63 : decode cX0_init 63 = .ok (.newarray .int, 2) := by decide +kernel
theorem dX0_init_65 : decode cX0_init 65 = .ok (.putfield 33, 3) := by decide +kernel
theorem dX0_init_68 : decode cX0_init 68 = .ok (.aload_n 0, 1) := by decide +kernel
theorem dX0_init_69 : decode cX0_init 69 = .ok (.bipush 60, 2) := by decide +kernel
theorem dX0_init_71 : decode cX0_init 71 = .ok (.newarray .int, 2) := by decide +kernel
theorem dX0_init_73 : decode cX0_init 73 = .ok (.putfield 36, 3) := by decide +kernel
theorem dX0_init_76 : decode cX0_init 76 = .ok (.return_, 1) := by decide +kernel
set_option maxRecDepth 20000 in
theorem ggX0_arrange_X0_isWidthFit : GoodIn wsX0_arrange wsX0_isWidthFit := goodIn_r _ [10, 11, 12, 13, 14, 9, 15, 16, 17, 18, 19, 81, 82, 83, 84, 85, 86, 87, 88, 89, 67, 68, 69, 70, 71, 72, 73, 74, 75, 76, 77, 78, 79, 80] (by decide +kernel) (by decide +kernel)
set_option maxRecDepth 20000 in
theorem gX0_arrange_X0_isWidthFit : GoodIn wsX0_arrange (wsV RX0 43 RX0 yX0_isWidthFit wsX0_isWidthFit) := goodIn_app (goodIn_of _ (by decide +kernel)) ggX0_arrange_X0_isWidthFit
set_option maxRecDepth 20000 in
theorem ggX0_arrange_X0_areHeightsFit : GoodIn wsX0_arrange wsX0_areHeightsFit := goodIn_r _ [23, 24, 25, 26, 27, 1, 28, 29, 30, 31, 9, 32, 11, 33, 34, 35, 36, 37, 38, 39, 81, 82, 83, 84, 85, 86, 87, 88, 89, 67, 68, 69, 70, 71, 72, 73, 74, 75, 76, 77, 78, 79, 80, 90, 91, 92, 93, 94, 95, 96, 97] (by decide +kernel) (by decide +kernel)
set_option maxRecDepth 20000 in
theorem gX0_arrange_X0_areHeightsFit : GoodIn wsX0_arrange (wsV RX0 47 RX0 yX0_areHeightsFit wsX0_areHeightsFit) := goodIn_app (goodIn_of _ (by decide +kernel)) ggX0_arrange_X0_areHeightsFit
set_option maxRecDepth 20000 in
theorem ggX0_arrange_X0_fillPage : GoodIn wsX0_arrange wsX0_fillPage := goodIn_r _ [43, 44, 45, 46, 47, 1, 4, 5, 48, 49, 50, 51, 9, 52, 53, 54, 55, 56, 57, 28, 58, 59, 60, 61, 62, 63, 64, 65, 66, 67, 68, 69, 70, 71, 72, 73, 74, 75, 76, 77, 78, 79, 80, 81, 82, 83, 84, 85, 86, 87, 88, 89, 90, 91, 92, 93, 94, 95, 96, 97] (by decide +kernel) (by decide +kernel)
set_option maxRecDepth 20000 in
theorem gX0_arrange_X0_fillPage : GoodIn wsX0_arrange (wsV RX0 69 RX0 yX0_fillPage wsX0_fillPage) := goodIn_app (goodIn_of _ (by decide +kernel)) ggX0_arrange_X0_fillPage
theorem dX0_arrange_0 : decode cX0_arrange 0 = .ok (.aload_n 0, 1) := by decide +kernel
theorem dX0_arrange_1 : decode cX0_arrange 1 = .ok (.iload_n 3, 1) := by decide +kernel
theorem dX0_arrange_2 : decode cX0_arrange 2 = .ok (.iconst 3, 1) := by decide +kernel
theorem dX0_arrange_3 : decode cX0_arrange 3 = .ok (.isub, 1) := by decide +kernel
theorem dX0_arrange_4 : decode cX0_arrange 4 = .ok (.putfield 39, 3) := by decide +kernel
theorem dX0_arrange_7 : decode cX0_arrange 7 = .ok (.aload_n 0, 1) := by decide +kernel
theorem dX0_arrange_8 : decode cX0_arrange 8 = .ok (.aload_n 0, 1) := by decide +kernel
theorem dX0_arrange_9 : decode cX0_arrange 9 = .ok (.aload_n 1, 1) := by decide +kernel
theorem dX0_arrange_10 : decode cX0_arrange 10 = .ok (.iload_n 2, 1) := by decide +kernel
theorem dX0_arrange_11 : decode cX0_arrange 11 = .ok (.invokevirtual 43, 3) := by decide +kernel
theorem dX0_arrange_14 : decode cX0_arrange 14 = .ok (.ifCond .eq 15, 3) := by decide +kernel
theorem dX0_arrange_17 : decode cX0_arrange 17 = .ok (.aload_n 0, 1) := by decide +kernel
theorem dX0_arrange_18 : decode cX0_arrange 18 = .ok (.aload_n 1, 1) := by decide +kernel
theorem dX0_arrange_19 : decode cX0_arrange 19 = .ok (.invokevirtual 47, 3) := by decide +kernel
theorem dX0_arrange_22 : decode cX0_arrange 22 = .ok (.ifCond .eq 7, 3) := by decide +kernel
theorem dX0_arrange_25 : decode cX0_arrange 25 = .ok (.iconst 1, 1) := by decide +kernel
theorem dX0_arrange_26 : decode cX0_arrange 26 = .ok (.goto 4, 3) := by decide +kernel
theorem dX0_arrange_29 : decode cX0_arrange 29 = .ok (.iconst 0, 1) := by decide +kernel
theorem dX0_arrange_30 : decode cX0_arrange 30 = .ok (.putfield 51, 3) := by decide +kernel
theorem dX0_arrange_33 : decode cX0_arrange 33 = .ok (.aload_n 0, 1) := by decide +kernel
theorem dX0_arrange_34 : decode cX0_arrange 34 = .ok (.iconst 0, 1) := by decide +kernel
theorem dX0_arrange_35 : decode cX0_arrange 35 = .ok (.putfield 55, 3) := by decide +kernel
theorem dX0_arrange_38 : decode cX0_arrange 38 = .ok (.aload_n 0, 1) := by decide +kernel
theorem dX0_arrange_39 : decode cX0_arrange 39 = .ok (.iconst 0, 1) := by decide +kernel
theorem dX0_arrange_40 : decode cX0_arrange 40 = .ok (.putfield 58, 3) := by decide +kernel
theorem dX0_arrange_43 : decode cX0_arrange 43 = .ok (.aload_n 0, 1) := by decide +kernel
theorem dX0_arrange_44 : decode cX0_arrange 44 = .ok (.iconst 0, 1) := by decide +kernel
theorem dX0_arrange_45 : decode cX0_arrange 45 = .ok (.putfield 61, 3) := by decide +kernel
theorem dX0_arrange_48 : decode cX0_arrange 48 = .ok (.aload_n 0, 1) := by decide +kernel
theorem dX0_arrange_49 : decode cX0_arrange 49 = .ok (.getfield 51, 3) := by decide +kernel
theorem dX0_arrange_52 : decode cX0_arrange 52 = .ok (.ifCond .eq 56, 3) := by decide +kernel
theorem dX0_arrange_55 : decode cX0_arrange 55 = .ok (.aload_n 0, 1) := by decide +kernel
theorem dX0_arrange_56 : decode cX0_arrange 56 = .ok (.getfield 55, 3) := by decide +kernel
theorem dX0_arrange_59 : decode cX0_arrange 59 = .ok (.bipush 60, 2) := by decide +kernel
theorem dX0_arrange_61 : decode cX0_arrange 61 = .ok (.if_icmp .ge 47, 3) := by decide +kernel
theorem dX0_arrange_64 : decode cX0_arrange 64 = .ok (.aload_n 0, 1) := by decide +kernel
theorem dX0_arrange_65 : decode cX0_arrange 65 = .ok (.getfield 58, 3) := by decide +kernel
theorem dX0_arrange_68 : decode cX0_arrange 68 = .ok (.aload_n 1, 1) := by decide +kernel
theorem dX0_arrange_69 : decode cX0_arrange 69 = .ok (.getfield 64, 3) := by decide +kernel
theorem dX0_arrange_72 : decode cX0_arrange 72 = .ok (.if_icmp .lt 14, 3) := by decide +kernel
theorem dX0_arrange_75 : decode cX0_arrange 75 = .ok (.aload_n 0, 1) := by decide +kernel
theorem dX0_arrange_76 : decode cX0_arrange 76 = .ok (.getfield 61, 3) := by decide +kernel
theorem dX0_arrange_79 : decode cX0_arrange 79 = .ok (.aload_n 0, 1) := by decide +kernel
theorem dX0_arrange_80 : decode cX0_arrange 80 = .ok (.getfield 58, 3) := by decide +kernel
theorem dX0_arrange_83 : decode cX0_arrange 83 = .ok (.if_icmp .ge 25, 3) := by decide +kernel
theorem dX0_arrange_86 : decode cX0_arrange 86 = .ok (.aload_n 0, 1) := by decide +kernel
theorem dX0_arrange_87 : decode cX0_arrange 87 = .ok (.aload_n 1, 1) := by decide +kernel
theorem dX0_arrange_88 : decode cX0_arrange 88 = .ok (.aload_n 0, 1) := by decide +kernel
theorem dX0_arrange_89 : decode cX0_arrange 89 = .ok (.getfield 55, 3) := by decide +kernel
theorem dX0_arrange_92 : decode cX0_arrange 92 = .ok (.invokevirtual 69, 3) := by decide +kernel
theorem dX0_arrange_95 : decode cX0_arrange 95 = .ok (.aload_n 0, 1) := by decide +kernel
theorem dX0_arrange_96 : decode cX0_arrange 96 = .ok (.dup, 1) := by decide +kernel
theorem dX0_arrange_97 : decode cX0_arrange 97 = .ok (.getfield 55, 3) := by decide +kernel
theorem dX0_arrange_100 : decode cX0_arrange 100 = .ok (.iconst 1, 1) := by decide +kernel
theorem dX0_arrange_101 : decode cX0_arrange 101 = .ok (.iadd, 1) := by decide +kernel
theorem dX0_arrange_102 : decode cX0_arrange 102 = .ok (.putfield 55, 3) := by decide +kernel
theorem dX0_arrange_105 : decode cX0_arrange 105 = .ok (.goto (-57), 3) := by decide +kernel
theorem dX0_arrange_108 : decode cX0_arrange 108 = .ok (.return_, 1) := by decide +kernel
theorem dX0_pagesOrNone_0 : decode cX0_pagesOrNone 0 = .ok (.aload_n 0, 1) := by decide +kernel
theorem dX0_pagesOrNone_1 : decode cX0_pagesOrNone 1 = .ok (.getfield 51, 3) := by decide +kernel
theorem dX0_pagesOrNone_4 : decode cX0_pagesOrNone 4 = .ok (.ifCond .eq 10, 3) := by decide +kernel
theorem dX0_pagesOrNone_7 : decode cX0_pagesOrNone 7 = .ok (.aload_n 0, 1) := by decide +kernel
theorem dX0_pagesOrNone_8 : decode cX0_pagesOrNone 8 = .ok (.getfield 55, 3) := by decide +kernel
theorem dX0_pagesOrNone_11 : decode cX0_pagesOrNone 11 = .ok (.goto 4, 3) := by decide +kernel
theorem dX0_pagesOrNone_14 : decode cX0_pagesOrNone 14 = .ok (.iconst (-1), 1) := by decide +kernel
theorem dX0_pagesOrNone_15 : decode cX0_pagesOrNone 15 = .ok (.ireturn, 1) := by decide +kernel
theorem dX0_tableWidth_0 : decode cX0_tableWidth 0 = .ok (.aload_n 1, 1) := by decide +kernel
theorem dX0_tableWidth_1 : decode cX0_tableWidth 1 = .ok (.getfield 73, 3) := by decide +kernel
theorem dX0_tableWidth_4 : decode cX0_tableWidth 4 = .ok (.iconst 1, 1) := by decide +kernel
theorem dX0_tableWidth_5 : decode cX0_tableWidth 5 = .ok (.isub, 1) := by decide +kernel
theorem dX0_tableWidth_6 : decode cX0_tableWidth 6 = .ok (.istore_n 2, 1) := by decide +kernel
theorem dX0_tableWidth_7 : decode cX0_tableWidth 7 = .ok (.iconst 0, 1) := by decide +kernel
theorem dX0_tableWidth_8 : decode cX0_tableWidth 8 = .ok (.istore_n 3, 1) := by decide +kernel
theorem dX0_tableWidth_9 : decode cX0_tableWidth 9 = .ok (.iload_n 3, 1) := by decide +kernel
theorem dX0_tableWidth_10 : decode cX0_tableWidth 10 = .ok (.aload_n 1, 1) := by decide +kernel
theorem dX0_tableWidth_11 : decode cX0_tableWidth 11 = .ok (.getfield 73, 3) := by decide +kernel
theorem dX0_tableWidth_14 : decode cX0_tableWidth 14 = .ok (.if_icmp .ge 18, 3) := by decide +kernel
theorem dX0_tableWidth_17 : decode cX0_tableWidth 17 = .ok (.iload_n 2, 1) := by decide +kernel
theorem dX0_tableWidth_18 : decode cX0_tableWidth 18 = .ok (.aload_n 0, 1) := by decide +kernel
theorem dX0_tableWidth_19 : decode cX0_tableWidth 19 = .ok (.getfield 9, 3) := by decide +kernel
theorem dX0_tableWidth_22 : decode cX0_tableWidth 22 = .ok (.iload_n 3, 1) := by decide +kernel
theorem dX0_tableWidth_23 : decode cX0_tableWidth 23 = .ok (.iaload, 1) := by decide +kernel
theorem dX0_tableWidth_24 : decode cX0_tableWidth 24 = .ok (.iadd, 1) := by decide +kernel
theorem dX0_tableWidth_25 : decode cX0_tableWidth 25 = .ok (.istore_n 2, 1) := by decide +kernel
theorem dX0_tableWidth_26 : decode cX0_tableWidth 26 = .ok (.iinc 3 1, 3) := by decide +kernel
theorem dX0_tableWidth_29 : decode cX0_tableWidth 29 = .ok (.goto (-20), 3) := by decide +kernel
theorem dX0_tableWidth_32 : decode cX0_tableWidth 32 = .ok (.iload_n 2, 1) := by decide +kernel
theorem dX0_tableWidth_33 : decode cX0_tableWidth 33 = .ok (.ireturn, 1) := by decide +kernel
theorem dX0_heightOfRows_0 : decode cX0_heightOfRows 0 = .ok (.iconst 0, 1) := by decide +kernel
theorem dX0_heightOfRows_1 : decode cX0_heightOfRows 1 = .ok (.istore_n 2, 1) := by decide +kernel
theorem dX0_heightOfRows_2 : decode cX0_heightOfRows 2 = .ok (.iconst 0, 1) := by decide +kernel
theorem dX0_heightOfRows_3 : decode cX0_heightOfRows 3 = .ok (.istore_n 3, 1) := by decide +kernel
theorem dX0_heightOfRows_4 : decode cX0_heightOfRows 4 = .ok (.iload_n 3, 1) := by decide +kernel
theorem dX0_heightOfRows_5 : decode cX0_heightOfRows 5 = .ok (.aload_n 1, 1) := by decide +kernel
theorem dX0_heightOfRows_6 : decode cX0_heightOfRows 6 = .ok (.getfield 64, 3) := by decide +kernel
theorem dX0_heightOfRows_9 : decode cX0_heightOfRows 9 = .ok (.if_icmp .ge 18, 3) := by decide +kernel
theorem dX0_heightOfRows_12 : decode cX0_heightOfRows 12 = .ok (.iload_n 2, 1) := by decide +kernel
theorem dX0_heightOfRows_13 : decode cX0_heightOfRows 13 = .ok (.aload_n 0, 1) := by decide +kernel
theorem dX0_heightOfRows_14 : decode cX0_heightOfRows 14 = .ok (.getfield 15, 3) := by decide +kernel
theorem dX0_heightOfRows_17 : decode cX0_heightOfRows 17 = .ok (.iload_n 3, 1) := by decide +kernel
theorem dX0_heightOfRows_18 : decode cX0_heightOfRows 18 = .ok (.iaload, 1) := by decide +kernel
theorem dX0_heightOfRows_19 : decode cX0_heightOfRows 19 = .ok (.iadd, 1) := by decide +kernel
theorem dX0_heightOfRows_20 : decode cX0_heightOfRows 20 = .ok (.istore_n 2, 1) := by decide +kernel
theorem dX0_heightOfRows_21 : decode cX0_heightOfRows 21 = .ok (.iinc 3 1, 3) := by decide +kernel
theorem dX0_heightOfRows_24 : decode cX0_heightOfRows 24 = .ok (.goto (-20), 3) := by decide +kernel
theorem dX0_heightOfRows_27 : decode cX0_heightOfRows 27 = .ok (.iload_n 2, 1) := by decide +kernel
theorem dX0_heightOfRows_28 : decode cX0_heightOfRows 28 = .ok (.ireturn, 1) := by decide +kernel
theorem dX0_notesElsewhere_0 : decode cX0_notesElsewhere 0 = .ok (.iconst 0, 1) := by decide +kernel
theorem dX0_notesElsewhere_1 : decode cX0_notesElsewhere 1 = .ok (.istore_n 2, 1) := by decide +kernel
theorem dX0_notesElsewhere_2 : decode cX0_notesElsewhere 2 = .ok (.iconst 0, 1) := by decide +kernel
theorem dX0_notesElsewhere_3 : decode cX0_notesElsewhere 3 = .ok (.istore_n 3, 1) := by decide +kernel
theorem dX0_notesElsewhere_4 : decode cX0_notesElsewhere 4 = .ok (.iload_n 3, 1) := by decide +kernel
theorem dX0_notesElsewhere_5 : decode cX0_notesElsewhere 5 = .ok (.aload_n 1, 1) := by decide +kernel
theorem dX0_notesElsewhere_6 : decode cX0_notesElsewhere 6 = .ok (.getfield 64, 3) := by decide +kernel
theorem dX0_notesElsewhere_9 : decode cX0_notesElsewhere 9 = .ok (.if_icmp .ge 37, 3) := by decide +kernel
theorem dX0_notesElsewhere_12 : decode cX0_notesElsewhere 12 = .ok (.aload_n 0, 1) := by decide +kernel
theorem dX0_notesElsewhere_13 : decode cX0_notesElsewhere 13 = .ok (.getfield 21, 3) := by decide +kernel
theorem dX0_notesElsewhere_16 : decode cX0_notesElsewhere 16 = .ok (.iload_n 3, 1) := by decide +kernel
theorem dX0_notesElsewhere_17 : decode cX0_notesElsewhere 17 = .ok (.iaload, 1) := by decide +kernel
theorem dX0_notesElsewhere_18 : decode cX0_notesElsewhere 18 = .ok (.iconst (-1), 1) := by decide +kernel
theorem dX0_notesElsewhere_19 : decode cX0_notesElsewhere 19 = .ok (.if_icmp .eq 21, 3) := by decide +kernel
theorem dX0_notesElsewhere_22 : decode cX0_notesElsewhere 22 = .ok (.aload_n 0, 1) := by decide +kernel
theorem dX0_notesElsewhere_23 : decode cX0_notesElsewhere 23 = .ok (.getfield 21, 3) := by decide +kernel
theorem dX0_notesElsewhere_26 : decode cX0_notesElsewhere 26 = .ok (.iload_n 3, 1) := by decide +kernel
theorem dX0_notesElsewhere_27 : decode cX0_notesElsewhere 27 = .ok (.iaload, 1) := by decide +kernel
theorem dX0_notesElsewhere_28 : decode cX0_notesElsewhere 28 = .ok (.aload_n 0, 1) := by decide +kernel
theorem dX0_notesElsewhere_29 : decode cX0_notesElsewhere 29 = .ok (.getfield 18, 3) := by decide +kernel
theorem dX0_notesElsewhere_32 : decode cX0_notesElsewhere 32 = .ok (.iload_n 3, 1) := by decide +kernel
theorem dX0_notesElsewhere_33 : decode cX0_notesElsewhere 33 = .ok (.iaload, 1) := by decide +kernel
theorem dX0_notesElsewhere_34 : decode cX0_notesElsewhere 34 = .ok (.if_icmp .eq 6, 3) := by decide +kernel
theorem dX0_notesElsewhere_37 : decode cX0_notesElsewhere 37 = .ok (.iinc 2 1, 3) := by decide +kernel
theorem dX0_notesElsewhere_40 : decode cX0_notesElsewhere 40 = .ok (.iinc 3 1, 3) := by decide +kernel
theorem dX0_notesElsewhere_43 : decode cX0_notesElsewhere 43 = .ok (.goto (-39), 3) := by decide +kernel
theorem dX0_notesElsewhere_46 : decode cX0_notesElsewhere 46 = .ok (.iload_n 2, 1) := by decide +kernel
theorem dX0_notesElsewhere_47 : decode cX0_notesElsewhere 47 = .ok (.ireturn, 1) := by decide +kernel
set_option maxRecDepth 20000 in
theorem ggX0_carriedOn_X3_sumUpTo : GoodIn wsX0_carriedOn wsX3_sumUpTo := goodIn_r _ [6, 7, 8, 23, 24, 25, 26, 27, 28, 29, 30, 31, 32, 33, 34, 35, 36, 37, 38, 39] (by decide +kernel) (by decide +kernel)
set_option maxRecDepth 20000 in
theorem gX0_carriedOn_X3_sumUpTo : GoodIn wsX0_carriedOn (wsV RX0 76 RX3 yX3_sumUpTo wsX3_sumUpTo) := goodIn_app (goodIn_of _ (by decide +kernel)) ggX0_carriedOn_X3_sumUpTo
theorem dX0_carriedOn_0 : decode cX0_carriedOn 0 = .ok (.aload_n 1, 1) := by decide +kernel
theorem dX0_carriedOn_1 : decode cX0_carriedOn 1 = .ok (.aload_n 0, 1) := by decide +kernel
theorem dX0_carriedOn_2 : decode cX0_carriedOn 2 = .ok (.getfield 36, 3) := by decide +kernel
theorem dX0_carriedOn_5 : decode cX0_carriedOn 5 = .ok (.iload_n 2, 1) := by decide +kernel
theorem dX0_carriedOn_6 : decode cX0_carriedOn 6 = .ok (.iaload, 1) := by decide +kernel
theorem dX0_carriedOn_7 : decode cX0_carriedOn 7 = .ok (.iload_n 3, 1) := by decide +kernel
theorem dX0_carriedOn_8 : decode cX0_carriedOn 8 = .ok (.invokevirtual 76, 3) := by decide +kernel
theorem dX0_carriedOn_11 : decode cX0_carriedOn 11 = .ok (.ireturn, 1) := by decide +kernel
set_option maxRecDepth 20000 in
theorem ggX0_readAloud_X0_shownCells : GoodIn wsX0_readAloud wsX0_shownCells := goodIn_r _ [6, 7, 8, 9, 10, 11, 12, 13, 14, 15, 30, 31, 32, 33, 34, 35, 36, 37] (by decide +kernel) (by decide +kernel)
set_option maxRecDepth 20000 in
theorem gX0_readAloud_X0_shownCells : GoodIn wsX0_readAloud (va_wsS RX0 83 yX0_shownCells wsX0_shownCells) := goodIn_app (goodIn_of _ (by decide +kernel)) ggX0_readAloud_X0_shownCells
theorem dX0_readAloud_0 : decode cX0_readAloud 0 = .ok (.aload_n 1, 1) := by decide +kernel
theorem dX0_readAloud_1 : decode cX0_readAloud 1 = .ok (.getfield 73, 3) := by decide +kernel
theorem dX0_readAloud_4 : decode cX0_readAloud 4 = .ok (.aload_n 0, 1) := by decide +kernel
theorem dX0_readAloud_5 : decode cX0_readAloud 5 = .ok (.getfield 30, 3) := by decide +kernel
theorem dX0_readAloud_8 : decode cX0_readAloud 8 = .ok (.iload_n 2, 1) := by decide +kernel
theorem dX0_readAloud_9 : decode cX0_readAloud 9 = .ok (.iaload, 1) := by decide +kernel
theorem dX0_readAloud_10 : decode cX0_readAloud 10 = .ok (.iadd, 1) := by decide +kernel
theorem dX0_readAloud_11 : decode cX0_readAloud 11 = .ok (.istore_n 3, 1) := by decide +kernel
theorem dX0_readAloud_12 : decode cX0_readAloud 12 = .ok (.iconst 0, 1) := by decide +kernel
theorem dX0_readAloud_13 : decode cX0_readAloud 13 = .ok (.istore 4, 2) := by decide +kernel
theorem dX0_readAloud_15 : decode cX0_readAloud 15 = .ok (.iload 4, 2) := by decide +kernel
theorem dX0_readAloud_17 : decode cX0_readAloud 17 = .ok (.aload_n 1, 1) := by decide +kernel
theorem dX0_readAloud_18 : decode cX0_readAloud 18 = .ok (.getfield 73, 3) := by decide +kernel
theorem dX0_readAloud_21 : decode cX0_readAloud 21 = .ok (.if_icmp .ge 27, 3) := by decide +kernel
theorem dX0_readAloud_24 : decode cX0_readAloud 24 = .ok (.iload_n 2, 1) := by decide +kernel
theorem dX0_readAloud_25 : decode cX0_readAloud 25 = .ok (.ifCond .le 17, 3) := by decide +kernel
theorem dX0_readAloud_28 : decode cX0_readAloud 28 = .ok (.aload_n 1, 1) := by decide +kernel
theorem dX0_readAloud_29 : decode cX0_readAloud 29 = .ok (.getfield 80, 3) := by decide +kernel
theorem dX0_readAloud_32 : decode cX0_readAloud 32 = .ok (.iload 4, 2) := by decide +kernel
theorem dX0_readAloud_34 : decode cX0_readAloud 34 = .ok (.iaload, 1) := by decide +kernel
theorem dX0_readAloud_35 : decode cX0_readAloud 35 = .ok (.iconst 1, 1) := by decide +kernel
theorem dX0_readAloud_36 : decode cX0_readAloud 36 = .ok (.if_icmp .eq 6, 3) := by decide +kernel
theorem dX0_readAloud_39 : decode cX0_readAloud 39 = .ok (.iinc 3 1, 3) := by decide +kernel
theorem dX0_readAloud_42 : decode cX0_readAloud 42 = .ok (.iinc 4 1, 3) := by decide +kernel
theorem dX0_readAloud_45 : decode cX0_readAloud 45 = .ok (.goto (-30), 3) := by decide +kernel
theorem dX0_readAloud_48 : decode cX0_readAloud 48 = .ok (.iconst 0, 1) := by decide +kernel
theorem dX0_readAloud_49 : decode cX0_readAloud 49 = .ok (.istore 4, 2) := by decide +kernel
theorem dX0_readAloud_51 : decode cX0_readAloud 51 = .ok (.iload 4, 2) := by decide +kernel
theorem dX0_readAloud_53 : decode cX0_readAloud 53 = .ok (.aload_n 1, 1) := by decide +kernel
theorem dX0_readAloud_54 : decode cX0_readAloud 54 = .ok (.getfield 64, 3) := by decide +kernel
theorem dX0_readAloud_57 : decode cX0_readAloud 57 = .ok (.if_icmp .ge 29, 3) := by decide +kernel
theorem dX0_readAloud_60 : decode cX0_readAloud 60 = .ok (.aload_n 0, 1) := by decide +kernel
theorem dX0_readAloud_61 : decode cX0_readAloud 61 = .ok (.getfield 18, 3) := by decide +kernel
theorem dX0_readAloud_64 : decode cX0_readAloud 64 = .ok (.iload 4, 2) := by decide +kernel
theorem dX0_readAloud_66 : decode cX0_readAloud 66 = .ok (.iaload, 1) := by decide +kernel
theorem dX0_readAloud_67 : decode cX0_readAloud 67 = .ok (.iload_n 2, 1) := by decide +kernel
theorem dX0_readAloud_68 : decode cX0_readAloud 68 = .ok (.if_icmp .ne 12, 3) := by decide +kernel
theorem dX0_readAloud_71 : decode cX0_readAloud 71 = .ok (.iload_n 3, 1) := by decide +kernel
theorem dX0_readAloud_72 : decode cX0_readAloud 72 = .ok (.aload_n 1, 1) := by decide +kernel
theorem dX0_readAloud_73 : decode cX0_readAloud 73 = .ok (.iload 4, 2) := by decide +kernel
theorem dX0_readAloud_75 : decode cX0_readAloud 75 = .ok (.invokestatic 83, 3) := by decide +kernel
theorem dX0_readAloud_78 : decode cX0_readAloud 78 = .ok (.iadd, 1) := by decide +kernel
theorem dX0_readAloud_79 : decode cX0_readAloud 79 = .ok (.istore_n 3, 1) := by decide +kernel
theorem dX0_readAloud_80 : decode cX0_readAloud 80 = .ok (.iinc 4 1, 3) := by decide +kernel
theorem dX0_readAloud_83 : decode cX0_readAloud 83 = .ok (.goto (-32), 3) := by decide +kernel
theorem dX0_readAloud_86 : decode cX0_readAloud 86 = .ok (.iload_n 3, 1) := by decide +kernel
theorem dX0_readAloud_87 : decode cX0_readAloud 87 = .ok (.ireturn, 1) := by decide +kernel
theorem dX0_shownCells_0 : decode cX0_shownCells 0 = .ok (.iconst 0, 1) := by decide +kernel
theorem dX0_shownCells_1 : decode cX0_shownCells 1 = .ok (.istore_n 2, 1) := by decide +kernel
theorem dX0_shownCells_2 : decode cX0_shownCells 2 = .ok (.iconst 0, 1) := by decide +kernel
theorem dX0_shownCells_3 : decode cX0_shownCells 3 = .ok (.istore_n 3, 1) := by decide +kernel
theorem dX0_shownCells_4 : decode cX0_shownCells 4 = .ok (.iload_n 3, 1) := by decide +kernel
theorem dX0_shownCells_5 : decode cX0_shownCells 5 = .ok (.aload_n 0, 1) := by decide +kernel
theorem dX0_shownCells_6 : decode cX0_shownCells 6 = .ok (.getfield 73, 3) := by decide +kernel
theorem dX0_shownCells_9 : decode cX0_shownCells 9 = .ok (.if_icmp .ge 26, 3) := by decide +kernel
theorem dX0_shownCells_12 : decode cX0_shownCells 12 = .ok (.aload_n 0, 1) := by decide +kernel
theorem dX0_shownCells_13 : decode cX0_shownCells 13 = .ok (.getfield 87, 3) := by decide +kernel
theorem dX0_shownCells_16 : decode cX0_shownCells 16 = .ok (.iload_n 1, 1) := by decide +kernel
theorem dX0_shownCells_17 : decode cX0_shownCells 17 = .ok (.aaload, 1) := by decide +kernel
theorem dX0_shownCells_18 : decode cX0_shownCells 18 = .ok (.getfield 91, 3) := by decide +kernel
theorem dX0_shownCells_21 : decode cX0_shownCells 21 = .ok (.iload_n 3, 1) := by decide +kernel
theorem dX0_shownCells_22 : decode cX0_shownCells 22 = .ok (.baload, 1) := by decide +kernel
theorem dX0_shownCells_23 : decode cX0_shownCells 23 = .ok (.ifCond .ne 6, 3) := by decide +kernel
theorem dX0_shownCells_26 : decode cX0_shownCells 26 = .ok (.iinc 2 1, 3) := by decide +kernel
theorem dX0_shownCells_29 : decode cX0_shownCells 29 = .ok (.iinc 3 1, 3) := by decide +kernel
theorem dX0_shownCells_32 : decode cX0_shownCells 32 = .ok (.goto (-28), 3) := by decide +kernel
theorem dX0_shownCells_35 : decode cX0_shownCells 35 = .ok (.iload_n 2, 1) := by decide +kernel
theorem dX0_shownCells_36 : decode cX0_shownCells 36 = .ok (.ireturn, 1) := by decide +kernel
set_option maxRecDepth 20000 in
theorem ggX0_heightOfCell_X3_isSpanning : GoodIn wsX0_heightOfCell wsX3_isSpanning := goodIn_r _ [10, 11, 12, 13, 14, 15, 16, 17, 18, 19, 20, 21, 22, 23, 24, 25, 26, 27, 28, 29] (by decide +kernel) (by decide +kernel)
set_option maxRecDepth 20000 in
theorem gX0_heightOfCell_X3_isSpanning : GoodIn wsX0_heightOfCell (wsV RX0 97 RX3 yX3_isSpanning wsX3_isSpanning) := goodIn_app (goodIn_of _ (by decide +kernel)) ggX0_heightOfCell_X3_isSpanning
theorem dX0_heightOfCell_0 : decode cX0_heightOfCell 0 = .ok (.aload_n 1, 1) := by decide +kernel
theorem dX0_heightOfCell_1 : decode cX0_heightOfCell 1 = .ok (.getfield 87, 3) := by decide +kernel
theorem dX0_heightOfCell_4 : decode cX0_heightOfCell 4 = .ok (.iload_n 2, 1) := by decide +kernel
theorem dX0_heightOfCell_5 : decode cX0_heightOfCell 5 = .ok (.aaload, 1) := by decide +kernel
theorem dX0_heightOfCell_6 : decode cX0_heightOfCell 6 = .ok (.getfield 91, 3) := by decide +kernel
theorem dX0_heightOfCell_9 : decode cX0_heightOfCell 9 = .ok (.iload_n 3, 1) := by decide +kernel
theorem dX0_heightOfCell_10 : decode cX0_heightOfCell 10 = .ok (.baload, 1) := by decide +kernel
theorem dX0_heightOfCell_11 : decode cX0_heightOfCell 11 = .ok (.ifCond .eq 5, 3) := by decide +kernel
theorem dX0_heightOfCell_14 : decode cX0_heightOfCell 14 = .ok (.iconst 0, 1) := by decide +kernel
theorem dX0_heightOfCell_15 : decode cX0_heightOfCell 15 = .ok (.ireturn, 1) := by decide +kernel
theorem dX0_heightOfCell_16 : decode cX0_heightOfCell 16 = .ok (.aload_n 1, 1) := by decide +kernel
theorem dX0_heightOfCell_17 : decode cX0_heightOfCell 17 = .ok (.getfield 80, 3) := by decide +kernel
theorem dX0_heightOfCell_20 : decode cX0_heightOfCell 20 = .ok (.iload_n 3, 1) := by decide +kernel
theorem dX0_heightOfCell_21 : decode cX0_heightOfCell 21 = .ok (.iaload, 1) := by decide +kernel
theorem dX0_heightOfCell_22 : decode cX0_heightOfCell 22 = .ok (.iconst 1, 1) := by decide +kernel
theorem dX0_heightOfCell_23 : decode cX0_heightOfCell 23 = .ok (.if_icmp .eq 5, 3) := by decide +kernel
theorem dX0_heightOfCell_26 : decode cX0_heightOfCell 26 = .ok (.iconst 1, 1) := by decide +kernel
theorem dX0_heightOfCell_27 : decode cX0_heightOfCell 27 = .ok (.ireturn, 1) := by decide +kernel
theorem dX0_heightOfCell_28 : decode cX0_heightOfCell 28 = .ok (.aload_n 0, 1) := by decide +kernel
theorem dX0_heightOfCell_29 : decode cX0_heightOfCell 29 = .ok (.getfield 9, 3) := by decide +kernel
theorem dX0_heightOfCell_32 : decode cX0_heightOfCell 32 = .ok (.iload_n 3, 1) := by decide +kernel
theorem dX0_heightOfCell_33 : decode cX0_heightOfCell 33 = .ok (.iaload, 1) := by decide +kernel
theorem dX0_heightOfCell_34 : decode cX0_heightOfCell 34 = .ok (.istore 4, 2) := by decide +kernel
theorem dX0_heightOfCell_36 : decode cX0_heightOfCell 36 = .ok (.aload_n 1, 1) := by decide +kernel
theorem dX0_heightOfCell_37 : decode cX0_heightOfCell 37 = .ok (.iload_n 2, 1) := by decide +kernel
theorem dX0_heightOfCell_38 : decode cX0_heightOfCell 38 = .ok (.iload_n 3, 1) := by decide +kernel
theorem dX0_heightOfCell_39 : decode cX0_heightOfCell 39 = .ok (.invokevirtual 97, 3) := by decide +kernel
theorem dX0_heightOfCell_42 : decode cX0_heightOfCell 42 = .ok (.ifCond .eq 18, 3) := by decide +kernel
theorem dX0_heightOfCell_45 : decode cX0_heightOfCell 45 = .ok (.iload 4, 2) := by decide +kernel
theorem dX0_heightOfCell_47 : decode cX0_heightOfCell 47 = .ok (.iconst 1, 1) := by decide +kernel
theorem dX0_heightOfCell_48 : decode cX0_heightOfCell 48 = .ok (.aload_n 0, 1) := by decide +kernel
theorem dX0_heightOfCell_49 : decode cX0_heightOfCell 49 = .ok (.getfield 9, 3) := by decide +kernel
theorem dX0_heightOfCell_52 : decode cX0_heightOfCell 52 = .ok (.iload_n 3, 1) := by decide +kernel
theorem dX0_heightOfCell_53 : decode cX0_heightOfCell 53 = .ok (.iconst 1, 1) := by decide +kernel
theorem dX0_heightOfCell_54 : decode cX0_heightOfCell 54 = .ok (.iadd, 1) := by decide +kernel
theorem dX0_heightOfCell_55 : decode cX0_heightOfCell 55 = .ok (.iaload, 1) := by decide +kernel
theorem dX0_heightOfCell_56 : decode cX0_heightOfCell 56 = .ok (.iadd, 1) := by decide +kernel
theorem dX0_heightOfCell_57 : decode cX0_heightOfCell 57 = .ok (.iadd, 1) := by decide +kernel
theorem dX0_heightOfCell_58 : decode cX0_heightOfCell 58 = .ok (.istore 4, 2) := by decide +kernel
theorem dX0_heightOfCell_60 : decode cX0_heightOfCell 60 = .ok (.iload 4, 2) := by decide +kernel
theorem dX0_heightOfCell_62 : decode cX0_heightOfCell 62 = .ok (.ifCond .gt 5, 3) := by decide +kernel
theorem dX0_heightOfCell_65 : decode cX0_heightOfCell 65 = .ok (.iconst 1, 1) := by decide +kernel
theorem dX0_heightOfCell_66 : decode cX0_heightOfCell 66 = .ok (.ireturn, 1) := by decide +kernel
theorem dX0_heightOfCell_67 : decode cX0_heightOfCell 67 = .ok (.aload_n 1, 1) := by decide +kernel
theorem dX0_heightOfCell_68 : decode cX0_heightOfCell 68 = .ok (.getfield 87, 3) := by decide +kernel
theorem dX0_heightOfCell_71 : decode cX0_heightOfCell 71 = .ok (.iload_n 2, 1) := by decide +kernel
theorem dX0_heightOfCell_72 : decode cX0_heightOfCell 72 = .ok (.aaload, 1) := by decide +kernel
theorem dX0_heightOfCell_73 : decode cX0_heightOfCell 73 = .ok (.getfield 101, 3) := by decide +kernel
theorem dX0_heightOfCell_76 : decode cX0_heightOfCell 76 = .ok (.iload_n 3, 1) := by decide +kernel
theorem dX0_heightOfCell_77 : decode cX0_heightOfCell 77 = .ok (.iaload, 1) := by decide +kernel
theorem dX0_heightOfCell_78 : decode cX0_heightOfCell 78 = .ok (.istore 5, 2) := by decide +kernel
theorem dX0_heightOfCell_80 : decode cX0_heightOfCell 80 = .ok (.iconst 1, 1) := by decide +kernel
theorem dX0_heightOfCell_81 : decode cX0_heightOfCell 81 = .ok (.iload 5, 2) := by decide +kernel
theorem dX0_heightOfCell_83 : decode cX0_heightOfCell 83 = .ok (.iload 4, 2) := by decide +kernel
theorem dX0_heightOfCell_85 : decode cX0_heightOfCell 85 = .ok (.iadd, 1) := by decide +kernel
theorem dX0_heightOfCell_86 : decode cX0_heightOfCell 86 = .ok (.iconst 1, 1) := by decide +kernel
theorem dX0_heightOfCell_87 : decode cX0_heightOfCell 87 = .ok (.isub, 1) := by decide +kernel
theorem dX0_heightOfCell_88 : decode cX0_heightOfCell 88 = .ok (.iload 4, 2) := by decide +kernel
theorem dX0_heightOfCell_90 : decode cX0_heightOfCell 90 = .ok (.idiv, 1) := by decide +kernel
theorem dX0_heightOfCell_91 : decode cX0_heightOfCell 91 = .ok (.invokestatic 104, 3) := by decide +kernel
theorem dX0_heightOfCell_94 : decode cX0_heightOfCell 94 = .ok (.ireturn, 1) := by decide +kernel
set_option maxRecDepth 20000 in
theorem ggX0_isWidthFit_X0_tableWidth : GoodIn wsX0_isWidthFit wsX0_tableWidth := goodIn_r _ [6, 1, 11, 12, 13, 14, 15, 16, 17, 18, 19, 20, 21, 22, 23, 24, 25, 26, 27, 28, 29, 30, 31, 32, 33] (by decide +kernel) (by decide +kernel)
set_option maxRecDepth 20000 in
theorem gX0_isWidthFit_X0_tableWidth : GoodIn wsX0_isWidthFit (wsV RX0 112 RX0 yX0_tableWidth wsX0_tableWidth) := goodIn_app (goodIn_of _ (by decide +kernel)) ggX0_isWidthFit_X0_tableWidth
set_option maxRecDepth 20000 in
theorem ggX0_isWidthFit_X0_mostSpareColumn : GoodIn wsX0_isWidthFit wsX0_mostSpareColumn := goodIn_r _ [10, 1, 11, 12, 13, 14, 15, 16, 17, 18, 19, 20, 21, 22, 23, 24, 25, 26, 27, 28, 29, 30, 31, 32, 33] (by decide +kernel) (by decide +kernel)
set_option maxRecDepth 20000 in
theorem gX0_isWidthFit_X0_mostSpareColumn : GoodIn wsX0_isWidthFit (wsV RX0 116 RX0 yX0_mostSpareColumn wsX0_mostSpareColumn) := goodIn_app (goodIn_of _ (by decide +kernel)) ggX0_isWidthFit_X0_mostSpareColumn
theorem dX0_isWidthFit_0 : decode cX0_isWidthFit 0 = .ok (.aload_n 1, 1) := by decide +kernel
theorem dX0_isWidthFit_1 : decode cX0_isWidthFit 1 = .ok (.getfield 73, 3) := by decide +kernel
theorem dX0_isWidthFit_4 : decode cX0_isWidthFit 4 = .ok (.ifCond .eq 10, 3) := by decide +kernel
theorem dX0_isWidthFit_7 : decode cX0_isWidthFit 7 = .ok (.aload_n 1, 1) := by decide +kernel
theorem dX0_isWidthFit_8 : decode cX0_isWidthFit 8 = .ok (.getfield 64, 3) := by decide +kernel
theorem dX0_isWidthFit_11 : decode cX0_isWidthFit 11 = .ok (.ifCond .ne 5, 3) := by decide +kernel
theorem dX0_isWidthFit_14 : decode cX0_isWidthFit 14 = .ok (.iconst 0, 1) := by decide +kernel
theorem dX0_isWidthFit_15 : decode cX0_isWidthFit 15 = .ok (.ireturn, 1) := by decide +kernel
theorem dX0_isWidthFit_16 : decode cX0_isWidthFit 16 = .ok (.iconst 0, 1) := by decide +kernel
theorem dX0_isWidthFit_17 : decode cX0_isWidthFit 17 = .ok (.istore_n 3, 1) := by decide +kernel
theorem dX0_isWidthFit_18 : decode cX0_isWidthFit 18 = .ok (.iload_n 3, 1) := by decide +kernel
theorem dX0_isWidthFit_19 : decode cX0_isWidthFit 19 = .ok (.aload_n 1, 1) := by decide +kernel
theorem dX0_isWidthFit_20 : decode cX0_isWidthFit 20 = .ok (.getfield 73, 3) := by decide +kernel
theorem dX0_isWidthFit_23 : decode cX0_isWidthFit 23 = .ok (.if_icmp .ge 21, 3) := by decide +kernel
theorem dX0_isWidthFit_26 : decode cX0_isWidthFit 26 = .ok (.aload_n 0, 1) := by decide +kernel
theorem dX0_isWidthFit_27 : decode cX0_isWidthFit 27 = .ok (.getfield 9, 3) := by decide +kernel
theorem dX0_isWidthFit_30 : decode cX0_isWidthFit 30 = .ok (.iload_n 3, 1) := by decide +kernel
theorem dX0_isWidthFit_31 : decode cX0_isWidthFit 31 = .ok (.aload_n 1, 1) := by decide +kernel
theorem dX0_isWidthFit_32 : decode cX0_isWidthFit 32 = .ok (.getfield 109, 3) := by decide +kernel
theorem dX0_isWidthFit_35 : decode cX0_isWidthFit 35 = .ok (.iload_n 3, 1) := by decide +kernel
theorem dX0_isWidthFit_36 : decode cX0_isWidthFit 36 = .ok (.iaload, 1) := by decide +kernel
theorem dX0_isWidthFit_37 : decode cX0_isWidthFit 37 = .ok (.iastore, 1) := by decide +kernel
theorem dX0_isWidthFit_38 : decode cX0_isWidthFit 38 = .ok (.iinc 3 1, 3) := by decide +kernel
theorem dX0_isWidthFit_41 : decode cX0_isWidthFit 41 = .ok (.goto (-23), 3) := by decide +kernel
theorem dX0_isWidthFit_44 : decode cX0_isWidthFit 44 = .ok (.aload_n 0, 1) := by decide +kernel
theorem dX0_isWidthFit_45 : decode cX0_isWidthFit 45 = .ok (.aload_n 1, 1) := by decide +kernel
theorem dX0_isWidthFit_46 : decode cX0_isWidthFit 46 = .ok (.invokevirtual 112, 3) := by decide +kernel
theorem dX0_isWidthFit_49 : decode cX0_isWidthFit 49 = .ok (.iload_n 2, 1) := by decide +kernel
theorem dX0_isWidthFit_50 : decode cX0_isWidthFit 50 = .ok (.isub, 1) := by decide +kernel
theorem dX0_isWidthFit_51 : decode cX0_isWidthFit 51 = .ok (.istore_n 3, 1) := by decide +kernel
theorem dX0_isWidthFit_52 : decode cX0_isWidthFit 52 = .ok (.iload_n 3, 1) := by decide +kernel
theorem dX0_isWidthFit_53 : decode cX0_isWidthFit 53 = .ok (.ifCond .le 35, 3) := by decide +kernel
theorem dX0_isWidthFit_56 : decode cX0_isWidthFit 56 = .ok (.aload_n 0, 1) := by decide +kernel
theorem dX0_isWidthFit_57 : decode cX0_isWidthFit 57 = .ok (.aload_n 1, 1) := by decide +kernel
theorem dX0_isWidthFit_58 : decode cX0_isWidthFit 58 = .ok (.invokevirtual 116, 3) := by decide +kernel
theorem dX0_isWidthFit_61 : decode cX0_isWidthFit 61 = .ok (.istore 4, 2) := by decide +kernel
theorem dX0_isWidthFit_63 : decode cX0_isWidthFit 63 = .ok (.iload 4, 2) := by decide +kernel
theorem dX0_isWidthFit_65 : decode cX0_isWidthFit 65 = .ok (.iconst (-1), 1) := by decide +kernel
theorem dX0_isWidthFit_66 : decode cX0_isWidthFit 66 = .ok (.if_icmp .ne 5, 3) := by decide +kernel
theorem dX0_isWidthFit_69 : decode cX0_isWidthFit 69 = .ok (.iconst 0, 1) := by decide +kernel
theorem dX0_isWidthFit_70 : decode cX0_isWidthFit 70 = .ok (.ireturn, 1) := by decide +kernel
theorem dX0_isWidthFit_71 : decode cX0_isWidthFit 71 = .ok (.aload_n 0, 1) := by decide +kernel
theorem dX0_isWidthFit_72 : decode cX0_isWidthFit 72 = .ok (.getfield 9, 3) := by decide +kernel
theorem dX0_isWidthFit_75 : decode cX0_isWidthFit 75 = .ok (.iload 4, 2) := by decide +kernel
theorem dX0_isWidthFit_77 : decode cX0_isWidthFit 77 = .ok (.dup2, 1) := by decide +kernel
theorem dX0_isWidthFit_78 : decode cX0_isWidthFit 78 = .ok (.iaload, 1) := by decide +kernel
theorem dX0_isWidthFit_79 : decode cX0_isWidthFit 79 = .ok (.iconst 1, 1) := by decide +kernel
theorem dX0_isWidthFit_80 : decode cX0_isWidthFit 80 = .ok (.isub, 1) := by decide +kernel
theorem dX0_isWidthFit_81 : decode cX0_isWidthFit 81 = .ok (.iastore, 1) := by decide +kernel
theorem dX0_isWidthFit_82 : decode cX0_isWidthFit 82 = .ok (.iinc 3 (-1), 3) := by decide +kernel
theorem dX0_isWidthFit_85 : decode cX0_isWidthFit 85 = .ok (.goto (-33), 3) := by decide +kernel
theorem dX0_isWidthFit_88 : decode cX0_isWidthFit 88 = .ok (.iconst 1, 1) := by decide +kernel
theorem dX0_isWidthFit_89 : decode cX0_isWidthFit 89 = .ok (.ireturn, 1) := by decide +kernel
theorem dX0_mostSpareColumn_0 : decode cX0_mostSpareColumn 0 = .ok (.iconst 0, 1) := by decide +kernel
theorem dX0_mostSpareColumn_1 : decode cX0_mostSpareColumn 1 = .ok (.istore_n 2, 1) := by decide +kernel
theorem dX0_mostSpareColumn_2 : decode cX0_mostSpareColumn 2 = .ok (.iconst (-1), 1) := by decide +kernel
theorem dX0_mostSpareColumn_3 : decode cX0_mostSpareColumn 3 = .ok (.istore_n 3, 1) := by decide +kernel
theorem dX0_mostSpareColumn_4 : decode cX0_mostSpareColumn 4 = .ok (.iconst 0, 1) := by decide +kernel
theorem dX0_mostSpareColumn_5 : decode cX0_mostSpareColumn 5 = .ok (.istore 4, 2) := by decide +kernel
theorem dX0_mostSpareColumn_7 : decode cX0_mostSpareColumn 7 = .ok (.iload 4, 2) := by decide +kernel
theorem dX0_mostSpareColumn_9 : decode cX0_mostSpareColumn 9 = .ok (.aload_n 1, 1) := by decide +kernel
theorem dX0_mostSpareColumn_10 : decode cX0_mostSpareColumn 10 = .ok (.getfield 73, 3) := by decide +kernel
theorem dX0_mostSpareColumn_13 : decode cX0_mostSpareColumn 13 = .ok (.if_icmp .ge 38, 3) := by decide +kernel
theorem dX0_mostSpareColumn_16 : decode cX0_mostSpareColumn 16 = .ok (.aload_n 0, 1) := by decide +kernel
theorem dX0_mostSpareColumn_17 : decode cX0_mostSpareColumn 17 = .ok (.getfield 9, 3) := by decide +kernel
theorem dX0_mostSpareColumn_20 : decode cX0_mostSpareColumn 20 = .ok (.iload 4, 2) := by decide +kernel
theorem dX0_mostSpareColumn_22 : decode cX0_mostSpareColumn 22 = .ok (.iaload, 1) := by decide +kernel
theorem dX0_mostSpareColumn_23 : decode cX0_mostSpareColumn 23 = .ok (.aload_n 1, 1) := by decide +kernel
theorem dX0_mostSpareColumn_24 : decode cX0_mostSpareColumn 24 = .ok (.getfield 119, 3) := by decide +kernel
theorem dX0_mostSpareColumn_27 : decode cX0_mostSpareColumn 27 = .ok (.iload 4, 2) := by decide +kernel
theorem dX0_mostSpareColumn_29 : decode cX0_mostSpareColumn 29 = .ok (.iaload, 1) := by decide +kernel
theorem dX0_mostSpareColumn_30 : decode cX0_mostSpareColumn 30 = .ok (.isub, 1) := by decide +kernel
theorem dX0_mostSpareColumn_31 : decode cX0_mostSpareColumn 31 = .ok (.istore 5, 2) := by decide +kernel
theorem dX0_mostSpareColumn_33 : decode cX0_mostSpareColumn 33 = .ok (.iload 5, 2) := by decide +kernel
theorem dX0_mostSpareColumn_35 : decode cX0_mostSpareColumn 35 = .ok (.iload_n 2, 1) := by decide +kernel
theorem dX0_mostSpareColumn_36 : decode cX0_mostSpareColumn 36 = .ok (.if_icmp .le 9, 3) := by decide +kernel
theorem dX0_mostSpareColumn_39 : decode cX0_mostSpareColumn 39 = .ok (.iload 5, 2) := by decide +kernel
theorem dX0_mostSpareColumn_41 : decode cX0_mostSpareColumn 41 = .ok (.istore_n 2, 1) := by decide +kernel
theorem dX0_mostSpareColumn_42 : decode cX0_mostSpareColumn 42 = .ok (.iload 4, 2) := by decide +kernel
theorem dX0_mostSpareColumn_44 : decode cX0_mostSpareColumn 44 = .ok (.istore_n 3, 1) := by decide +kernel
theorem dX0_mostSpareColumn_45 : decode cX0_mostSpareColumn 45 = .ok (.iinc 4 1, 3) := by decide +kernel
theorem dX0_mostSpareColumn_48 : decode cX0_mostSpareColumn 48 = .ok (.goto (-41), 3) := by decide +kernel
theorem dX0_mostSpareColumn_51 : decode cX0_mostSpareColumn 51 = .ok (.iload_n 3, 1) := by decide +kernel
theorem dX0_mostSpareColumn_52 : decode cX0_mostSpareColumn 52 = .ok (.ireturn, 1) := by decide +kernel
set_option maxRecDepth 20000 in
theorem ggX0_areHeightsFit_X0_heightOfCell : GoodIn wsX0_areHeightsFit wsX0_heightOfCell := goodIn_r _ [11, 12, 1, 2, 3, 4, 13, 14, 15, 16, 17, 18, 19, 20, 21, 22, 23, 24, 25, 26, 27, 28, 43, 44, 45, 46, 47, 48, 49, 50, 29, 30, 31, 32, 33, 34, 35, 36, 37, 38, 39, 40, 41, 42] (by decide +kernel) (by decide +kernel)
set_option maxRecDepth 20000 in
theorem gX0_areHeightsFit_X0_heightOfCell : GoodIn wsX0_areHeightsFit (wsV RX0 122 RX0 yX0_heightOfCell wsX0_heightOfCell) := goodIn_app (goodIn_of _ (by decide +kernel)) ggX0_areHeightsFit_X0_heightOfCell
theorem dX0_areHeightsFit_0 : decode cX0_areHeightsFit 0 = .ok (.iconst 0, 1) := by decide +kernel
theorem dX0_areHeightsFit_1 : decode cX0_areHeightsFit 1 = .ok (.istore_n 2, 1) := by decide +kernel
theorem dX0_areHeightsFit_2 : decode cX0_areHeightsFit 2 = .ok (.iload_n 2, 1) := by decide +kernel
theorem dX0_areHeightsFit_3 : decode cX0_areHeightsFit 3 = .ok (.aload_n 1, 1) := by decide +kernel
theorem dX0_areHeightsFit_4 : decode cX0_areHeightsFit 4 = .ok (.getfield 64, 3) := by decide +kernel
theorem dX0_areHeightsFit_7 : decode cX0_areHeightsFit 7 = .ok (.if_icmp .ge 59, 3) := by decide +kernel
theorem dX0_areHeightsFit_10 : decode cX0_areHeightsFit 10 = .ok (.iconst 0, 1) := by decide +kernel
theorem dX0_areHeightsFit_11 : decode cX0_areHeightsFit 11 = .ok (.istore_n 3, 1) := by decide +kernel
theorem dX0_areHeightsFit_12 : decode cX0_areHeightsFit 12 = .ok (.iconst 0, 1) := by decide +kernel
theorem dX0_areHeightsFit_13 : decode cX0_areHeightsFit 13 = .ok (.istore 4, 2) := by decide +kernel
theorem dX0_areHeightsFit_15 : decode cX0_areHeightsFit 15 = .ok (.iload 4, 2) := by decide +kernel
theorem dX0_areHeightsFit_17 : decode cX0_areHeightsFit 17 = .ok (.aload_n 1, 1) := by decide +kernel
theorem dX0_areHeightsFit_18 : decode cX0_areHeightsFit 18 = .ok (.getfield 73, 3) := by decide +kernel
theorem dX0_areHeightsFit_21 : decode cX0_areHeightsFit 21 = .ok (.if_icmp .ge 22, 3) := by decide +kernel
theorem dX0_areHeightsFit_24 : decode cX0_areHeightsFit 24 = .ok (.iload_n 3, 1) := by decide +kernel
theorem dX0_areHeightsFit_25 : decode cX0_areHeightsFit 25 = .ok (.aload_n 0, 1) := by decide +kernel
theorem dX0_areHeightsFit_26 : decode cX0_areHeightsFit 26 = .ok (.aload_n 1, 1) := by decide +kernel
theorem dX0_areHeightsFit_27 : decode cX0_areHeightsFit 27 = .ok (.iload_n 2, 1) := by decide +kernel
theorem dX0_areHeightsFit_28 : decode cX0_areHeightsFit 28 = .ok (.iload 4, 2) := by decide +kernel
theorem dX0_areHeightsFit_30 : decode cX0_areHeightsFit 30 = .ok (.invokevirtual 122, 3) := by decide +kernel
theorem dX0_areHeightsFit_33 : decode cX0_areHeightsFit 33 = .ok (.invokestatic 104, 3) := by decide +kernel
theorem dX0_areHeightsFit_36 : decode cX0_areHeightsFit 36 = .ok (.istore_n 3, 1) := by decide +kernel
theorem dX0_areHeightsFit_37 : decode cX0_areHeightsFit 37 = .ok (.iinc 4 1, 3) := by decide +kernel
theorem dX0_areHeightsFit_40 : decode cX0_areHeightsFit 40 = .ok (.goto (-25), 3) := by decide +kernel
theorem dX0_areHeightsFit_43 : decode cX0_areHeightsFit 43 = .ok (.iload_n 3, 1) := by decide +kernel
theorem dX0_areHeightsFit_44 : decode cX0_areHeightsFit 44 = .ok (.aload_n 0, 1) := by decide +kernel
theorem dX0_areHeightsFit_45 : decode cX0_areHeightsFit 45 = .ok (.getfield 39, 3) := by decide +kernel
theorem dX0_areHeightsFit_48 : decode cX0_areHeightsFit 48 = .ok (.if_icmp .le 5, 3) := by decide +kernel
theorem dX0_areHeightsFit_51 : decode cX0_areHeightsFit 51 = .ok (.iconst 0, 1) := by decide +kernel
theorem dX0_areHeightsFit_52 : decode cX0_areHeightsFit 52 = .ok (.ireturn, 1) := by decide +kernel
theorem dX0_areHeightsFit_53 : decode cX0_areHeightsFit 53 = .ok (.aload_n 0, 1) := by decide +kernel
theorem dX0_areHeightsFit_54 : decode cX0_areHeightsFit 54 = .ok (.getfield 15, 3) := by decide +kernel
theorem dX0_areHeightsFit_57 : decode cX0_areHeightsFit 57 = .ok (.iload_n 2, 1) := by decide +kernel
theorem dX0_areHeightsFit_58 : decode cX0_areHeightsFit 58 = .ok (.iload_n 3, 1) := by decide +kernel
theorem dX0_areHeightsFit_59 : decode cX0_areHeightsFit 59 = .ok (.iastore, 1) := by decide +kernel
theorem dX0_areHeightsFit_60 : decode cX0_areHeightsFit 60 = .ok (.iinc 2 1, 3) := by decide +kernel
theorem dX0_areHeightsFit_63 : decode cX0_areHeightsFit 63 = .ok (.goto (-61), 3) := by decide +kernel
theorem dX0_areHeightsFit_66 : decode cX0_areHeightsFit 66 = .ok (.iconst 1, 1) := by decide +kernel
theorem dX0_areHeightsFit_67 : decode cX0_areHeightsFit 67 = .ok (.ireturn, 1) := by decide +kernel
set_option maxRecDepth 20000 in
theorem ggX0_fillPage_X0_putWaitingNotes : GoodIn wsX0_fillPage wsX0_putWaitingNotes := goodIn_r _ [13, 7, 6, 4, 14, 3, 29, 30, 31, 32, 33, 34, 35, 36, 37, 38, 39, 40, 41, 42, 43, 44, 45, 46, 47, 48, 49, 50, 51, 52, 53, 54, 55, 56, 57, 58, 59] (by decide +kernel) (by decide +kernel)
set_option maxRecDepth 20000 in
theorem gX0_fillPage_X0_putWaitingNotes : GoodIn wsX0_fillPage (wsV RX0 126 RX0 yX0_putWaitingNotes wsX0_putWaitingNotes) := goodIn_app (goodIn_of _ (by decide +kernel)) ggX0_fillPage_X0_putWaitingNotes
set_option maxRecDepth 20000 in
theorem ggX0_fillPage_X0_hasRoomForNextRow : GoodIn wsX0_fillPage wsX0_hasRoomForNextRow := goodIn_r _ [18, 19, 6, 4, 2, 5, 20, 21, 22, 12, 23, 29, 30, 31, 32, 33, 34, 35, 36, 37, 38, 39, 40, 41, 42, 43, 44, 45, 46, 47, 48, 49, 50, 51, 52, 53, 54, 55, 56, 57, 58, 59] (by decide +kernel) (by decide +kernel)
set_option maxRecDepth 20000 in
theorem gX0_fillPage_X0_hasRoomForNextRow : GoodIn wsX0_fillPage (wsV RX0 129 RX0 yX0_hasRoomForNextRow wsX0_hasRoomForNextRow) := goodIn_app (goodIn_of _ (by decide +kernel)) ggX0_fillPage_X0_hasRoomForNextRow
set_option maxRecDepth 20000 in
theorem ggX0_fillPage_X0_putNextRow : GoodIn wsX0_fillPage wsX0_putNextRow := goodIn_r _ [27, 2, 1, 6, 28, 4, 19, 29, 30, 31, 32, 33, 34, 35, 36, 37, 38, 39, 40, 41, 42] (by decide +kernel) (by decide +kernel)
set_option maxRecDepth 20000 in
theorem gX0_fillPage_X0_putNextRow : GoodIn wsX0_fillPage (wsV RX0 132 RX0 yX0_putNextRow wsX0_putNextRow) := goodIn_app (goodIn_of _ (by decide +kernel)) ggX0_fillPage_X0_putNextRow
theorem dX0_fillPage_0 : decode cX0_fillPage 0 = .ok (.aload_n 0, 1) := by decide +kernel
theorem dX0_fillPage_1 : decode cX0_fillPage 1 = .ok (.getfield 24, 3) := by decide +kernel
theorem dX0_fillPage_4 : decode cX0_fillPage 4 = .ok (.iload_n 2, 1) := by decide +kernel
theorem dX0_fillPage_5 : decode cX0_fillPage 5 = .ok (.iconst (-1), 1) := by decide +kernel
theorem dX0_fillPage_6 : decode cX0_fillPage 6 = .ok (.iastore, 1) := by decide +kernel
theorem dX0_fillPage_7 : decode cX0_fillPage 7 = .ok (.aload_n 0, 1) := by decide +kernel
theorem dX0_fillPage_8 : decode cX0_fillPage 8 = .ok (.getfield 27, 3) := by decide +kernel
theorem dX0_fillPage_11 : decode cX0_fillPage 11 = .ok (.iload_n 2, 1) := by decide +kernel
theorem dX0_fillPage_12 : decode cX0_fillPage 12 = .ok (.iconst 0, 1) := by decide +kernel
theorem dX0_fillPage_13 : decode cX0_fillPage 13 = .ok (.iastore, 1) := by decide +kernel
theorem dX0_fillPage_14 : decode cX0_fillPage 14 = .ok (.aload_n 0, 1) := by decide +kernel
theorem dX0_fillPage_15 : decode cX0_fillPage 15 = .ok (.getfield 30, 3) := by decide +kernel
theorem dX0_fillPage_18 : decode cX0_fillPage 18 = .ok (.iload_n 2, 1) := by decide +kernel
theorem dX0_fillPage_19 : decode cX0_fillPage 19 = .ok (.iconst 0, 1) := by decide +kernel
theorem dX0_fillPage_20 : decode cX0_fillPage 20 = .ok (.iastore, 1) := by decide +kernel
theorem dX0_fillPage_21 : decode cX0_fillPage 21 = .ok (.aload_n 0, 1) := by decide +kernel
theorem dX0_fillPage_22 : decode cX0_fillPage 22 = .ok (.getfield 33, 3) := by decide +kernel
theorem dX0_fillPage_25 : decode cX0_fillPage 25 = .ok (.iload_n 2, 1) := by decide +kernel
theorem dX0_fillPage_26 : decode cX0_fillPage 26 = .ok (.aload_n 0, 1) := by decide +kernel
theorem dX0_fillPage_27 : decode cX0_fillPage 27 = .ok (.getfield 39, 3) := by decide +kernel
theorem dX0_fillPage_30 : decode cX0_fillPage 30 = .ok (.iastore, 1) := by decide +kernel
theorem dX0_fillPage_31 : decode cX0_fillPage 31 = .ok (.aload_n 0, 1) := by decide +kernel
theorem dX0_fillPage_32 : decode cX0_fillPage 32 = .ok (.aload_n 1, 1) := by decide +kernel
theorem dX0_fillPage_33 : decode cX0_fillPage 33 = .ok (.iload_n 2, 1) := by decide +kernel
theorem dX0_fillPage_34 : decode cX0_fillPage 34 = .ok (.invokevirtual 126, 3) := by decide +kernel
theorem dX0_fillPage_37 : decode cX0_fillPage 37 = .ok (.aload_n 0, 1) := by decide +kernel
theorem dX0_fillPage_38 : decode cX0_fillPage 38 = .ok (.getfield 58, 3) := by decide +kernel
theorem dX0_fillPage_41 : decode cX0_fillPage 41 = .ok (.aload_n 1, 1) := by decide +kernel
theorem dX0_fillPage_42 : decode cX0_fillPage 42 = .ok (.getfield 64, 3) := by decide +kernel
theorem dX0_fillPage_45 : decode cX0_fillPage 45 = .ok (.if_icmp .ge 57, 3) := by decide +kernel
theorem dX0_fillPage_48 : decode cX0_fillPage 48 = .ok (.aload_n 0, 1) := by decide +kernel
theorem dX0_fillPage_49 : decode cX0_fillPage 49 = .ok (.aload_n 1, 1) := by decide +kernel
theorem dX0_fillPage_50 : decode cX0_fillPage 50 = .ok (.iload_n 2, 1) := by decide +kernel
theorem dX0_fillPage_51 : decode cX0_fillPage 51 = .ok (.invokevirtual 129, 3) := by decide +kernel
theorem dX0_fillPage_54 : decode cX0_fillPage 54 = .ok (.ifCond .eq 48, 3) := by decide +kernel
theorem dX0_fillPage_57 : decode cX0_fillPage 57 = .ok (.aload_n 0, 1) := by decide +kernel
theorem dX0_fillPage_58 : decode cX0_fillPage 58 = .ok (.getfield 61, 3) := by decide +kernel
theorem dX0_fillPage_61 : decode cX0_fillPage 61 = .ok (.aload_n 0, 1) := by decide +kernel
theorem dX0_fillPage_62 : decode cX0_fillPage 62 = .ok (.getfield 58, 3) := by decide +kernel
theorem dX0_fillPage_65 : decode cX0_fillPage 65 = .ok (.if_icmp .ge 7, 3) := by decide +kernel
theorem dX0_fillPage_68 : decode cX0_fillPage 68 = .ok (.iconst 1, 1) := by decide +kernel
theorem dX0_fillPage_69 : decode cX0_fillPage 69 = .ok (.goto 4, 3) := by decide +kernel
theorem dX0_fillPage_72 : decode cX0_fillPage 72 = .ok (.iconst 0, 1) := by decide +kernel
theorem dX0_fillPage_73 : decode cX0_fillPage 73 = .ok (.istore_n 3, 1) := by decide +kernel
theorem dX0_fillPage_74 : decode cX0_fillPage 74 = .ok (.aload_n 0, 1) := by decide +kernel
theorem dX0_fillPage_75 : decode cX0_fillPage 75 = .ok (.iload_n 2, 1) := by decide +kernel
theorem dX0_fillPage_76 : decode cX0_fillPage 76 = .ok (.invokevirtual 132, 3) := by decide +kernel
theorem dX0_fillPage_79 : decode cX0_fillPage 79 = .ok (.aload_n 0, 1) := by decide +kernel
theorem dX0_fillPage_80 : decode cX0_fillPage 80 = .ok (.dup, 1) := by decide +kernel
theorem dX0_fillPage_81 : decode cX0_fillPage 81 = .ok (.getfield 58, 3) := by decide +kernel
theorem dX0_fillPage_84 : decode cX0_fillPage 84 = .ok (.iconst 1, 1) := by decide +kernel
theorem dX0_fillPage_85 : decode cX0_fillPage 85 = .ok (.iadd, 1) := by decide +kernel
theorem dX0_fillPage_86 : decode cX0_fillPage 86 = .ok (.putfield 58, 3) := by decide +kernel
theorem dX0_fillPage_89 : decode cX0_fillPage 89 = .ok (.iload_n 3, 1) := by decide +kernel
theorem dX0_fillPage_90 : decode cX0_fillPage 90 = .ok (.ifCond .ne 9, 3) := by decide +kernel
theorem dX0_fillPage_93 : decode cX0_fillPage 93 = .ok (.aload_n 0, 1) := by decide +kernel
theorem dX0_fillPage_94 : decode cX0_fillPage 94 = .ok (.aload_n 1, 1) := by decide +kernel
theorem dX0_fillPage_95 : decode cX0_fillPage 95 = .ok (.iload_n 2, 1) := by decide +kernel
theorem dX0_fillPage_96 : decode cX0_fillPage 96 = .ok (.invokevirtual 126, 3) := by decide +kernel
theorem dX0_fillPage_99 : decode cX0_fillPage 99 = .ok (.goto (-62), 3) := by decide +kernel
theorem dX0_fillPage_102 : decode cX0_fillPage 102 = .ok (.aload_n 0, 1) := by decide +kernel
theorem dX0_fillPage_103 : decode cX0_fillPage 103 = .ok (.getfield 36, 3) := by decide +kernel
theorem dX0_fillPage_106 : decode cX0_fillPage 106 = .ok (.iload_n 2, 1) := by decide +kernel
theorem dX0_fillPage_107 : decode cX0_fillPage 107 = .ok (.aload_n 0, 1) := by decide +kernel
theorem dX0_fillPage_108 : decode cX0_fillPage 108 = .ok (.getfield 58, 3) := by decide +kernel
theorem dX0_fillPage_111 : decode cX0_fillPage 111 = .ok (.iconst 1, 1) := by decide +kernel
theorem dX0_fillPage_112 : decode cX0_fillPage 112 = .ok (.isub, 1) := by decide +kernel
theorem dX0_fillPage_113 : decode cX0_fillPage 113 = .ok (.iastore, 1) := by decide +kernel
theorem dX0_fillPage_114 : decode cX0_fillPage 114 = .ok (.return_, 1) := by decide +kernel
theorem dX0_putWaitingNotes_0 : decode cX0_putWaitingNotes 0 = .ok (.aload_n 0, 1) := by decide +kernel
theorem dX0_putWaitingNotes_1 : decode cX0_putWaitingNotes 1 = .ok (.getfield 61, 3) := by decide +kernel
theorem dX0_putWaitingNotes_4 : decode cX0_putWaitingNotes 4 = .ok (.aload_n 0, 1) := by decide +kernel
theorem dX0_putWaitingNotes_5 : decode cX0_putWaitingNotes 5 = .ok (.getfield 58, 3) := by decide +kernel
theorem dX0_putWaitingNotes_8 : decode cX0_putWaitingNotes 8 = .ok (.if_icmp .ge 94, 3) := by decide +kernel
theorem dX0_putWaitingNotes_11 : decode cX0_putWaitingNotes 11 = .ok (.aload_n 1, 1) := by decide +kernel
theorem dX0_putWaitingNotes_12 : decode cX0_putWaitingNotes 12 = .ok (.getfield 87, 3) := by decide +kernel
theorem dX0_putWaitingNotes_15 : decode cX0_putWaitingNotes 15 = .ok (.aload_n 0, 1) := by decide +kernel
theorem dX0_putWaitingNotes_16 : decode cX0_putWaitingNotes 16 = .ok (.getfield 61, 3) := by decide +kernel
theorem dX0_putWaitingNotes_19 : decode cX0_putWaitingNotes 19 = .ok (.aaload, 1) := by decide +kernel
theorem dX0_putWaitingNotes_20 : decode cX0_putWaitingNotes 20 = .ok (.getfield 136, 3) := by decide +kernel
theorem dX0_putWaitingNotes_23 : decode cX0_putWaitingNotes 23 = .ok (.aload_n 0, 1) := by decide +kernel
theorem dX0_putWaitingNotes_24 : decode cX0_putWaitingNotes 24 = .ok (.getfield 33, 3) := by decide +kernel
theorem dX0_putWaitingNotes_27 : decode cX0_putWaitingNotes 27 = .ok (.iload_n 2, 1) := by decide +kernel
theorem dX0_putWaitingNotes_28 : decode cX0_putWaitingNotes 28 = .ok (.iaload, 1) := by decide +kernel
theorem dX0_putWaitingNotes_29 : decode cX0_putWaitingNotes 29 = .ok (.if_icmp .gt 73, 3) := by decide +kernel
theorem dX0_putWaitingNotes_32 : decode cX0_putWaitingNotes 32 = .ok (.aload_n 1, 1) := by decide +kernel
theorem dX0_putWaitingNotes_33 : decode cX0_putWaitingNotes 33 = .ok (.getfield 87, 3) := by decide +kernel
theorem dX0_putWaitingNotes_36 : decode cX0_putWaitingNotes 36 = .ok (.aload_n 0, 1) := by decide +kernel
theorem dX0_putWaitingNotes_37 : decode cX0_putWaitingNotes 37 = .ok (.getfield 61, 3) := by decide +kernel
theorem dX0_putWaitingNotes_40 : decode cX0_putWaitingNotes 40 = .ok (.aaload, 1) := by decide +kernel
theorem dX0_putWaitingNotes_41 : decode cX0_putWaitingNotes 41 = .ok (.getfield 136, 3) := by decide +kernel
theorem dX0_putWaitingNotes_44 : decode cX0_putWaitingNotes 44 = .ok (.istore_n 3, 1) := by decide +kernel
theorem dX0_putWaitingNotes_45 : decode cX0_putWaitingNotes 45 = .ok (.aload_n 0, 1) := by decide +kernel
theorem dX0_putWaitingNotes_46 : decode cX0_putWaitingNotes 46 = .ok (.getfield 21, 3) := by decide +kernel
theorem dX0_putWaitingNotes_49 : decode cX0_putWaitingNotes 49 = .ok (.aload_n 0, 1) := by decide +kernel
theorem dX0_putWaitingNotes_50 : decode cX0_putWaitingNotes 50 = .ok (.getfield 61, 3) := by decide +kernel
theorem dX0_putWaitingNotes_53 : decode cX0_putWaitingNotes 53 = .ok (.iconst (-1), 1) := by decide +kernel
theorem dX0_putWaitingNotes_54 : decode cX0_putWaitingNotes 54 = .ok (.iastore, 1) := by decide +kernel
theorem dX0_putWaitingNotes_55 : decode cX0_putWaitingNotes 55 = .ok (.iload_n 3, 1) := by decide +kernel
theorem dX0_putWaitingNotes_56 : decode cX0_putWaitingNotes 56 = .ok (.ifCond .le 33, 3) := by decide +kernel
theorem dX0_putWaitingNotes_59 : decode cX0_putWaitingNotes 59 = .ok (.aload_n 0, 1) := by decide +kernel
theorem dX0_putWaitingNotes_60 : decode cX0_putWaitingNotes 60 = .ok (.getfield 21, 3) := by decide +kernel
theorem dX0_putWaitingNotes_63 : decode cX0_putWaitingNotes 63 = .ok (.aload_n 0, 1) := by decide +kernel
theorem dX0_putWaitingNotes_64 : decode cX0_putWaitingNotes 64 = .ok (.getfield 61, 3) := by decide +kernel
theorem dX0_putWaitingNotes_67 : decode cX0_putWaitingNotes 67 = .ok (.iload_n 2, 1) := by decide +kernel
theorem dX0_putWaitingNotes_68 : decode cX0_putWaitingNotes 68 = .ok (.iastore, 1) := by decide +kernel
theorem dX0_putWaitingNotes_69 : decode cX0_putWaitingNotes 69 = .ok (.aload_n 0, 1) := by decide +kernel
theorem dX0_putWaitingNotes_70 : decode cX0_putWaitingNotes 70 = .ok (.getfield 30, 3) := by decide +kernel
theorem dX0_putWaitingNotes_73 : decode cX0_putWaitingNotes 73 = .ok (.iload_n 2, 1) := by decide +kernel
theorem dX0_putWaitingNotes_74 : decode cX0_putWaitingNotes 74 = .ok (.dup2, 1) := by decide +kernel
theorem dX0_putWaitingNotes_75 : decode cX0_putWaitingNotes 75 = .ok (.iaload, 1) := by decide +kernel
theorem dX0_putWaitingNotes_76 : decode cX0_putWaitingNotes 76 = .ok (.iconst 1, 1) := by decide +kernel
theorem dX0_putWaitingNotes_77 : decode cX0_putWaitingNotes 77 = .ok (.iadd, 1) := by decide +kernel
theorem dX0_putWaitingNotes_78 : decode cX0_putWaitingNotes 78 = .ok (.iastore, 1) := by decide +kernel
theorem dX0_putWaitingNotes_79 : decode cX0_putWaitingNotes 79 = .ok (.aload_n 0, 1) := by decide +kernel
theorem dX0_putWaitingNotes_80 : decode cX0_putWaitingNotes 80 = .ok (.getfield 33, 3) := by decide +kernel
theorem dX0_putWaitingNotes_83 : decode cX0_putWaitingNotes 83 = .ok (.iload_n 2, 1) := by decide +kernel
theorem dX0_putWaitingNotes_84 : decode cX0_putWaitingNotes 84 = .ok (.dup2, 1) := by decide +kernel
theorem dX0_putWaitingNotes_85 : decode cX0_putWaitingNotes 85 = .ok (.iaload, 1) := by decide +kernel
theorem dX0_putWaitingNotes_86 : decode cX0_putWaitingNotes 86 = .ok (.iload_n 3, 1) := by decide +kernel
theorem dX0_putWaitingNotes_87 : decode cX0_putWaitingNotes 87 = .ok (.isub, 1) := by decide +kernel
theorem dX0_putWaitingNotes_88 : decode cX0_putWaitingNotes 88 = .ok (.iastore, 1) := by decide +kernel
theorem dX0_putWaitingNotes_89 : decode cX0_putWaitingNotes 89 = .ok (.aload_n 0, 1) := by decide +kernel
theorem dX0_putWaitingNotes_90 : decode cX0_putWaitingNotes 90 = .ok (.dup, 1) := by decide +kernel
theorem dX0_putWaitingNotes_91 : decode cX0_putWaitingNotes 91 = .ok (.getfield 61, 3) := by decide +kernel
theorem dX0_putWaitingNotes_94 : decode cX0_putWaitingNotes 94 = .ok (.iconst 1, 1) := by decide +kernel
theorem dX0_putWaitingNotes_95 : decode cX0_putWaitingNotes 95 = .ok (.iadd, 1) := by decide +kernel
theorem dX0_putWaitingNotes_96 : decode cX0_putWaitingNotes 96 = .ok (.putfield 61, 3) := by decide +kernel
theorem dX0_putWaitingNotes_99 : decode cX0_putWaitingNotes 99 = .ok (.goto (-99), 3) := by decide +kernel
theorem dX0_putWaitingNotes_102 : decode cX0_putWaitingNotes 102 = .ok (.return_, 1) := by decide +kernel
set_option maxRecDepth 20000 in
theorem ggX0_hasRoomForNextRow_X0_heightOfGroup : GoodIn wsX0_hasRoomForNextRow wsX0_heightOfGroup := goodIn_r _ [10, 1, 11, 12, 13, 14, 15, 16, 17, 18, 19, 20, 21, 22, 23, 24, 25, 26, 27, 28, 29, 30, 31, 32, 33, 34, 35, 36, 37, 38, 39, 40, 41] (by decide +kernel) (by decide +kernel)
set_option maxRecDepth 20000 in
theorem gX0_hasRoomForNextRow_X0_heightOfGroup : GoodIn wsX0_hasRoomForNextRow (wsV RX0 142 RX0 yX0_heightOfGroup wsX0_heightOfGroup) := goodIn_app (goodIn_of _ (by decide +kernel)) ggX0_hasRoomForNextRow_X0_heightOfGroup
theorem dX0_hasRoomForNextRow_0 : decode cX0_hasRoomForNextRow 0 = .ok (.aload_n 0, 1) := by decide +kernel
theorem dX0_hasRoomForNextRow_1 : decode cX0_hasRoomForNextRow 1 = .ok (.getfield 15, 3) := by decide +kernel
theorem dX0_hasRoomForNextRow_4 : decode cX0_hasRoomForNextRow 4 = .ok (.aload_n 0, 1) := by decide +kernel
theorem dX0_hasRoomForNextRow_5 : decode cX0_hasRoomForNextRow 5 = .ok (.getfield 58, 3) := by decide +kernel
theorem dX0_hasRoomForNextRow_8 : decode cX0_hasRoomForNextRow 8 = .ok (.iaload, 1) := by decide +kernel
theorem dX0_hasRoomForNextRow_9 : decode cX0_hasRoomForNextRow 9 = .ok (.aload_n 0, 1) := by decide +kernel
theorem dX0_hasRoomForNextRow_10 : decode cX0_hasRoomForNextRow 10 = .ok (.getfield 33, 3) := by decide +kernel
theorem dX0_hasRoomForNextRow_13 : decode cX0_hasRoomForNextRow 13 = .ok (.iload_n 2, 1) := by decide +kernel
theorem dX0_hasRoomForNextRow_14 : decode cX0_hasRoomForNextRow 14 = .ok (.iaload, 1) := by decide +kernel
theorem dX0_hasRoomForNextRow_15 : decode cX0_hasRoomForNextRow 15 = .ok (.if_icmp .le 5, 3) := by decide +kernel
theorem dX0_hasRoomForNextRow_18 : decode cX0_hasRoomForNextRow 18 = .ok (.iconst 0, 1) := by decide +kernel
theorem dX0_hasRoomForNextRow_19 : decode cX0_hasRoomForNextRow 19 = .ok (.ireturn, 1) := by decide +kernel
theorem dX0_hasRoomForNextRow_20 : decode cX0_hasRoomForNextRow 20 = .ok (.aload_n 0, 1) := by decide +kernel
theorem dX0_hasRoomForNextRow_21 : decode cX0_hasRoomForNextRow 21 = .ok (.getfield 58, 3) := by decide +kernel
theorem dX0_hasRoomForNextRow_24 : decode cX0_hasRoomForNextRow 24 = .ok (.ifCond .le 24, 3) := by decide +kernel
theorem dX0_hasRoomForNextRow_27 : decode cX0_hasRoomForNextRow 27 = .ok (.aload_n 1, 1) := by decide +kernel
theorem dX0_hasRoomForNextRow_28 : decode cX0_hasRoomForNextRow 28 = .ok (.getfield 87, 3) := by decide +kernel
theorem dX0_hasRoomForNextRow_31 : decode cX0_hasRoomForNextRow 31 = .ok (.aload_n 0, 1) := by decide +kernel
theorem dX0_hasRoomForNextRow_32 : decode cX0_hasRoomForNextRow 32 = .ok (.getfield 58, 3) := by decide +kernel
theorem dX0_hasRoomForNextRow_35 : decode cX0_hasRoomForNextRow 35 = .ok (.iconst 1, 1) := by decide +kernel
theorem dX0_hasRoomForNextRow_36 : decode cX0_hasRoomForNextRow 36 = .ok (.isub, 1) := by decide +kernel
theorem dX0_hasRoomForNextRow_37 : decode cX0_hasRoomForNextRow 37 = .ok (.aaload, 1) := by decide +kernel
theorem dX0_hasRoomForNextRow_38 : decode cX0_hasRoomForNextRow 38 = .ok (.getfield 139, 3) := by decide +kernel
theorem dX0_hasRoomForNextRow_41 : decode cX0_hasRoomForNextRow 41 = .ok (.ifCond .eq 7, 3) := by decide +kernel
theorem dX0_hasRoomForNextRow_44 : decode cX0_hasRoomForNextRow 44 = .ok (.iconst 1, 1) := by decide +kernel
theorem dX0_hasRoomForNextRow_45 : decode cX0_hasRoomForNextRow 45 = .ok (.goto 4, 3) := by decide +kernel
theorem dX0_hasRoomForNextRow_48 : decode cX0_hasRoomForNextRow 48 = .ok (.iconst 0, 1) := by decide +kernel
theorem dX0_hasRoomForNextRow_49 : decode cX0_hasRoomForNextRow 49 = .ok (.istore_n 3, 1) := by decide +kernel
theorem dX0_hasRoomForNextRow_50 : decode cX0_hasRoomForNextRow 50 = .ok (.aload_n 0, 1) := by decide +kernel
theorem dX0_hasRoomForNextRow_51 : decode cX0_hasRoomForNextRow 51 = .ok (.getfield 27, 3) := by decide +kernel
theorem dX0_hasRoomForNextRow_54 : decode cX0_hasRoomForNextRow 54 = .ok (.iload_n 2, 1) := by decide +kernel
theorem dX0_hasRoomForNextRow_55 : decode cX0_hasRoomForNextRow 55 = .ok (.iaload, 1) := by decide +kernel
theorem dX0_hasRoomForNextRow_56 : decode cX0_hasRoomForNextRow 56 = .ok (.ifCond .eq 7, 3) := by decide +kernel
theorem dX0_hasRoomForNextRow_59 : decode cX0_hasRoomForNextRow 59 = .ok (.iload_n 3, 1) := by decide +kernel
theorem dX0_hasRoomForNextRow_60 : decode cX0_hasRoomForNextRow 60 = .ok (.ifCond .eq 5, 3) := by decide +kernel
theorem dX0_hasRoomForNextRow_63 : decode cX0_hasRoomForNextRow 63 = .ok (.iconst 1, 1) := by decide +kernel
theorem dX0_hasRoomForNextRow_64 : decode cX0_hasRoomForNextRow 64 = .ok (.ireturn, 1) := by decide +kernel
theorem dX0_hasRoomForNextRow_65 : decode cX0_hasRoomForNextRow 65 = .ok (.aload_n 0, 1) := by decide +kernel
theorem dX0_hasRoomForNextRow_66 : decode cX0_hasRoomForNextRow 66 = .ok (.aload_n 1, 1) := by decide +kernel
theorem dX0_hasRoomForNextRow_67 : decode cX0_hasRoomForNextRow 67 = .ok (.aload_n 0, 1) := by decide +kernel
theorem dX0_hasRoomForNextRow_68 : decode cX0_hasRoomForNextRow 68 = .ok (.getfield 58, 3) := by decide +kernel
theorem dX0_hasRoomForNextRow_71 : decode cX0_hasRoomForNextRow 71 = .ok (.invokevirtual 142, 3) := by decide +kernel
theorem dX0_hasRoomForNextRow_74 : decode cX0_hasRoomForNextRow 74 = .ok (.istore 4, 2) := by decide +kernel
theorem dX0_hasRoomForNextRow_76 : decode cX0_hasRoomForNextRow 76 = .ok (.iload 4, 2) := by decide +kernel
theorem dX0_hasRoomForNextRow_78 : decode cX0_hasRoomForNextRow 78 = .ok (.aload_n 0, 1) := by decide +kernel
theorem dX0_hasRoomForNextRow_79 : decode cX0_hasRoomForNextRow 79 = .ok (.getfield 33, 3) := by decide +kernel
theorem dX0_hasRoomForNextRow_82 : decode cX0_hasRoomForNextRow 82 = .ok (.iload_n 2, 1) := by decide +kernel
theorem dX0_hasRoomForNextRow_83 : decode cX0_hasRoomForNextRow 83 = .ok (.iaload, 1) := by decide +kernel
theorem dX0_hasRoomForNextRow_84 : decode cX0_hasRoomForNextRow 84 = .ok (.if_icmp .le 12, 3) := by decide +kernel
theorem dX0_hasRoomForNextRow_87 : decode cX0_hasRoomForNextRow 87 = .ok (.iload 4, 2) := by decide +kernel
theorem dX0_hasRoomForNextRow_89 : decode cX0_hasRoomForNextRow 89 = .ok (.aload_n 0, 1) := by decide +kernel
theorem dX0_hasRoomForNextRow_90 : decode cX0_hasRoomForNextRow 90 = .ok (.getfield 39, 3) := by decide +kernel
theorem dX0_hasRoomForNextRow_93 : decode cX0_hasRoomForNextRow 93 = .ok (.if_icmp .le 7, 3) := by decide +kernel
theorem dX0_hasRoomForNextRow_96 : decode cX0_hasRoomForNextRow 96 = .ok (.iconst 1, 1) := by decide +kernel
theorem dX0_hasRoomForNextRow_97 : decode cX0_hasRoomForNextRow 97 = .ok (.goto 4, 3) := by decide +kernel
theorem dX0_hasRoomForNextRow_100 : decode cX0_hasRoomForNextRow 100 = .ok (.iconst 0, 1) := by decide +kernel
theorem dX0_hasRoomForNextRow_101 : decode cX0_hasRoomForNextRow 101 = .ok (.ireturn, 1) := by decide +kernel
theorem dX0_heightOfGroup_0 : decode cX0_heightOfGroup 0 = .ok (.aload_n 0, 1) := by decide +kernel
theorem dX0_heightOfGroup_1 : decode cX0_heightOfGroup 1 = .ok (.getfield 15, 3) := by decide +kernel
theorem dX0_heightOfGroup_4 : decode cX0_heightOfGroup 4 = .ok (.iload_n 2, 1) := by decide +kernel
theorem dX0_heightOfGroup_5 : decode cX0_heightOfGroup 5 = .ok (.iaload, 1) := by decide +kernel
theorem dX0_heightOfGroup_6 : decode cX0_heightOfGroup 6 = .ok (.istore_n 3, 1) := by decide +kernel
theorem dX0_heightOfGroup_7 : decode cX0_heightOfGroup 7 = .ok (.iload_n 2, 1) := by decide +kernel
theorem dX0_heightOfGroup_8 : decode cX0_heightOfGroup 8 = .ok (.iconst 1, 1) := by decide +kernel
theorem dX0_heightOfGroup_9 : decode cX0_heightOfGroup 9 = .ok (.iadd, 1) := by decide +kernel
theorem dX0_heightOfGroup_10 : decode cX0_heightOfGroup 10 = .ok (.istore 4, 2) := by decide +kernel
theorem dX0_heightOfGroup_12 : decode cX0_heightOfGroup 12 = .ok (.iload 4, 2) := by decide +kernel
theorem dX0_heightOfGroup_14 : decode cX0_heightOfGroup 14 = .ok (.aload_n 1, 1) := by decide +kernel
theorem dX0_heightOfGroup_15 : decode cX0_heightOfGroup 15 = .ok (.getfield 64, 3) := by decide +kernel
theorem dX0_heightOfGroup_18 : decode cX0_heightOfGroup 18 = .ok (.if_icmp .ge 34, 3) := by decide +kernel
theorem dX0_heightOfGroup_21 : decode cX0_heightOfGroup 21 = .ok (.aload_n 1, 1) := by decide +kernel
theorem dX0_heightOfGroup_22 : decode cX0_heightOfGroup 22 = .ok (.getfield 87, 3) := by decide +kernel
theorem dX0_heightOfGroup_25 : decode cX0_heightOfGroup 25 = .ok (.iload 4, 2) := by decide +kernel
theorem dX0_heightOfGroup_27 : decode cX0_heightOfGroup 27 = .ok (.iconst 1, 1) := by decide +kernel
theorem dX0_heightOfGroup_28 : decode cX0_heightOfGroup 28 = .ok (.isub, 1) := by decide +kernel
theorem dX0_heightOfGroup_29 : decode cX0_heightOfGroup 29 = .ok (.aaload, 1) := by decide +kernel
theorem dX0_heightOfGroup_30 : decode cX0_heightOfGroup 30 = .ok (.getfield 139, 3) := by decide +kernel
theorem dX0_heightOfGroup_33 : decode cX0_heightOfGroup 33 = .ok (.ifCond .eq 19, 3) := by decide +kernel
theorem dX0_heightOfGroup_36 : decode cX0_heightOfGroup 36 = .ok (.iload_n 3, 1) := by decide +kernel
theorem dX0_heightOfGroup_37 : decode cX0_heightOfGroup 37 = .ok (.aload_n 0, 1) := by decide +kernel
theorem dX0_heightOfGroup_38 : decode cX0_heightOfGroup 38 = .ok (.getfield 15, 3) := by decide +kernel
theorem dX0_heightOfGroup_41 : decode cX0_heightOfGroup 41 = .ok (.iload 4, 2) := by decide +kernel
theorem dX0_heightOfGroup_43 : decode cX0_heightOfGroup 43 = .ok (.iaload, 1) := by decide +kernel
theorem dX0_heightOfGroup_44 : decode cX0_heightOfGroup 44 = .ok (.iadd, 1) := by decide +kernel
theorem dX0_heightOfGroup_45 : decode cX0_heightOfGroup 45 = .ok (.istore_n 3, 1) := by decide +kernel
theorem dX0_heightOfGroup_46 : decode cX0_heightOfGroup 46 = .ok (.iinc 4 1, 3) := by decide +kernel
theorem dX0_heightOfGroup_49 : decode cX0_heightOfGroup 49 = .ok (.goto (-37), 3) := by decide +kernel
theorem dX0_heightOfGroup_52 : decode cX0_heightOfGroup 52 = .ok (.iload_n 3, 1) := by decide +kernel
theorem dX0_heightOfGroup_53 : decode cX0_heightOfGroup 53 = .ok (.ireturn, 1) := by decide +kernel
theorem dX0_putNextRow_0 : decode cX0_putNextRow 0 = .ok (.aload_n 0, 1) := by decide +kernel
theorem dX0_putNextRow_1 : decode cX0_putNextRow 1 = .ok (.getfield 27, 3) := by decide +kernel
theorem dX0_putNextRow_4 : decode cX0_putNextRow 4 = .ok (.iload_n 1, 1) := by decide +kernel
theorem dX0_putNextRow_5 : decode cX0_putNextRow 5 = .ok (.iaload, 1) := by decide +kernel
theorem dX0_putNextRow_6 : decode cX0_putNextRow 6 = .ok (.ifCond .ne 13, 3) := by decide +kernel
theorem dX0_putNextRow_9 : decode cX0_putNextRow 9 = .ok (.aload_n 0, 1) := by decide +kernel
theorem dX0_putNextRow_10 : decode cX0_putNextRow 10 = .ok (.getfield 24, 3) := by decide +kernel
theorem dX0_putNextRow_13 : decode cX0_putNextRow 13 = .ok (.iload_n 1, 1) := by decide +kernel
theorem dX0_putNextRow_14 : decode cX0_putNextRow 14 = .ok (.aload_n 0, 1) := by decide +kernel
theorem dX0_putNextRow_15 : decode cX0_putNextRow 15 = .ok (.getfield 58, 3) := by decide +kernel
theorem dX0_putNextRow_18 : decode cX0_putNextRow 18 = .ok (.iastore, 1) := by decide +kernel
theorem dX0_putNextRow_19 : decode cX0_putNextRow 19 = .ok (.aload_n 0, 1) := by decide +kernel
theorem dX0_putNextRow_20 : decode cX0_putNextRow 20 = .ok (.getfield 18, 3) := by decide +kernel
theorem dX0_putNextRow_23 : decode cX0_putNextRow 23 = .ok (.aload_n 0, 1) := by decide +kernel
theorem dX0_putNextRow_24 : decode cX0_putNextRow 24 = .ok (.getfield 58, 3) := by decide +kernel
theorem dX0_putNextRow_27 : decode cX0_putNextRow 27 = .ok (.iload_n 1, 1) := by decide +kernel
theorem dX0_putNextRow_28 : decode cX0_putNextRow 28 = .ok (.iastore, 1) := by decide +kernel
theorem dX0_putNextRow_29 : decode cX0_putNextRow 29 = .ok (.aload_n 0, 1) := by decide +kernel
theorem dX0_putNextRow_30 : decode cX0_putNextRow 30 = .ok (.getfield 27, 3) := by decide +kernel
theorem dX0_putNextRow_33 : decode cX0_putNextRow 33 = .ok (.iload_n 1, 1) := by decide +kernel
theorem dX0_putNextRow_34 : decode cX0_putNextRow 34 = .ok (.dup2, 1) := by decide +kernel
theorem dX0_putNextRow_35 : decode cX0_putNextRow 35 = .ok (.iaload, 1) := by decide +kernel
theorem dX0_putNextRow_36 : decode cX0_putNextRow 36 = .ok (.iconst 1, 1) := by decide +kernel
theorem dX0_putNextRow_37 : decode cX0_putNextRow 37 = .ok (.iadd, 1) := by decide +kernel
theorem dX0_putNextRow_38 : decode cX0_putNextRow 38 = .ok (.iastore, 1) := by decide +kernel
theorem dX0_putNextRow_39 : decode cX0_putNextRow 39 = .ok (.aload_n 0, 1) := by decide +kernel
theorem dX0_putNextRow_40 : decode cX0_putNextRow 40 = .ok (.getfield 33, 3) := by decide +kernel
theorem dX0_putNextRow_43 : decode cX0_putNextRow 43 = .ok (.iload_n 1, 1) := by decide +kernel
theorem dX0_putNextRow_44 : decode cX0_putNextRow 44 = .ok (.dup2, 1) := by decide +kernel
theorem dX0_putNextRow_45 : decode cX0_putNextRow 45 = .ok (.iaload, 1) := by decide +kernel
theorem dX0_putNextRow_46 : decode cX0_putNextRow 46 = .ok (.aload_n 0, 1) := by decide +kernel
theorem dX0_putNextRow_47 : decode cX0_putNextRow 47 = .ok (.getfield 15, 3) := by decide +kernel
theorem dX0_putNextRow_50 : decode cX0_putNextRow 50 = .ok (.aload_n 0, 1) := by decide +kernel
theorem dX0_putNextRow_51 : decode cX0_putNextRow 51 = .ok (.getfield 58, 3) := by decide +kernel
theorem dX0_putNextRow_54 : decode cX0_putNextRow 54 = .ok (.iaload, 1) := by decide +kernel
theorem dX0_putNextRow_55 : decode cX0_putNextRow 55 = .ok (.isub, 1) := by decide +kernel
theorem dX0_putNextRow_56 : decode cX0_putNextRow 56 = .ok (.iastore, 1) := by decide +kernel
theorem dX0_putNextRow_57 : decode cX0_putNextRow 57 = .ok (.return_, 1) := by decide +kernel
theorem dX1_init_0 : decode cX1_init 0 = .ok (.aload_n 0, 1) := by decide +kernel
theorem dX1_init_1 : decode cX1_init 1 = .ok (.invokespecial 3, 3) := by decide +kernel
theorem dX1_init_4 : decode cX1_init 4 = .ok (.aload_n 0, 1) := by decide +kernel
theorem dX1_init_5 : decode cX1_init 5 = .ok (.bipush 6, 2) := by decide +kernel
theorem dX1_init_7 : decode cX1_init 7 = .ok (.newarray .int, 2) := by decide +kernel
theorem dX1_init_9 : decode cX1_init 9 = .ok (.putfield 9, 3) := by decide +kernel
theorem dX1_init_12 : decode cX1_init 12 = .ok (.aload_n 0, 1) := by decide +kernel
theorem dX1_init_13 : decode cX1_init 13 = .ok (.bipush 6, 2) := by decide +kernel
theorem dX1_init_15 : decode cX1_init 15 = .ok (.newarray .int, 2) := by decide +kernel
theorem dX1_init_17 : decode cX1_init 17 = .ok (.putfield 15, 3) := by decide +kernel
theorem dX1_init_20 : decode cX1_init 20 = .ok (.aload_n 0, 1) := by decide +kernel
theorem dX1_init_21 : decode cX1_init 21 = .ok (.bipush 6, 2) := by decide +kernel
theorem dX1_init_23 : decode cX1_init 23 = .ok (.newarray .int, 2) := by decide +kernel
theorem dX1_init_25 : decode cX1_init 25 = .ok (.putfield 18, 3) := by decide +kernel
theorem dX1_init_28 : decode cX1_init 28 = .ok (.aload_n 0, 1) := by decide +kernel
theorem dX1_init_29 : decode cX1_init 29 = .ok (.bipush 6, 2) := by decide +kernel
theorem dX1_init_31 : decode cX1_init 31 = .ok (.newarray .boolean, 2) := by decide +kernel
theorem dX1_init_33 : decode cX1_init 33 = .ok (.putfield 21, 3) := by decide +kernel
theorem dX1_init_36 : decode cX1_init 36 = .ok (.aload_n 0, 1) := by decide +kernel
theorem dX1_init_37 : decode cX1_init 37 = .ok (.bipush 6, 2) := by decide +kernel
theorem dX1_init_39 : decode cX1_init 39 = .ok (.newarray .int, 2) := by decide +kernel
theorem dX1_init_41 : decode cX1_init 41 = .ok (.putfield 25, 3) := by decide +kernel
theorem dX1_init_44 : decode cX1_init 44 = .ok (.aload_n 0, 1) := by decide +kernel
theorem dX1_init_45 : decode cX1_init 45 = .ok (.bipush 6, 2) := by decide +kernel
theorem dX1_init_47 : decode cX1_init 47 = .ok (.newarray .boolean, 2) := by decide +kernel
theorem dX1_init_49 : decode cX1_init 49 = .ok (.putfield 28, 3) := by decide +kernel
theorem dX1_init_52 : decode cX1_init 52 = .ok (.return_, 1) := by decide +kernel
theorem dX1_clear_0 : decode cX1_clear 0 = .ok (.iconst 0, 1) := by decide +kernel
theorem dX1_clear_1 : decode cX1_clear 1 = .ok (.istore_n 1, 1) := by decide +kernel
theorem dX1_clear_2 : decode cX1_clear 2 = .ok (.iload_n 1, 1) := by decide +kernel
theorem dX1_clear_3 : decode cX1_clear 3 = .ok (.bipush 6, 2) := by decide +kernel
theorem dX1_clear_5 : decode cX1_clear 5 = .ok (.if_icmp .ge 37, 3) := by decide +kernel
theorem dX1_clear_8 : decode cX1_clear 8 = .ok (.aload_n 0, 1) := by decide +kernel
theorem dX1_clear_9 : decode cX1_clear 9 = .ok (.getfield 9, 3) := by decide +kernel
theorem dX1_clear_12 : decode cX1_clear 12 = .ok (.iload_n 1, 1) := by decide +kernel
theorem dX1_clear_13 : decode cX1_clear 13 = .ok (.iconst 0, 1) := by decide +kernel
theorem dX1_clear_14 : decode cX1_clear 14 = .ok (.iastore, 1) := by decide +kernel
theorem dX1_clear_15 : decode cX1_clear 15 = .ok (.aload_n 0, 1) := by decide +kernel
theorem dX1_clear_16 : decode cX1_clear 16 = .ok (.getfield 15, 3) := by decide +kernel
theorem dX1_clear_19 : decode cX1_clear 19 = .ok (.iload_n 1, 1) := by decide +kernel
theorem dX1_clear_20 : decode cX1_clear 20 = .ok (.iconst 0, 1) := by decide +kernel
theorem dX1_clear_21 : decode cX1_clear 21 = .ok (.iastore, 1) := by decide +kernel
theorem dX1_clear_22 : decode cX1_clear 22 = .ok (.aload_n 0, 1) := by decide +kernel
theorem dX1_clear_23 : decode cX1_clear 23 = .ok (.getfield 18, 3) := by decide +kernel
theorem dX1_clear_26 : decode cX1_clear 26 = .ok (.iload_n 1, 1) := by decide +kernel
theorem dX1_clear_27 : decode cX1_clear 27 = .ok (.iconst 0, 1) := by decide +kernel
theorem dX1_clear_28 : decode cX1_clear 28 = .ok (.iastore, 1) := by decide +kernel
theorem dX1_clear_29 : decode cX1_clear 29 = .ok (.aload_n 0, 1) := by decide +kernel
theorem dX1_clear_30 : decode cX1_clear 30 = .ok (.getfield 21, 3) := by decide +kernel
theorem dX1_clear_33 : decode cX1_clear 33 = .ok (.iload_n 1, 1) := by decide +kernel
theorem dX1_clear_34 : decode cX1_clear 34 = .ok (.iconst 0, 1) := by decide +kernel
theorem dX1_clear_35 : decode cX1_clear 35 = .ok (.bastore, 1) := by decide +kernel
theorem dX1_clear_36 : decode cX1_clear 36 = .ok (.iinc 1 1, 3) := by decide +kernel
theorem dX1_clear_39 : decode cX1_clear 39 = .ok (.goto (-37), 3) := by decide +kernel
theorem dX1_clear_42 : decode cX1_clear 42 = .ok (.aload_n 0, 1) := by decide +kernel
theorem dX1_clear_43 : decode cX1_clear 43 = .ok (.iconst 0, 1) := by decide +kernel
theorem dX1_clear_44 : decode cX1_clear 44 = .ok (.putfield 31, 3) := by decide +kernel
theorem dX1_clear_47 : decode cX1_clear 47 = .ok (.aload_n 0, 1) := by decide +kernel
theorem dX1_clear_48 : decode cX1_clear 48 = .ok (.iconst 0, 1) := by decide +kernel
theorem dX1_clear_49 : decode cX1_clear 49 = .ok (.putfield 35, 3) := by decide +kernel
theorem dX1_clear_52 : decode cX1_clear 52 = .ok (.return_, 1) := by decide +kernel
theorem dX1_copyFrom_0 : decode cX1_copyFrom 0 = .ok (.iconst 0, 1) := by decide +kernel
theorem dX1_copyFrom_1 : decode cX1_copyFrom 1 = .ok (.istore_n 2, 1) := by decide +kernel
theorem dX1_copyFrom_2 : decode cX1_copyFrom 2 = .ok (.iload_n 2, 1) := by decide +kernel
theorem dX1_copyFrom_3 : decode cX1_copyFrom 3 = .ok (.bipush 6, 2) := by decide +kernel
theorem dX1_copyFrom_5 : decode cX1_copyFrom 5 = .ok (.if_icmp .ge 57, 3) := by decide +kernel
theorem dX1_copyFrom_8 : decode cX1_copyFrom 8 = .ok (.aload_n 0, 1) := by decide +kernel
theorem dX1_copyFrom_9 : decode cX1_copyFrom 9 = .ok (.getfield 9, 3) := by decide +kernel
theorem dX1_copyFrom_12 : decode cX1_copyFrom 12 = .ok (.iload_n 2, 1) := by decide +kernel
theorem dX1_copyFrom_13 : decode cX1_copyFrom 13 = .ok (.aload_n 1, 1) := by decide +kernel
theorem dX1_copyFrom_14 : decode cX1_copyFrom 14 = .ok (.getfield 9, 3) := by decide +kernel
theorem dX1_copyFrom_17 : decode cX1_copyFrom 17 = .ok (.iload_n 2, 1) := by decide +kernel
theorem dX1_copyFrom_18 : decode cX1_copyFrom 18 = .ok (.iaload, 1) := by decide +kernel
theorem dX1_copyFrom_19 : decode cX1_copyFrom 19 = .ok (.iastore, 1) := by decide +kernel
theorem dX1_copyFrom_20 : decode cX1_copyFrom 20 = .ok (.aload_n 0, 1) := by decide +kernel
theorem dX1_copyFrom_21 : decode cX1_copyFrom 21 = .ok (.getfield 15, 3) := by decide +kernel
theorem dX1_copyFrom_24 : decode cX1_copyFrom 24 = .ok (.iload_n 2, 1) := by decide +kernel
theorem dX1_copyFrom_25 : decode cX1_copyFrom 25 = .ok (.aload_n 1, 1) := by decide +kernel
theorem dX1_copyFrom_26 : decode cX1_copyFrom 26 = .ok (.getfield 15, 3) := by decide +kernel
theorem dX1_copyFrom_29 : decode cX1_copyFrom 29 = .ok (.iload_n 2, 1) := by decide +kernel
theorem dX1_copyFrom_30 : decode cX1_copyFrom 30 = .ok (.iaload, 1) := by decide +kernel
theorem dX1_copyFrom_31 : decode cX1_copyFrom 31 = .ok (.iastore, 1) := by decide +kernel
theorem dX1_copyFrom_32 : decode cX1_copyFrom 32 = .ok (.aload_n 0, 1) := by decide +kernel
theorem dX1_copyFrom_33 : decode cX1_copyFrom 33 = .ok (.getfield 18, 3) := by decide +kernel
theorem dX1_copyFrom_36 : decode cX1_copyFrom 36 = .ok (.iload_n 2, 1) := by decide +kernel
theorem dX1_copyFrom_37 : decode cX1_copyFrom 37 = .ok (.aload_n 1, 1) := by decide +kernel
theorem dX1_copyFrom_38 : decode cX1_copyFrom 38 = .ok (.getfield 18, 3) := by decide +kernel
theorem dX1_copyFrom_41 : decode cX1_copyFrom 41 = .ok (.iload_n 2, 1) := by decide +kernel
theorem dX1_copyFrom_42 : decode cX1_copyFrom 42 = .ok (.iaload, 1) := by decide +kernel
theorem dX1_copyFrom_43 : decode cX1_copyFrom 43 = .ok (.iastore, 1) := by decide +kernel
theorem dX1_copyFrom_44 : decode cX1_copyFrom 44 = .ok (.aload_n 0, 1) := by decide +kernel
theorem dX1_copyFrom_45 : decode cX1_copyFrom 45 = .ok (.getfield 21, 3) := by decide +kernel
theorem dX1_copyFrom_48 : decode cX1_copyFrom 48 = .ok (.iload_n 2, 1) := by decide +kernel
theorem dX1_copyFrom_49 : decode cX1_copyFrom 49 = .ok (.aload_n 1, 1) := by decide +kernel
theorem dX1_copyFrom_50 : decode cX1_copyFrom 50 = .ok (.getfield 21, 3) := by decide +kernel
theorem dX1_copyFrom_53 : decode cX1_copyFrom 53 = .ok (.iload_n 2, 1) := by decide +kernel
theorem dX1_copyFrom_54 : decode cX1_copyFrom 54 = .ok (.baload, 1) := by decide +kernel
theorem dX1_copyFrom_55 : decode cX1_copyFrom 55 = .ok (.bastore, 1) := by decide +kernel
theorem dX1_copyFrom_56 : decode cX1_copyFrom 56 = .ok (.iinc 2 1, 3) := by decide +kernel
theorem dX1_copyFrom_59 : decode cX1_copyFrom 59 = .ok (.goto (-57), 3) := by decide +kernel
theorem dX1_copyFrom_62 : decode cX1_copyFrom 62 = .ok (.aload_n 0, 1) := by decide +kernel
theorem dX1_copyFrom_63 : decode cX1_copyFrom 63 = .ok (.aload_n 1, 1) := by decide +kernel
theorem dX1_copyFrom_64 : decode cX1_copyFrom 64 = .ok (.getfield 31, 3) := by decide +kernel
theorem dX1_copyFrom_67 : decode cX1_copyFrom 67 = .ok (.putfield 31, 3) := by decide +kernel
theorem dX1_copyFrom_70 : decode cX1_copyFrom 70 = .ok (.aload_n 0, 1) := by decide +kernel
theorem dX1_copyFrom_71 : decode cX1_copyFrom 71 = .ok (.aload_n 1, 1) := by decide +kernel
theorem dX1_copyFrom_72 : decode cX1_copyFrom 72 = .ok (.getfield 35, 3) := by decide +kernel
theorem dX1_copyFrom_75 : decode cX1_copyFrom 75 = .ok (.putfield 35, 3) := by decide +kernel
theorem dX1_copyFrom_78 : decode cX1_copyFrom 78 = .ok (.return_, 1) := by decide +kernel
set_option maxRecDepth 20000 in
theorem ggX2_init_X0_init : GoodIn wsX2_init wsX0_init := goodIn_r _ [10, 11, 2, 3, 12, 13, 14, 15, 16, 17, 18, 19, 20, 21, 22, 23, 24, 25, 26, 27, 28, 29, 30, 31, 32, 33, 34, 35] (by decide +kernel) (by decide +kernel)
set_option maxRecDepth 20000 in
theorem gX2_init_X0_init_n9 : GoodIn wsX2_init (wsX0_init) := ggX2_init_X0_init
theorem dX2_init_0 : decode cX2_init 0 = .ok (.aload_n 0, 1) := by decide +kernel
theorem dX2_init_1 : decode cX2_init 1 = .ok (.invokespecial 1, 3) := by decide +kernel
theorem dX2_init_4 : decode cX2_init 4 = .ok (.aload_n 0, 1) := by decide +kernel
theorem dX2_init_5 : decode cX2_init 5 = .ok (.new 7, 3) := by decide +kernel
theorem dX2_init_8 : decode cX2_init 8 = .ok (.dup, 1) := by decide +kernel
theorem dX2_init_9 : decode cX2_init 9 = .ok (.invokespecial 9, 3) := by decide +kernel
theorem dX2_init_12 : decode cX2_init 12 = .ok (.putfield 10, 3) := by decide +kernel
theorem dX2_init_15 : decode cX2_init 15 = .ok (.aload_n 0, 1) := by decide +kernel
theorem dX2_init_16 : decode cX2_init 16 = .ok (.new 7, 3) := by decide +kernel
theorem dX2_init_19 : decode cX2_init 19 = .ok (.dup, 1) := by decide +kernel
theorem dX2_init_20 : decode cX2_init 20 = .ok (.invokespecial 9, 3) := by decide +kernel
theorem dX2_init_23 : decode cX2_init 23 = .ok (.putfield 16, 3) := by decide +kernel
theorem dX2_init_26 : decode cX2_init 26 = .ok (.return_, 1) := by decide +kernel
set_option maxRecDepth 20000 in
theorem ggX2_arrange_X0_arrange : GoodIn wsX2_arrange wsX0_arrange := goodIn_r _ [8, 9, 10, 11, 12, 13, 14, 15, 16, 7, 17, 18, 19, 20, 21, 22, 23, 24, 25, 26, 27, 28, 29, 30, 31, 32, 33, 34, 35, 36, 37, 38, 39, 40, 41, 42, 43, 44, 45, 46, 47, 48, 49, 50, 51, 52, 53, 54, 55, 56, 57, 58, 59, 60, 61, 62, 63, 64, 65, 66, 67, 68, 69, 70, 71, 72, 73, 77, 78, 79, 80, 81, 82, 83, 84, 85, 86, 87, 88, 89, 90, 91, 92, 93, 94, 95, 96, 97, 98, 99, 100, 101, 102, 103, 104, 105, 106, 107] (by decide +kernel) (by decide +kernel)
set_option maxRecDepth 20000 in
theorem gX2_arrange_X0_arrange : GoodIn wsX2_arrange (wsV RX2 19 RX0 yX0_arrange wsX0_arrange) := goodIn_app (goodIn_of _ (by decide +kernel)) ggX2_arrange_X0_arrange
theorem dX2_arrange_0 : decode cX2_arrange 0 = .ok (.aload_n 0, 1) := by decide +kernel
theorem dX2_arrange_1 : decode cX2_arrange 1 = .ok (.getfield 10, 3) := by decide +kernel
theorem dX2_arrange_4 : decode cX2_arrange 4 = .ok (.aload_n 1, 1) := by decide +kernel
theorem dX2_arrange_5 : decode cX2_arrange 5 = .ok (.iload_n 2, 1) := by decide +kernel
theorem dX2_arrange_6 : decode cX2_arrange 6 = .ok (.iload_n 3, 1) := by decide +kernel
theorem dX2_arrange_7 : decode cX2_arrange 7 = .ok (.invokevirtual 19, 3) := by decide +kernel
theorem dX2_arrange_10 : decode cX2_arrange 10 = .ok (.aload_n 0, 1) := by decide +kernel
theorem dX2_arrange_11 : decode cX2_arrange 11 = .ok (.getfield 16, 3) := by decide +kernel
theorem dX2_arrange_14 : decode cX2_arrange 14 = .ok (.aload_n 1, 1) := by decide +kernel
theorem dX2_arrange_15 : decode cX2_arrange 15 = .ok (.iload_n 3, 1) := by decide +kernel
theorem dX2_arrange_16 : decode cX2_arrange 16 = .ok (.iload_n 2, 1) := by decide +kernel
theorem dX2_arrange_17 : decode cX2_arrange 17 = .ok (.invokevirtual 19, 3) := by decide +kernel
theorem dX2_arrange_20 : decode cX2_arrange 20 = .ok (.aload_n 0, 1) := by decide +kernel
theorem dX2_arrange_21 : decode cX2_arrange 21 = .ok (.getfield 10, 3) := by decide +kernel
theorem dX2_arrange_24 : decode cX2_arrange 24 = .ok (.getfield 23, 3) := by decide +kernel
theorem dX2_arrange_27 : decode cX2_arrange 27 = .ok (.ifCond .eq 34, 3) := by decide +kernel
theorem dX2_arrange_30 : decode cX2_arrange 30 = .ok (.aload_n 0, 1) := by decide +kernel
theorem dX2_arrange_31 : decode cX2_arrange 31 = .ok (.getfield 16, 3) := by decide +kernel
theorem dX2_arrange_34 : decode cX2_arrange 34 = .ok (.getfield 23, 3) := by decide +kernel
theorem dX2_arrange_37 : decode cX2_arrange 37 = .ok (.ifCond .eq 20, 3) := by decide +kernel
theorem dX2_arrange_40 : decode cX2_arrange 40 = .ok (.aload_n 0, 1) := by decide +kernel
theorem dX2_arrange_41 : decode cX2_arrange 41 = .ok (.getfield 10, 3) := by decide +kernel
theorem dX2_arrange_44 : decode cX2_arrange 44 = .ok (.getfield 27, 3) := by decide +kernel
theorem dX2_arrange_47 : decode cX2_arrange 47 = .ok (.aload_n 0, 1) := by decide +kernel
theorem dX2_arrange_48 : decode cX2_arrange 48 = .ok (.getfield 16, 3) := by decide +kernel
theorem dX2_arrange_51 : decode cX2_arrange 51 = .ok (.getfield 27, 3) := by decide +kernel
theorem dX2_arrange_54 : decode cX2_arrange 54 = .ok (.if_icmp .gt 7, 3) := by decide +kernel
theorem dX2_arrange_57 : decode cX2_arrange 57 = .ok (.iconst 1, 1) := by decide +kernel
theorem dX2_arrange_58 : decode cX2_arrange 58 = .ok (.goto 4, 3) := by decide +kernel
theorem dX2_arrange_61 : decode cX2_arrange 61 = .ok (.iconst 0, 1) := by decide +kernel
theorem dX2_arrange_62 : decode cX2_arrange 62 = .ok (.istore 4, 2) := by decide +kernel
theorem dX2_arrange_64 : decode cX2_arrange 64 = .ok (.aload_n 0, 1) := by decide +kernel
theorem dX2_arrange_65 : decode cX2_arrange 65 = .ok (.aload_n 0, 1) := by decide +kernel
theorem dX2_arrange_66 : decode cX2_arrange 66 = .ok (.getfield 16, 3) := by decide +kernel
theorem dX2_arrange_69 : decode cX2_arrange 69 = .ok (.getfield 23, 3) := by decide +kernel
theorem dX2_arrange_72 : decode cX2_arrange 72 = .ok (.ifCond .eq 12, 3) := by decide +kernel
theorem dX2_arrange_75 : decode cX2_arrange 75 = .ok (.iload 4, 2) := by decide +kernel
theorem dX2_arrange_77 : decode cX2_arrange 77 = .ok (.ifCond .ne 7, 3) := by decide +kernel
theorem dX2_arrange_80 : decode cX2_arrange 80 = .ok (.iconst 1, 1) := by decide +kernel
theorem dX2_arrange_81 : decode cX2_arrange 81 = .ok (.goto 4, 3) := by decide +kernel
theorem dX2_arrange_84 : decode cX2_arrange 84 = .ok (.iconst 0, 1) := by decide +kernel
theorem dX2_arrange_85 : decode cX2_arrange 85 = .ok (.putfield 31, 3) := by decide +kernel
theorem dX2_arrange_88 : decode cX2_arrange 88 = .ok (.return_, 1) := by decide +kernel
theorem dX2_chosen_0 : decode cX2_chosen 0 = .ok (.aload_n 0, 1) := by decide +kernel
theorem dX2_chosen_1 : decode cX2_chosen 1 = .ok (.getfield 31, 3) := by decide +kernel
theorem dX2_chosen_4 : decode cX2_chosen 4 = .ok (.ifCond .eq 10, 3) := by decide +kernel
theorem dX2_chosen_7 : decode cX2_chosen 7 = .ok (.aload_n 0, 1) := by decide +kernel
theorem dX2_chosen_8 : decode cX2_chosen 8 = .ok (.getfield 16, 3) := by decide +kernel
theorem dX2_chosen_11 : decode cX2_chosen 11 = .ok (.goto 7, 3) := by decide +kernel
theorem dX2_chosen_14 : decode cX2_chosen 14 = .ok (.aload_n 0, 1) := by decide +kernel
theorem dX2_chosen_15 : decode cX2_chosen 15 = .ok (.getfield 10, 3) := by decide +kernel
theorem dX2_chosen_18 : decode cX2_chosen 18 = .ok (.areturn, 1) := by decide +kernel
set_option maxRecDepth 20000 in
theorem ggX3_init_X1_init : GoodIn wsX3_init wsX1_init := goodIn_r _ [16, 17, 2, 3, 4, 18, 19, 20, 21, 22, 23, 24, 34, 35, 36, 37, 38, 39, 40, 41] (by decide +kernel) (by decide +kernel)
set_option maxRecDepth 20000 in
theorem gX3_init_X1_init_n36 : GoodIn wsX3_init (wsX1_init) := ggX3_init_X1_init
theorem dX3_init_0 : decode cX3_init 0 = .ok (.aload_n 0, 1) := by decide +kernel
theorem dX3_init_1 : decode cX3_init 1 = .ok (.invokespecial 3, 3) := by decide +kernel
theorem dX3_init_4 : decode cX3_init 4 = .ok (.aload_n 0, 1) := by decide +kernel
theorem dX3_init_5 : decode cX3_init 5 = .ok (.bipush 6, 2) := by decide +kernel
theorem dX3_init_7 : decode cX3_init 7 = .ok (.newarray .int, 2) := by decide +kernel
theorem dX3_init_9 : decode cX3_init 9 = .ok (.putfield 9, 3) := by decide +kernel
theorem dX3_init_12 : decode cX3_init 12 = .ok (.aload_n 0, 1) := by decide +kernel
theorem dX3_init_13 : decode cX3_init 13 = .ok (.bipush 6, 2) := by decide +kernel
theorem dX3_init_15 : decode cX3_init 15 = .ok (.newarray .int, 2) := by decide +kernel
theorem dX3_init_17 : decode cX3_init 17 = .ok (.putfield 15, 3) := by decide +kernel
theorem dX3_init_20 : decode cX3_init 20 = .ok (.aload_n 0, 1) := by decide +kernel
theorem dX3_init_21 : decode cX3_init 21 = .ok (.bipush 6, 2) := by decide +kernel
theorem dX3_init_23 : decode cX3_init 23 = .ok (.newarray .int, 2) := by decide +kernel
theorem dX3_init_25 : decode cX3_init 25 = .ok (.putfield 18, 3) := by decide +kernel
theorem dX3_init_28 : decode cX3_init 28 = .ok (.aload_n 0, 1) := by decide +kernel
theorem dX3_init_29 : decode cX3_init 29 = .ok (.bipush 6, 2) := by decide +kernel
theorem dX3_init_31 : decode cX3_init 31 = .ok (.newarray .int, 2) := by decide +kernel
theorem dX3_init_33 : decode cX3_init 33 = .ok (.putfield 21, 3) := by decide +kernel
theorem dX3_init_36 : decode cX3_init 36 = .ok (.aload_n 0, 1) := by decide +kernel
theorem dX3_init_37 : decode cX3_init 37 = .ok (.bipush 30, 2) := by decide +kernel
theorem dX3_init_39 : decode cX3_init 39 = .ok (.anewarray 24, 3) := by decide +kernel
theorem dX3_init_42 : decode cX3_init 42 = .ok (.putfield 26, 3) := by decide +kernel
theorem dX3_init_45 : decode cX3_init 45 = .ok (.aload_n 0, 1) := by decide +kernel
theorem dX3_init_46 : decode cX3_init 46 = .ok (.bipush 6, 2) := by decide +kernel
theorem dX3_init_48 : decode cX3_init 48 = .ok (.newarray .int, 2) := by decide +kernel
theorem dX3_init_50 : decode cX3_init 50 = .ok (.putfield 30, 3) := by decide +kernel
theorem dX3_init_53 : decode cX3_init 53 = .ok (.aload_n 0, 1) := by decide +kernel
theorem dX3_init_54 : decode cX3_init 54 = .ok (.bipush 6, 2) := by decide +kernel
theorem dX3_init_56 : decode cX3_init 56 = .ok (.newarray .int, 2) := by decide +kernel
theorem dX3_init_58 : decode cX3_init 58 = .ok (.putfield 33, 3) := by decide +kernel
theorem dX3_init_61 : decode cX3_init 61 = .ok (.iconst 0, 1) := by decide +kernel
theorem dX3_init_62 : decode cX3_init 62 = .ok (.istore_n 1, 1) := by decide +kernel
theorem dX3_init_63 : decode cX3_init 63 = .ok (.iload_n 1, 1) := by decide +kernel
theorem dX3_init_64 : decode cX3_init 64 = .ok (.bipush 30, 2) := by decide +kernel
theorem dX3_init_66 : decode cX3_init 66 = .ok (.if_icmp .ge 22, 3) := by decide +kernel
theorem dX3_init_69 : decode cX3_init 69 = .ok (.aload_n 0, 1) := by decide +kernel
theorem dX3_init_70 : decode cX3_init 70 = .ok (.getfield 26, 3) := by decide +kernel
theorem dX3_init_73 : decode cX3_init 73 = .ok (.iload_n 1, 1) := by decide +kernel
theorem dX3_init_74 : decode cX3_init 74 = .ok (.new 24, 3) := by decide +kernel
theorem dX3_init_77 : decode cX3_init 77 = .ok (.dup, 1) := by decide +kernel
theorem dX3_init_78 : decode cX3_init 78 = .ok (.invokespecial 36, 3) := by decide +kernel
theorem dX3_init_81 : decode cX3_init 81 = .ok (.aastore, 1) := by decide +kernel
theorem dX3_init_82 : decode cX3_init 82 = .ok (.iinc 1 1, 3) := by decide +kernel
theorem dX3_init_85 : decode cX3_init 85 = .ok (.goto (-22), 3) := by decide +kernel
theorem dX3_init_88 : decode cX3_init 88 = .ok (.return_, 1) := by decide +kernel
theorem dX3_addColumn_0 : decode cX3_addColumn 0 = .ok (.aload_n 0, 1) := by decide +kernel
theorem dX3_addColumn_1 : decode cX3_addColumn 1 = .ok (.getfield 37, 3) := by decide +kernel
theorem dX3_addColumn_4 : decode cX3_addColumn 4 = .ok (.istore_n 3, 1) := by decide +kernel
theorem dX3_addColumn_5 : decode cX3_addColumn 5 = .ok (.aload_n 0, 1) := by decide +kernel
theorem dX3_addColumn_6 : decode cX3_addColumn 6 = .ok (.getfield 9, 3) := by decide +kernel
theorem dX3_addColumn_9 : decode cX3_addColumn 9 = .ok (.iload_n 3, 1) := by decide +kernel
theorem dX3_addColumn_10 : decode cX3_addColumn 10 = .ok (.iload_n 1, 1) := by decide +kernel
theorem dX3_addColumn_11 : decode cX3_addColumn 11 = .ok (.iastore, 1) := by decide +kernel
theorem dX3_addColumn_12 : decode cX3_addColumn 12 = .ok (.aload_n 0, 1) := by decide +kernel
theorem dX3_addColumn_13 : decode cX3_addColumn 13 = .ok (.getfield 15, 3) := by decide +kernel
theorem dX3_addColumn_16 : decode cX3_addColumn 16 = .ok (.iload_n 3, 1) := by decide +kernel
theorem dX3_addColumn_17 : decode cX3_addColumn 17 = .ok (.iload_n 2, 1) := by decide +kernel
theorem dX3_addColumn_18 : decode cX3_addColumn 18 = .ok (.iastore, 1) := by decide +kernel
theorem dX3_addColumn_19 : decode cX3_addColumn 19 = .ok (.aload_n 0, 1) := by decide +kernel
theorem dX3_addColumn_20 : decode cX3_addColumn 20 = .ok (.dup, 1) := by decide +kernel
theorem dX3_addColumn_21 : decode cX3_addColumn 21 = .ok (.getfield 37, 3) := by decide +kernel
theorem dX3_addColumn_24 : decode cX3_addColumn 24 = .ok (.iconst 1, 1) := by decide +kernel
theorem dX3_addColumn_25 : decode cX3_addColumn 25 = .ok (.iadd, 1) := by decide +kernel
theorem dX3_addColumn_26 : decode cX3_addColumn 26 = .ok (.putfield 37, 3) := by decide +kernel
theorem dX3_addColumn_29 : decode cX3_addColumn 29 = .ok (.iload_n 3, 1) := by decide +kernel
theorem dX3_addColumn_30 : decode cX3_addColumn 30 = .ok (.ireturn, 1) := by decide +kernel
set_option maxRecDepth 20000 in
theorem ggX3_addRow_X1_clear : GoodIn wsX3_addRow wsX1_clear := goodIn_r _ [7, 8, 9, 10, 11, 12, 13, 23, 24, 25, 26, 27, 28, 29, 30] (by decide +kernel) (by decide +kernel)
set_option maxRecDepth 20000 in
theorem gX3_addRow_X1_clear : GoodIn wsX3_addRow (wsV RX3 44 RX1 yX1_clear wsX1_clear) := goodIn_app (goodIn_of _ (by decide +kernel)) ggX3_addRow_X1_clear
theorem dX3_addRow_0 : decode cX3_addRow 0 = .ok (.aload_n 0, 1) := by decide +kernel
theorem dX3_addRow_1 : decode cX3_addRow 1 = .ok (.getfield 26, 3) := by decide +kernel
theorem dX3_addRow_4 : decode cX3_addRow 4 = .ok (.aload_n 0, 1) := by decide +kernel
theorem dX3_addRow_5 : decode cX3_addRow 5 = .ok (.getfield 41, 3) := by decide +kernel
theorem dX3_addRow_8 : decode cX3_addRow 8 = .ok (.aaload, 1) := by decide +kernel
theorem dX3_addRow_9 : decode cX3_addRow 9 = .ok (.invokevirtual 44, 3) := by decide +kernel
theorem dX3_addRow_12 : decode cX3_addRow 12 = .ok (.aload_n 0, 1) := by decide +kernel
theorem dX3_addRow_13 : decode cX3_addRow 13 = .ok (.dup, 1) := by decide +kernel
theorem dX3_addRow_14 : decode cX3_addRow 14 = .ok (.getfield 41, 3) := by decide +kernel
theorem dX3_addRow_17 : decode cX3_addRow 17 = .ok (.iconst 1, 1) := by decide +kernel
theorem dX3_addRow_18 : decode cX3_addRow 18 = .ok (.iadd, 1) := by decide +kernel
theorem dX3_addRow_19 : decode cX3_addRow 19 = .ok (.putfield 41, 3) := by decide +kernel
theorem dX3_addRow_22 : decode cX3_addRow 22 = .ok (.aload_n 0, 1) := by decide +kernel
theorem dX3_addRow_23 : decode cX3_addRow 23 = .ok (.getfield 41, 3) := by decide +kernel
theorem dX3_addRow_26 : decode cX3_addRow 26 = .ok (.iconst 1, 1) := by decide +kernel
theorem dX3_addRow_27 : decode cX3_addRow 27 = .ok (.isub, 1) := by decide +kernel
theorem dX3_addRow_28 : decode cX3_addRow 28 = .ok (.ireturn, 1) := by decide +kernel
set_option maxRecDepth 20000 in
theorem ggX3_copyFrom_X1_copyFrom : GoodIn wsX3_copyFrom wsX1_copyFrom := goodIn_r _ [12, 13, 14, 15, 16, 17, 18, 28, 29, 30, 31, 32, 33, 34, 35] (by decide +kernel) (by decide +kernel)
set_option maxRecDepth 20000 in
theorem gX3_copyFrom_X1_copyFrom : GoodIn wsX3_copyFrom (wsV RX3 47 RX1 yX1_copyFrom wsX1_copyFrom) := goodIn_app (goodIn_of _ (by decide +kernel)) ggX3_copyFrom_X1_copyFrom
theorem dX3_copyFrom_0 : decode cX3_copyFrom 0 = .ok (.aload_n 0, 1) := by decide +kernel
theorem dX3_copyFrom_1 : decode cX3_copyFrom 1 = .ok (.aload_n 1, 1) := by decide +kernel
theorem dX3_copyFrom_2 : decode cX3_copyFrom 2 = .ok (.getfield 37, 3) := by decide +kernel
theorem dX3_copyFrom_5 : decode cX3_copyFrom 5 = .ok (.putfield 37, 3) := by decide +kernel
theorem dX3_copyFrom_8 : decode cX3_copyFrom 8 = .ok (.iconst 0, 1) := by decide +kernel
theorem dX3_copyFrom_9 : decode cX3_copyFrom 9 = .ok (.istore_n 2, 1) := by decide +kernel
theorem dX3_copyFrom_10 : decode cX3_copyFrom 10 = .ok (.iload_n 2, 1) := by decide +kernel
theorem dX3_copyFrom_11 : decode cX3_copyFrom 11 = .ok (.aload_n 0, 1) := by decide +kernel
theorem dX3_copyFrom_12 : decode cX3_copyFrom 12 = .ok (.getfield 37, 3) := by decide +kernel
theorem dX3_copyFrom_15 : decode cX3_copyFrom 15 = .ok (.if_icmp .ge 57, 3) := by decide +kernel
theorem dX3_copyFrom_18 : decode cX3_copyFrom 18 = .ok (.aload_n 0, 1) := by decide +kernel
theorem dX3_copyFrom_19 : decode cX3_copyFrom 19 = .ok (.getfield 9, 3) := by decide +kernel
theorem dX3_copyFrom_22 : decode cX3_copyFrom 22 = .ok (.iload_n 2, 1) := by decide +kernel
theorem dX3_copyFrom_23 : decode cX3_copyFrom 23 = .ok (.aload_n 1, 1) := by decide +kernel
theorem dX3_copyFrom_24 : decode cX3_copyFrom 24 = .ok (.getfield 9, 3) := by decide +kernel
theorem dX3_copyFrom_27 : decode cX3_copyFrom 27 = .ok (.iload_n 2, 1) := by decide +kernel
theorem dX3_copyFrom_28 : decode cX3_copyFrom 28 = .ok (.iaload, 1) := by decide +kernel
theorem dX3_copyFrom_29 : decode cX3_copyFrom 29 = .ok (.iastore, 1) := by decide +kernel
theorem dX3_copyFrom_30 : decode cX3_copyFrom 30 = .ok (.aload_n 0, 1) := by decide +kernel
theorem dX3_copyFrom_31 : decode cX3_copyFrom 31 = .ok (.getfield 15, 3) := by decide +kernel
theorem dX3_copyFrom_34 : decode cX3_copyFrom 34 = .ok (.iload_n 2, 1) := by decide +kernel
theorem dX3_copyFrom_35 : decode cX3_copyFrom 35 = .ok (.aload_n 1, 1) := by decide +kernel
theorem dX3_copyFrom_36 : decode cX3_copyFrom 36 = .ok (.getfield 15, 3) := by decide +kernel
theorem dX3_copyFrom_39 : decode cX3_copyFrom 39 = .ok (.iload_n 2, 1) := by decide +kernel
theorem dX3_copyFrom_40 : decode cX3_copyFrom 40 = .ok (.iaload, 1) := by decide +kernel
theorem dX3_copyFrom_41 : decode cX3_copyFrom 41 = .ok (.iastore, 1) := by decide +kernel
theorem dX3_copyFrom_42 : decode cX3_copyFrom 42 = .ok (.aload_n 0, 1) := by decide +kernel
theorem dX3_copyFrom_43 : decode cX3_copyFrom 43 = .ok (.getfield 18, 3) := by decide +kernel
theorem dX3_copyFrom_46 : decode cX3_copyFrom 46 = .ok (.iload_n 2, 1) := by decide +kernel
theorem dX3_copyFrom_47 : decode cX3_copyFrom 47 = .ok (.aload_n 1, 1) := by decide +kernel
theorem dX3_copyFrom_48 : decode cX3_copyFrom 48 = .ok (.getfield 18, 3) := by decide +kernel
theorem dX3_copyFrom_51 : decode cX3_copyFrom 51 = .ok (.iload_n 2, 1) := by decide +kernel
theorem dX3_copyFrom_52 : decode cX3_copyFrom 52 = .ok (.iaload, 1) := by decide +kernel
theorem dX3_copyFrom_53 : decode cX3_copyFrom 53 = .ok (.iastore, 1) := by decide +kernel
theorem dX3_copyFrom_54 : decode cX3_copyFrom 54 = .ok (.aload_n 0, 1) := by decide +kernel
theorem dX3_copyFrom_55 : decode cX3_copyFrom 55 = .ok (.getfield 21, 3) := by decide +kernel
theorem dX3_copyFrom_58 : decode cX3_copyFrom 58 = .ok (.iload_n 2, 1) := by decide +kernel
theorem dX3_copyFrom_59 : decode cX3_copyFrom 59 = .ok (.aload_n 1, 1) := by decide +kernel
theorem dX3_copyFrom_60 : decode cX3_copyFrom 60 = .ok (.getfield 21, 3) := by decide +kernel
theorem dX3_copyFrom_63 : decode cX3_copyFrom 63 = .ok (.iload_n 2, 1) := by decide +kernel
theorem dX3_copyFrom_64 : decode cX3_copyFrom 64 = .ok (.iaload, 1) := by decide +kernel
theorem dX3_copyFrom_65 : decode cX3_copyFrom 65 = .ok (.iastore, 1) := by decide +kernel
theorem dX3_copyFrom_66 : decode cX3_copyFrom 66 = .ok (.iinc 2 1, 3) := by decide +kernel
theorem dX3_copyFrom_69 : decode cX3_copyFrom 69 = .ok (.goto (-59), 3) := by decide +kernel
theorem dX3_copyFrom_72 : decode cX3_copyFrom 72 = .ok (.aload_n 0, 1) := by decide +kernel
theorem dX3_copyFrom_73 : decode cX3_copyFrom 73 = .ok (.aload_n 1, 1) := by decide +kernel
theorem dX3_copyFrom_74 : decode cX3_copyFrom 74 = .ok (.getfield 41, 3) := by decide +kernel
theorem dX3_copyFrom_77 : decode cX3_copyFrom 77 = .ok (.putfield 41, 3) := by decide +kernel
theorem dX3_copyFrom_80 : decode cX3_copyFrom 80 = .ok (.iconst 0, 1) := by decide +kernel
theorem dX3_copyFrom_81 : decode cX3_copyFrom 81 = .ok (.istore_n 2, 1) := by decide +kernel
theorem dX3_copyFrom_82 : decode cX3_copyFrom 82 = .ok (.iload_n 2, 1) := by decide +kernel
theorem dX3_copyFrom_83 : decode cX3_copyFrom 83 = .ok (.aload_n 0, 1) := by decide +kernel
theorem dX3_copyFrom_84 : decode cX3_copyFrom 84 = .ok (.getfield 41, 3) := by decide +kernel
theorem dX3_copyFrom_87 : decode cX3_copyFrom 87 = .ok (.if_icmp .ge 24, 3) := by decide +kernel
theorem dX3_copyFrom_90 : decode cX3_copyFrom 90 = .ok (.aload_n 0, 1) := by decide +kernel
theorem dX3_copyFrom_91 : decode cX3_copyFrom 91 = .ok (.getfield 26, 3) := by decide +kernel
theorem dX3_copyFrom_94 : decode cX3_copyFrom 94 = .ok (.iload_n 2, 1) := by decide +kernel
theorem dX3_copyFrom_95 : decode cX3_copyFrom 95 = .ok (.aaload, 1) := by decide +kernel
theorem dX3_copyFrom_96 : decode cX3_copyFrom 96 = .ok (.aload_n 1, 1) := by decide +kernel
theorem dX3_copyFrom_97 : decode cX3_copyFrom 97 = .ok (.getfield 26, 3) := by decide +kernel
theorem dX3_copyFrom_100 : decode cX3_copyFrom 100 = .ok (.iload_n 2, 1) := by decide +kernel
theorem dX3_copyFrom_101 : decode cX3_copyFrom 101 = .ok (.aaload, 1) := by decide +kernel
theorem dX3_copyFrom_102 : decode cX3_copyFrom 102 = .ok (.invokevirtual 47, 3) := by decide +kernel
theorem dX3_copyFrom_105 : decode cX3_copyFrom 105 = .ok (.iinc 2 1, 3) := by decide +kernel
theorem dX3_copyFrom_108 : decode cX3_copyFrom 108 = .ok (.goto (-26), 3) := by decide +kernel
theorem dX3_copyFrom_111 : decode cX3_copyFrom 111 = .ok (.return_, 1) := by decide +kernel
theorem dX3_sumUpTo_0 : decode cX3_sumUpTo 0 = .ok (.aload_n 0, 1) := by decide +kernel
theorem dX3_sumUpTo_1 : decode cX3_sumUpTo 1 = .ok (.getfield 9, 3) := by decide +kernel
theorem dX3_sumUpTo_4 : decode cX3_sumUpTo 4 = .ok (.iload_n 2, 1) := by decide +kernel
theorem dX3_sumUpTo_5 : decode cX3_sumUpTo 5 = .ok (.iaload, 1) := by decide +kernel
theorem dX3_sumUpTo_6 : decode cX3_sumUpTo 6 = .ok (.iconst 1, 1) := by decide +kernel
theorem dX3_sumUpTo_7 : decode cX3_sumUpTo 7 = .ok (.if_icmp .ne 5, 3) := by decide +kernel
theorem dX3_sumUpTo_10 : decode cX3_sumUpTo 10 = .ok (.iconst (-1), 1) := by decide +kernel
theorem dX3_sumUpTo_11 : decode cX3_sumUpTo 11 = .ok (.ireturn, 1) := by decide +kernel
theorem dX3_sumUpTo_12 : decode cX3_sumUpTo 12 = .ok (.iload_n 1, 1) := by decide +kernel
theorem dX3_sumUpTo_13 : decode cX3_sumUpTo 13 = .ok (.ifCond .ge 7, 3) := by decide +kernel
theorem dX3_sumUpTo_16 : decode cX3_sumUpTo 16 = .ok (.iconst 0, 1) := by decide +kernel
theorem dX3_sumUpTo_17 : decode cX3_sumUpTo 17 = .ok (.goto 14, 3) := by decide +kernel
theorem dX3_sumUpTo_20 : decode cX3_sumUpTo 20 = .ok (.aload_n 0, 1) := by decide +kernel
theorem dX3_sumUpTo_21 : decode cX3_sumUpTo 21 = .ok (.getfield 26, 3) := by decide +kernel
theorem dX3_sumUpTo_24 : decode cX3_sumUpTo 24 = .ok (.iload_n 1, 1) := by decide +kernel
theorem dX3_sumUpTo_25 : decode cX3_sumUpTo 25 = .ok (.aaload, 1) := by decide +kernel
theorem dX3_sumUpTo_26 : decode cX3_sumUpTo 26 = .ok (.getfield 51, 3) := by decide +kernel
theorem dX3_sumUpTo_29 : decode cX3_sumUpTo 29 = .ok (.iload_n 2, 1) := by decide +kernel
theorem dX3_sumUpTo_30 : decode cX3_sumUpTo 30 = .ok (.iaload, 1) := by decide +kernel
theorem dX3_sumUpTo_31 : decode cX3_sumUpTo 31 = .ok (.ireturn, 1) := by decide +kernel
theorem dX3_linesOfNotes_0 : decode cX3_linesOfNotes 0 = .ok (.iconst 0, 1) := by decide +kernel
theorem dX3_linesOfNotes_1 : decode cX3_linesOfNotes 1 = .ok (.istore_n 1, 1) := by decide +kernel
theorem dX3_linesOfNotes_2 : decode cX3_linesOfNotes 2 = .ok (.iconst 0, 1) := by decide +kernel
theorem dX3_linesOfNotes_3 : decode cX3_linesOfNotes 3 = .ok (.istore_n 2, 1) := by decide +kernel
theorem dX3_linesOfNotes_4 : decode cX3_linesOfNotes 4 = .ok (.iload_n 2, 1) := by decide +kernel
theorem dX3_linesOfNotes_5 : decode cX3_linesOfNotes 5 = .ok (.aload_n 0, 1) := by decide +kernel
theorem dX3_linesOfNotes_6 : decode cX3_linesOfNotes 6 = .ok (.getfield 41, 3) := by decide +kernel
theorem dX3_linesOfNotes_9 : decode cX3_linesOfNotes 9 = .ok (.if_icmp .ge 21, 3) := by decide +kernel
theorem dX3_linesOfNotes_12 : decode cX3_linesOfNotes 12 = .ok (.iload_n 1, 1) := by decide +kernel
theorem dX3_linesOfNotes_13 : decode cX3_linesOfNotes 13 = .ok (.aload_n 0, 1) := by decide +kernel
theorem dX3_linesOfNotes_14 : decode cX3_linesOfNotes 14 = .ok (.getfield 26, 3) := by decide +kernel
theorem dX3_linesOfNotes_17 : decode cX3_linesOfNotes 17 = .ok (.iload_n 2, 1) := by decide +kernel
theorem dX3_linesOfNotes_18 : decode cX3_linesOfNotes 18 = .ok (.aaload, 1) := by decide +kernel
theorem dX3_linesOfNotes_19 : decode cX3_linesOfNotes 19 = .ok (.getfield 54, 3) := by decide +kernel
theorem dX3_linesOfNotes_22 : decode cX3_linesOfNotes 22 = .ok (.iadd, 1) := by decide +kernel
theorem dX3_linesOfNotes_23 : decode cX3_linesOfNotes 23 = .ok (.istore_n 1, 1) := by decide +kernel
theorem dX3_linesOfNotes_24 : decode cX3_linesOfNotes 24 = .ok (.iinc 2 1, 3) := by decide +kernel
theorem dX3_linesOfNotes_27 : decode cX3_linesOfNotes 27 = .ok (.goto (-23), 3) := by decide +kernel
theorem dX3_linesOfNotes_30 : decode cX3_linesOfNotes 30 = .ok (.iload_n 1, 1) := by decide +kernel
theorem dX3_linesOfNotes_31 : decode cX3_linesOfNotes 31 = .ok (.ireturn, 1) := by decide +kernel
theorem dX3_isSpanning_0 : decode cX3_isSpanning 0 = .ok (.iload_n 2, 1) := by decide +kernel
theorem dX3_isSpanning_1 : decode cX3_isSpanning 1 = .ok (.iconst 1, 1) := by decide +kernel
theorem dX3_isSpanning_2 : decode cX3_isSpanning 2 = .ok (.iadd, 1) := by decide +kernel
theorem dX3_isSpanning_3 : decode cX3_isSpanning 3 = .ok (.aload_n 0, 1) := by decide +kernel
theorem dX3_isSpanning_4 : decode cX3_isSpanning 4 = .ok (.getfield 37, 3) := by decide +kernel
theorem dX3_isSpanning_7 : decode cX3_isSpanning 7 = .ok (.if_icmp .ge 23, 3) := by decide +kernel
theorem dX3_isSpanning_10 : decode cX3_isSpanning 10 = .ok (.aload_n 0, 1) := by decide +kernel
theorem dX3_isSpanning_11 : decode cX3_isSpanning 11 = .ok (.getfield 26, 3) := by decide +kernel
theorem dX3_isSpanning_14 : decode cX3_isSpanning 14 = .ok (.iload_n 1, 1) := by decide +kernel
theorem dX3_isSpanning_15 : decode cX3_isSpanning 15 = .ok (.aaload, 1) := by decide +kernel
theorem dX3_isSpanning_16 : decode cX3_isSpanning 16 = .ok (.getfield 57, 3) := by decide +kernel
theorem dX3_isSpanning_19 : decode cX3_isSpanning 19 = .ok (.iload_n 2, 1) := by decide +kernel
theorem dX3_isSpanning_20 : decode cX3_isSpanning 20 = .ok (.iconst 1, 1) := by decide +kernel
theorem dX3_isSpanning_21 : decode cX3_isSpanning 21 = .ok (.iadd, 1) := by decide +kernel
theorem dX3_isSpanning_22 : decode cX3_isSpanning 22 = .ok (.baload, 1) := by decide +kernel
theorem dX3_isSpanning_23 : decode cX3_isSpanning 23 = .ok (.ifCond .eq 7, 3) := by decide +kernel
theorem dX3_isSpanning_26 : decode cX3_isSpanning 26 = .ok (.iconst 1, 1) := by decide +kernel
theorem dX3_isSpanning_27 : decode cX3_isSpanning 27 = .ok (.goto 4, 3) := by decide +kernel
theorem dX3_isSpanning_30 : decode cX3_isSpanning 30 = .ok (.iconst 0, 1) := by decide +kernel
theorem dX3_isSpanning_31 : decode cX3_isSpanning 31 = .ok (.ireturn, 1) := by decide +kernel
set_option maxRecDepth 20000 in
theorem ggX3_reckon_X3_reckonHidden : GoodIn wsX3_reckon wsX3_reckonHidden := goodIn_r _ [7, 2, 8, 9, 52, 53, 54, 55, 56, 57, 58, 59, 60, 61, 62, 63, 64, 65, 66, 67, 68] (by decide +kernel) (by decide +kernel)
set_option maxRecDepth 20000 in
theorem gX3_reckon_X3_reckonHidden : GoodIn wsX3_reckon (wsV RX3 61 RX3 yX3_reckonHidden wsX3_reckonHidden) := goodIn_app (goodIn_of _ (by decide +kernel)) ggX3_reckon_X3_reckonHidden
set_option maxRecDepth 20000 in
theorem ggX3_reckon_X3_reckonNumbers : GoodIn wsX3_reckon wsX3_reckonNumbers := goodIn_r _ [13, 8, 9, 2, 14, 15, 16, 17, 6, 18, 19, 20, 21, 22, 23, 24, 25, 26, 27, 52, 53, 54, 55, 56, 57, 58, 59, 60, 61, 62, 63, 64, 65, 66, 67, 68] (by decide +kernel) (by decide +kernel)
set_option maxRecDepth 20000 in
theorem gX3_reckon_X3_reckonNumbers : GoodIn wsX3_reckon (wsV RX3 65 RX3 yX3_reckonNumbers wsX3_reckonNumbers) := goodIn_app (goodIn_of _ (by decide +kernel)) ggX3_reckon_X3_reckonNumbers
set_option maxRecDepth 20000 in
theorem ggX3_reckon_X3_measureText : GoodIn wsX3_reckon wsX3_measureText := goodIn_r _ [31, 32, 8, 9, 33, 34, 23, 35, 36, 37, 38, 39, 40, 41, 42, 43, 6, 44, 1, 52, 53, 54, 55, 56, 57, 58, 59, 60, 61, 62, 63, 64, 65, 66, 67, 68] (by decide +kernel) (by decide +kernel)
set_option maxRecDepth 20000 in
theorem gX3_reckon_X3_measureText : GoodIn wsX3_reckon (wsV RX3 68 RX3 yX3_measureText wsX3_measureText) := goodIn_app (goodIn_of _ (by decide +kernel)) ggX3_reckon_X3_measureText
set_option maxRecDepth 20000 in
theorem ggX3_reckon_X3_measureNumbers : GoodIn wsX3_reckon wsX3_measureNumbers := goodIn_r _ [48, 32, 8, 9, 33, 34, 23, 35, 36, 37, 49, 50, 6, 51, 52, 53, 54, 55, 56, 57, 58, 59, 60, 61, 62, 63, 64, 65, 66, 67, 68] (by decide +kernel) (by decide +kernel)
set_option maxRecDepth 20000 in
theorem gX3_reckon_X3_measureNumbers : GoodIn wsX3_reckon (wsV RX3 71 RX3 yX3_measureNumbers wsX3_measureNumbers) := goodIn_app (goodIn_of _ (by decide +kernel)) ggX3_reckon_X3_measureNumbers
theorem dX3_reckon_0 : decode cX3_reckon 0 = .ok (.iconst 0, 1) := by decide +kernel
theorem dX3_reckon_1 : decode cX3_reckon 1 = .ok (.istore_n 1, 1) := by decide +kernel
theorem dX3_reckon_2 : decode cX3_reckon 2 = .ok (.iload_n 1, 1) := by decide +kernel
theorem dX3_reckon_3 : decode cX3_reckon 3 = .ok (.aload_n 0, 1) := by decide +kernel
theorem dX3_reckon_4 : decode cX3_reckon 4 = .ok (.getfield 37, 3) := by decide +kernel
theorem dX3_reckon_7 : decode cX3_reckon 7 = .ok (.if_icmp .ge 32, 3) := by decide +kernel
theorem dX3_reckon_10 : decode cX3_reckon 10 = .ok (.aload_n 0, 1) := by decide +kernel
theorem dX3_reckon_11 : decode cX3_reckon 11 = .ok (.getfield 9, 3) := by decide +kernel
theorem dX3_reckon_14 : decode cX3_reckon 14 = .ok (.iload_n 1, 1) := by decide +kernel
theorem dX3_reckon_15 : decode cX3_reckon 15 = .ok (.iaload, 1) := by decide +kernel
theorem dX3_reckon_16 : decode cX3_reckon 16 = .ok (.iconst 1, 1) := by decide +kernel
theorem dX3_reckon_17 : decode cX3_reckon 17 = .ok (.if_icmp .ne 11, 3) := by decide +kernel
theorem dX3_reckon_20 : decode cX3_reckon 20 = .ok (.aload_n 0, 1) := by decide +kernel
theorem dX3_reckon_21 : decode cX3_reckon 21 = .ok (.iload_n 1, 1) := by decide +kernel
theorem dX3_reckon_22 : decode cX3_reckon 22 = .ok (.invokevirtual 61, 3) := by decide +kernel
theorem dX3_reckon_25 : decode cX3_reckon 25 = .ok (.goto 8, 3) := by decide +kernel
theorem dX3_reckon_28 : decode cX3_reckon 28 = .ok (.aload_n 0, 1) := by decide +kernel
theorem dX3_reckon_29 : decode cX3_reckon 29 = .ok (.iload_n 1, 1) := by decide +kernel
theorem dX3_reckon_30 : decode cX3_reckon 30 = .ok (.invokevirtual 65, 3) := by decide +kernel
theorem dX3_reckon_33 : decode cX3_reckon 33 = .ok (.iinc 1 1, 3) := by decide +kernel
theorem dX3_reckon_36 : decode cX3_reckon 36 = .ok (.goto (-34), 3) := by decide +kernel
theorem dX3_reckon_39 : decode cX3_reckon 39 = .ok (.iconst 0, 1) := by decide +kernel
theorem dX3_reckon_40 : decode cX3_reckon 40 = .ok (.istore_n 1, 1) := by decide +kernel
theorem dX3_reckon_41 : decode cX3_reckon 41 = .ok (.iload_n 1, 1) := by decide +kernel
theorem dX3_reckon_42 : decode cX3_reckon 42 = .ok (.aload_n 0, 1) := by decide +kernel
theorem dX3_reckon_43 : decode cX3_reckon 43 = .ok (.getfield 37, 3) := by decide +kernel
theorem dX3_reckon_46 : decode cX3_reckon 46 = .ok (.if_icmp .ge 32, 3) := by decide +kernel
theorem dX3_reckon_49 : decode cX3_reckon 49 = .ok (.aload_n 0, 1) := by decide +kernel
theorem dX3_reckon_50 : decode cX3_reckon 50 = .ok (.getfield 9, 3) := by decide +kernel
theorem dX3_reckon_53 : decode cX3_reckon 53 = .ok (.iload_n 1, 1) := by decide +kernel
theorem dX3_reckon_54 : decode cX3_reckon 54 = .ok (.iaload, 1) := by decide +kernel
theorem dX3_reckon_55 : decode cX3_reckon 55 = .ok (.iconst 1, 1) := by decide +kernel
theorem dX3_reckon_56 : decode cX3_reckon 56 = .ok (.if_icmp .ne 11, 3) := by decide +kernel
theorem dX3_reckon_59 : decode cX3_reckon 59 = .ok (.aload_n 0, 1) := by decide +kernel
theorem dX3_reckon_60 : decode cX3_reckon 60 = .ok (.iload_n 1, 1) := by decide +kernel
theorem dX3_reckon_61 : decode cX3_reckon 61 = .ok (.invokevirtual 68, 3) := by decide +kernel
theorem dX3_reckon_64 : decode cX3_reckon 64 = .ok (.goto 8, 3) := by decide +kernel
theorem dX3_reckon_67 : decode cX3_reckon 67 = .ok (.aload_n 0, 1) := by decide +kernel
theorem dX3_reckon_68 : decode cX3_reckon 68 = .ok (.iload_n 1, 1) := by decide +kernel
theorem dX3_reckon_69 : decode cX3_reckon 69 = .ok (.invokevirtual 71, 3) := by decide +kernel
theorem dX3_reckon_72 : decode cX3_reckon 72 = .ok (.iinc 1 1, 3) := by decide +kernel
theorem dX3_reckon_75 : decode cX3_reckon 75 = .ok (.goto (-34), 3) := by decide +kernel
theorem dX3_reckon_78 : decode cX3_reckon 78 = .ok (.return_, 1) := by decide +kernel
theorem dX3_reckonHidden_0 : decode cX3_reckonHidden 0 = .ok (.iload_n 1, 1) := by decide +kernel
theorem dX3_reckonHidden_1 : decode cX3_reckonHidden 1 = .ok (.ifCond .le 19, 3) := by decide +kernel
theorem dX3_reckonHidden_4 : decode cX3_reckonHidden 4 = .ok (.aload_n 0, 1) := by decide +kernel
theorem dX3_reckonHidden_5 : decode cX3_reckonHidden 5 = .ok (.getfield 9, 3) := by decide +kernel
theorem dX3_reckonHidden_8 : decode cX3_reckonHidden 8 = .ok (.iload_n 1, 1) := by decide +kernel
theorem dX3_reckonHidden_9 : decode cX3_reckonHidden 9 = .ok (.iconst 1, 1) := by decide +kernel
theorem dX3_reckonHidden_10 : decode cX3_reckonHidden 10 = .ok (.isub, 1) := by decide +kernel
theorem dX3_reckonHidden_11 : decode cX3_reckonHidden 11 = .ok (.iaload, 1) := by decide +kernel
theorem dX3_reckonHidden_12 : decode cX3_reckonHidden 12 = .ok (.iconst 1, 1) := by decide +kernel
theorem dX3_reckonHidden_13 : decode cX3_reckonHidden 13 = .ok (.if_icmp .ne 7, 3) := by decide +kernel
theorem dX3_reckonHidden_16 : decode cX3_reckonHidden 16 = .ok (.iconst 1, 1) := by decide +kernel
theorem dX3_reckonHidden_17 : decode cX3_reckonHidden 17 = .ok (.goto 4, 3) := by decide +kernel
theorem dX3_reckonHidden_20 : decode cX3_reckonHidden 20 = .ok (.iconst 0, 1) := by decide +kernel
theorem dX3_reckonHidden_21 : decode cX3_reckonHidden 21 = .ok (.istore_n 2, 1) := by decide +kernel
theorem dX3_reckonHidden_22 : decode cX3_reckonHidden 22 = .ok (.iconst 0, 1) := by decide +kernel
theorem dX3_reckonHidden_23 : decode cX3_reckonHidden 23 = .ok (.istore_n 3, 1) := by decide +kernel
theorem dX3_reckonHidden_24 : decode cX3_reckonHidden 24 = .ok (.iload_n 3, 1) := by decide +kernel
theorem dX3_reckonHidden_25 : decode cX3_reckonHidden 25 = .ok (.aload_n 0, 1) := by decide +kernel
theorem dX3_reckonHidden_26 : decode cX3_reckonHidden 26 = .ok (.getfield 41, 3) := by decide +kernel
theorem dX3_reckonHidden_29 : decode cX3_reckonHidden 29 = .ok (.if_icmp .ge 57, 3) := by decide +kernel
theorem dX3_reckonHidden_32 : decode cX3_reckonHidden 32 = .ok (.aload_n 0, 1) := by decide +kernel
theorem dX3_reckonHidden_33 : decode cX3_reckonHidden 33 = .ok (.getfield 26, 3) := by decide +kernel
theorem dX3_reckonHidden_36 : decode cX3_reckonHidden 36 = .ok (.iload_n 3, 1) := by decide +kernel
theorem dX3_reckonHidden_37 : decode cX3_reckonHidden 37 = .ok (.aaload, 1) := by decide +kernel
theorem dX3_reckonHidden_38 : decode cX3_reckonHidden 38 = .ok (.astore 4, 2) := by decide +kernel
theorem dX3_reckonHidden_40 : decode cX3_reckonHidden 40 = .ok (.aload 4, 2) := by decide +kernel
theorem dX3_reckonHidden_42 : decode cX3_reckonHidden 42 = .ok (.getfield 57, 3) := by decide +kernel
theorem dX3_reckonHidden_45 : decode cX3_reckonHidden 45 = .ok (.iload_n 1, 1) := by decide +kernel
theorem dX3_reckonHidden_46 : decode cX3_reckonHidden 46 = .ok (.iload_n 2, 1) := by decide +kernel
theorem dX3_reckonHidden_47 : decode cX3_reckonHidden 47 = .ok (.ifCond .eq 31, 3) := by decide +kernel
theorem dX3_reckonHidden_50 : decode cX3_reckonHidden 50 = .ok (.aload 4, 2) := by decide +kernel
theorem dX3_reckonHidden_52 : decode cX3_reckonHidden 52 = .ok (.getfield 74, 3) := by decide +kernel
theorem dX3_reckonHidden_55 : decode cX3_reckonHidden 55 = .ok (.iload_n 1, 1) := by decide +kernel
theorem dX3_reckonHidden_56 : decode cX3_reckonHidden 56 = .ok (.iconst 1, 1) := by decide +kernel
theorem dX3_reckonHidden_57 : decode cX3_reckonHidden 57 = .ok (.isub, 1) := by decide +kernel
theorem dX3_reckonHidden_58 : decode cX3_reckonHidden 58 = .ok (.baload, 1) := by decide +kernel
theorem dX3_reckonHidden_59 : decode cX3_reckonHidden 59 = .ok (.ifCond .eq 19, 3) := by decide +kernel
theorem dX3_reckonHidden_62 : decode cX3_reckonHidden 62 = .ok (.aload 4, 2) := by decide +kernel
theorem dX3_reckonHidden_64 : decode cX3_reckonHidden 64 = .ok (.getfield 57, 3) := by decide +kernel
theorem dX3_reckonHidden_67 : decode cX3_reckonHidden 67 = .ok (.iload_n 1, 1) := by decide +kernel
theorem dX3_reckonHidden_68 : decode cX3_reckonHidden 68 = .ok (.iconst 1, 1) := by decide +kernel
theorem dX3_reckonHidden_69 : decode cX3_reckonHidden 69 = .ok (.isub, 1) := by decide +kernel
theorem dX3_reckonHidden_70 : decode cX3_reckonHidden 70 = .ok (.baload, 1) := by decide +kernel
theorem dX3_reckonHidden_71 : decode cX3_reckonHidden 71 = .ok (.ifCond .ne 7, 3) := by decide +kernel
theorem dX3_reckonHidden_74 : decode cX3_reckonHidden 74 = .ok (.iconst 1, 1) := by decide +kernel
theorem dX3_reckonHidden_75 : decode cX3_reckonHidden 75 = .ok (.goto 4, 3) := by decide +kernel
theorem dX3_reckonHidden_78 : decode cX3_reckonHidden 78 = .ok (.iconst 0, 1) := by decide +kernel
theorem dX3_reckonHidden_79 : decode cX3_reckonHidden 79 = .ok (.bastore, 1) := by decide +kernel
theorem dX3_reckonHidden_80 : decode cX3_reckonHidden 80 = .ok (.iinc 3 1, 3) := by decide +kernel
theorem dX3_reckonHidden_83 : decode cX3_reckonHidden 83 = .ok (.goto (-59), 3) := by decide +kernel
theorem dX3_reckonHidden_86 : decode cX3_reckonHidden 86 = .ok (.return_, 1) := by decide +kernel
set_option maxRecDepth 20000 in
theorem ggX3_reckonNumbers_X3_resultOf : GoodIn wsX3_reckonNumbers wsX3_resultOf := goodIn_r _ [9, 10, 11, 12, 13, 14, 15, 16, 17, 18] (by decide +kernel) (by decide +kernel)
set_option maxRecDepth 20000 in
theorem gX3_reckonNumbers_X3_resultOf : GoodIn wsX3_reckonNumbers (va_wsS RX3 80 yX3_resultOf wsX3_resultOf) := goodIn_app (goodIn_of _ (by decide +kernel)) ggX3_reckonNumbers_X3_resultOf
theorem dX3_reckonNumbers_0 : decode cX3_reckonNumbers 0 = .ok (.iconst 0, 1) := by decide +kernel
theorem dX3_reckonNumbers_1 : decode cX3_reckonNumbers 1 = .ok (.istore_n 2, 1) := by decide +kernel
theorem dX3_reckonNumbers_2 : decode cX3_reckonNumbers 2 = .ok (.iconst 0, 1) := by decide +kernel
theorem dX3_reckonNumbers_3 : decode cX3_reckonNumbers 3 = .ok (.istore_n 3, 1) := by decide +kernel
theorem dX3_reckonNumbers_4 : decode cX3_reckonNumbers 4 = .ok (.iload_n 3, 1) := by decide +kernel
theorem dX3_reckonNumbers_5 : decode cX3_reckonNumbers 5 = .ok (.aload_n 0, 1) := by decide +kernel
theorem dX3_reckonNumbers_6 : decode cX3_reckonNumbers 6 = .ok (.getfield 41, 3) := by decide +kernel
theorem dX3_reckonNumbers_9 : decode cX3_reckonNumbers 9 = .ok (.if_icmp .ge 94, 3) := by decide +kernel
theorem dX3_reckonNumbers_12 : decode cX3_reckonNumbers 12 = .ok (.aload_n 0, 1) := by decide +kernel
theorem dX3_reckonNumbers_13 : decode cX3_reckonNumbers 13 = .ok (.getfield 26, 3) := by decide +kernel
theorem dX3_reckonNumbers_16 : decode cX3_reckonNumbers 16 = .ok (.iload_n 3, 1) := by decide +kernel
theorem dX3_reckonNumbers_17 : decode cX3_reckonNumbers 17 = .ok (.aaload, 1) := by decide +kernel
theorem dX3_reckonNumbers_18 : decode cX3_reckonNumbers 18 = .ok (.astore 4, 2) := by decide +kernel
theorem dX3_reckonNumbers_20 : decode cX3_reckonNumbers 20 = .ok (.aload_n 0, 1) := by decide +kernel
theorem dX3_reckonNumbers_21 : decode cX3_reckonNumbers 21 = .ok (.getfield 9, 3) := by decide +kernel
theorem dX3_reckonNumbers_24 : decode cX3_reckonNumbers 24 = .ok (.iload_n 1, 1) := by decide +kernel
theorem dX3_reckonNumbers_25 : decode cX3_reckonNumbers 25 = .ok (.iaload, 1) := by decide +kernel
theorem dX3_reckonNumbers_26 : decode cX3_reckonNumbers 26 = .ok (.ifCond .eq 53, 3) := by decide +kernel
theorem dX3_reckonNumbers_29 : decode cX3_reckonNumbers 29 = .ok (.aload 4, 2) := by decide +kernel
theorem dX3_reckonNumbers_31 : decode cX3_reckonNumbers 31 = .ok (.getfield 77, 3) := by decide +kernel
theorem dX3_reckonNumbers_34 : decode cX3_reckonNumbers 34 = .ok (.aload_n 0, 1) := by decide +kernel
theorem dX3_reckonNumbers_35 : decode cX3_reckonNumbers 35 = .ok (.getfield 18, 3) := by decide +kernel
theorem dX3_reckonNumbers_38 : decode cX3_reckonNumbers 38 = .ok (.iload_n 1, 1) := by decide +kernel
theorem dX3_reckonNumbers_39 : decode cX3_reckonNumbers 39 = .ok (.iaload, 1) := by decide +kernel
theorem dX3_reckonNumbers_40 : decode cX3_reckonNumbers 40 = .ok (.iaload, 1) := by decide +kernel
theorem dX3_reckonNumbers_41 : decode cX3_reckonNumbers 41 = .ok (.i2l, 1) := by decide +kernel
theorem dX3_reckonNumbers_42 : decode cX3_reckonNumbers 42 = .ok (.lstore 5, 2) := by decide +kernel
theorem dX3_reckonNumbers_44 : decode cX3_reckonNumbers 44 = .ok (.aload 4, 2) := by decide +kernel
theorem dX3_reckonNumbers_46 : decode cX3_reckonNumbers 46 = .ok (.getfield 77, 3) := by decide +kernel
theorem dX3_reckonNumbers_49 : decode cX3_reckonNumbers 49 = .ok (.aload_n 0, 1) := by decide +kernel
theorem dX3_reckonNumbers_50 : decode cX3_reckonNumbers 50 = .ok (.getfield 21, 3) := by decide +kernel
theorem dX3_reckonNumbers_53 : decode cX3_reckonNumbers 53 = .ok (.iload_n 1, 1) := by decide +kernel
theorem dX3_reckonNumbers_54 : decode cX3_reckonNumbers 54 = .ok (.iaload, 1) := by decide +kernel
theorem dX3_reckonNumbers_55 : decode cX3_reckonNumbers 55 = .ok (.iaload, 1) := by decide +kernel
theorem dX3_reckonNumbers_56 : decode cX3_reckonNumbers 56 = .ok (.i2l, 1) := by decide +kernel
theorem dX3_reckonNumbers_57 : decode cX3_reckonNumbers 57 = .ok (.lstore 7, 2) := by decide +kernel
theorem dX3_reckonNumbers_59 : decode cX3_reckonNumbers 59 = .ok (.aload 4, 2) := by decide +kernel
theorem dX3_reckonNumbers_61 : decode cX3_reckonNumbers 61 = .ok (.getfield 77, 3) := by decide +kernel
theorem dX3_reckonNumbers_64 : decode cX3_reckonNumbers 64 = .ok (.iload_n 1, 1) := by decide +kernel
theorem dX3_reckonNumbers_65 : decode cX3_reckonNumbers 65 = .ok (.aload_n 0, 1) := by decide +kernel
theorem dX3_reckonNumbers_66 : decode cX3_reckonNumbers 66 = .ok (.getfield 9, 3) := by decide +kernel
theorem dX3_reckonNumbers_69 : decode cX3_reckonNumbers 69 = .ok (.iload_n 1, 1) := by decide +kernel
theorem dX3_reckonNumbers_70 : decode cX3_reckonNumbers 70 = .ok (.iaload, 1) := by decide +kernel
theorem dX3_reckonNumbers_71 : decode cX3_reckonNumbers 71 = .ok (.lload 5, 2) := by decide +kernel
theorem dX3_reckonNumbers_73 : decode cX3_reckonNumbers 73 = .ok (.lload 7, 2) := by decide +kernel
theorem dX3_reckonNumbers_75 : decode cX3_reckonNumbers 75 = .ok (.invokestatic 80, 3) := by decide +kernel
theorem dX3_reckonNumbers_78 : decode cX3_reckonNumbers 78 = .ok (.iastore, 1) := by decide +kernel
theorem dX3_reckonNumbers_79 : decode cX3_reckonNumbers 79 = .ok (.iload_n 2, 1) := by decide +kernel
theorem dX3_reckonNumbers_80 : decode cX3_reckonNumbers 80 = .ok (.aload 4, 2) := by decide +kernel
theorem dX3_reckonNumbers_82 : decode cX3_reckonNumbers 82 = .ok (.getfield 77, 3) := by decide +kernel
theorem dX3_reckonNumbers_85 : decode cX3_reckonNumbers 85 = .ok (.iload_n 1, 1) := by decide +kernel
theorem dX3_reckonNumbers_86 : decode cX3_reckonNumbers 86 = .ok (.iaload, 1) := by decide +kernel
theorem dX3_reckonNumbers_87 : decode cX3_reckonNumbers 87 = .ok (.iadd, 1) := by decide +kernel
theorem dX3_reckonNumbers_88 : decode cX3_reckonNumbers 88 = .ok (.istore_n 2, 1) := by decide +kernel
theorem dX3_reckonNumbers_89 : decode cX3_reckonNumbers 89 = .ok (.aload 4, 2) := by decide +kernel
theorem dX3_reckonNumbers_91 : decode cX3_reckonNumbers 91 = .ok (.getfield 51, 3) := by decide +kernel
theorem dX3_reckonNumbers_94 : decode cX3_reckonNumbers 94 = .ok (.iload_n 1, 1) := by decide +kernel
theorem dX3_reckonNumbers_95 : decode cX3_reckonNumbers 95 = .ok (.iload_n 2, 1) := by decide +kernel
theorem dX3_reckonNumbers_96 : decode cX3_reckonNumbers 96 = .ok (.iastore, 1) := by decide +kernel
theorem dX3_reckonNumbers_97 : decode cX3_reckonNumbers 97 = .ok (.iinc 3 1, 3) := by decide +kernel
theorem dX3_reckonNumbers_100 : decode cX3_reckonNumbers 100 = .ok (.goto (-96), 3) := by decide +kernel
theorem dX3_reckonNumbers_103 : decode cX3_reckonNumbers 103 = .ok (.return_, 1) := by decide +kernel
theorem dX3_resultOf_0 : decode cX3_resultOf 0 = .ok (.iload_n 0, 1) := by decide +kernel
theorem dX3_resultOf_1 : decode cX3_resultOf 1 = .ok (.iconst 2, 1) := by decide +kernel
theorem dX3_resultOf_2 : decode cX3_resultOf 2 = .ok (.if_icmp .ne 11, 3) := by decide +kernel
theorem dX3_resultOf_5 : decode cX3_resultOf 5 = .ok (.lload_n 1, 1) := by decide +kernel
theorem dX3_resultOf_6 : decode cX3_resultOf 6 = .ok (.lload_n 3, 1) := by decide +kernel
theorem dX3_resultOf_7 : decode cX3_resultOf 7 = .ok (.ladd, 1) := by decide +kernel
theorem dX3_resultOf_8 : decode cX3_resultOf 8 = .ok (.lstore 5, 2) := by decide +kernel
theorem dX3_resultOf_10 : decode cX3_resultOf 10 = .ok (.goto 21, 3) := by decide +kernel
theorem dX3_resultOf_13 : decode cX3_resultOf 13 = .ok (.iload_n 0, 1) := by decide +kernel
theorem dX3_resultOf_14 : decode cX3_resultOf 14 = .ok (.iconst 3, 1) := by decide +kernel
theorem dX3_resultOf_15 : decode cX3_resultOf 15 = .ok (.if_icmp .ne 11, 3) := by decide +kernel
theorem dX3_resultOf_18 : decode cX3_resultOf 18 = .ok (.lload_n 1, 1) := by decide +kernel
theorem dX3_resultOf_19 : decode cX3_resultOf 19 = .ok (.lload_n 3, 1) := by decide +kernel
theorem dX3_resultOf_20 : decode cX3_resultOf 20 = .ok (.lsub, 1) := by decide +kernel
theorem dX3_resultOf_21 : decode cX3_resultOf 21 = .ok (.lstore 5, 2) := by decide +kernel
theorem dX3_resultOf_23 : decode cX3_resultOf 23 = .ok (.goto 8, 3) := by decide +kernel
theorem dX3_resultOf_26 : decode cX3_resultOf 26 = .ok (.lload_n 1, 1) := by decide +kernel
theorem dX3_resultOf_27 : decode cX3_resultOf 27 = .ok (.lload_n 3, 1) := by decide +kernel
theorem dX3_resultOf_28 : decode cX3_resultOf 28 = .ok (.lmul, 1) := by decide +kernel
theorem dX3_resultOf_29 : decode cX3_resultOf 29 = .ok (.lstore 5, 2) := by decide +kernel
theorem dX3_resultOf_31 : decode cX3_resultOf 31 = .ok (.ldc2_w 84, 3) := by decide +kernel
theorem dX3_resultOf_34 : decode cX3_resultOf 34 = .ok (.ldc2_w 86, 3) := by decide +kernel
theorem dX3_resultOf_37 : decode cX3_resultOf 37 = .ok (.lload 5, 2) := by decide +kernel
theorem dX3_resultOf_39 : decode cX3_resultOf 39 = .ok (.invokestatic 88, 3) := by decide +kernel
theorem dX3_resultOf_42 : decode cX3_resultOf 42 = .ok (.invokestatic 94, 3) := by decide +kernel
theorem dX3_resultOf_45 : decode cX3_resultOf 45 = .ok (.l2i, 1) := by decide +kernel
theorem dX3_resultOf_46 : decode cX3_resultOf 46 = .ok (.ireturn, 1) := by decide +kernel
set_option maxRecDepth 20000 in
theorem ggX3_measureText_X3_isSpanning : GoodIn wsX3_measureText wsX3_isSpanning := goodIn_r _ [17, 18, 3, 19, 20, 21, 22, 23, 24, 25, 26, 27, 28, 29, 30, 31, 32, 33, 34, 35] (by decide +kernel) (by decide +kernel)
set_option maxRecDepth 20000 in
theorem gX3_measureText_X3_isSpanning : GoodIn wsX3_measureText (wsV RX3 97 RX3 yX3_isSpanning wsX3_isSpanning) := goodIn_app (goodIn_of _ (by decide +kernel)) ggX3_measureText_X3_isSpanning
theorem dX3_measureText_0 : decode cX3_measureText 0 = .ok (.aload_n 0, 1) := by decide +kernel
theorem dX3_measureText_1 : decode cX3_measureText 1 = .ok (.getfield 15, 3) := by decide +kernel
theorem dX3_measureText_4 : decode cX3_measureText 4 = .ok (.iload_n 1, 1) := by decide +kernel
theorem dX3_measureText_5 : decode cX3_measureText 5 = .ok (.iaload, 1) := by decide +kernel
theorem dX3_measureText_6 : decode cX3_measureText 6 = .ok (.istore_n 2, 1) := by decide +kernel
theorem dX3_measureText_7 : decode cX3_measureText 7 = .ok (.iconst 0, 1) := by decide +kernel
theorem dX3_measureText_8 : decode cX3_measureText 8 = .ok (.istore_n 3, 1) := by decide +kernel
theorem dX3_measureText_9 : decode cX3_measureText 9 = .ok (.iconst 0, 1) := by decide +kernel
theorem dX3_measureText_10 : decode cX3_measureText 10 = .ok (.istore 4, 2) := by decide +kernel
theorem dX3_measureText_12 : decode cX3_measureText 12 = .ok (.iload 4, 2) := by decide +kernel
theorem dX3_measureText_14 : decode cX3_measureText 14 = .ok (.aload_n 0, 1) := by decide +kernel
theorem dX3_measureText_15 : decode cX3_measureText 15 = .ok (.getfield 41, 3) := by decide +kernel
theorem dX3_measureText_18 : decode cX3_measureText 18 = .ok (.if_icmp .ge 68, 3) := by decide +kernel
theorem dX3_measureText_21 : decode cX3_measureText 21 = .ok (.aload_n 0, 1) := by decide +kernel
theorem dX3_measureText_22 : decode cX3_measureText 22 = .ok (.getfield 26, 3) := by decide +kernel
theorem dX3_measureText_25 : decode cX3_measureText 25 = .ok (.iload 4, 2) := by decide +kernel
theorem dX3_measureText_27 : decode cX3_measureText 27 = .ok (.aaload, 1) := by decide +kernel
theorem dX3_measureText_28 : decode cX3_measureText 28 = .ok (.getfield 57, 3) := by decide +kernel
theorem dX3_measureText_31 : decode cX3_measureText 31 = .ok (.iload_n 1, 1) := by decide +kernel
theorem dX3_measureText_32 : decode cX3_measureText 32 = .ok (.baload, 1) := by decide +kernel
theorem dX3_measureText_33 : decode cX3_measureText 33 = .ok (.ifCond .ne 47, 3) := by decide +kernel
theorem dX3_measureText_36 : decode cX3_measureText 36 = .ok (.aload_n 0, 1) := by decide +kernel
theorem dX3_measureText_37 : decode cX3_measureText 37 = .ok (.iload 4, 2) := by decide +kernel
theorem dX3_measureText_39 : decode cX3_measureText 39 = .ok (.iload_n 1, 1) := by decide +kernel
theorem dX3_measureText_40 : decode cX3_measureText 40 = .ok (.invokevirtual 97, 3) := by decide +kernel
theorem dX3_measureText_43 : decode cX3_measureText 43 = .ok (.ifCond .ne 37, 3) := by decide +kernel
theorem dX3_measureText_46 : decode cX3_measureText 46 = .ok (.iload_n 2, 1) := by decide +kernel
theorem dX3_measureText_47 : decode cX3_measureText 47 = .ok (.aload_n 0, 1) := by decide +kernel
theorem dX3_measureText_48 : decode cX3_measureText 48 = .ok (.getfield 26, 3) := by decide +kernel
theorem dX3_measureText_51 : decode cX3_measureText 51 = .ok (.iload 4, 2) := by decide +kernel
theorem dX3_measureText_53 : decode cX3_measureText 53 = .ok (.aaload, 1) := by decide +kernel
theorem dX3_measureText_54 : decode cX3_measureText 54 = .ok (.getfield 101, 3) := by decide +kernel
theorem dX3_measureText_57 : decode cX3_measureText 57 = .ok (.iload_n 1, 1) := by decide +kernel
theorem dX3_measureText_58 : decode cX3_measureText 58 = .ok (.iaload, 1) := by decide +kernel
theorem dX3_measureText_59 : decode cX3_measureText 59 = .ok (.invokestatic 104, 3) := by decide +kernel
theorem dX3_measureText_62 : decode cX3_measureText 62 = .ok (.istore_n 2, 1) := by decide +kernel
theorem dX3_measureText_63 : decode cX3_measureText 63 = .ok (.iload_n 3, 1) := by decide +kernel
theorem dX3_measureText_64 : decode cX3_measureText 64 = .ok (.aload_n 0, 1) := by decide +kernel
theorem dX3_measureText_65 : decode cX3_measureText 65 = .ok (.getfield 26, 3) := by decide +kernel
theorem dX3_measureText_68 : decode cX3_measureText 68 = .ok (.iload 4, 2) := by decide +kernel
theorem dX3_measureText_70 : decode cX3_measureText 70 = .ok (.aaload, 1) := by decide +kernel
theorem dX3_measureText_71 : decode cX3_measureText 71 = .ok (.getfield 107, 3) := by decide +kernel
theorem dX3_measureText_74 : decode cX3_measureText 74 = .ok (.iload_n 1, 1) := by decide +kernel
theorem dX3_measureText_75 : decode cX3_measureText 75 = .ok (.iaload, 1) := by decide +kernel
theorem dX3_measureText_76 : decode cX3_measureText 76 = .ok (.invokestatic 104, 3) := by decide +kernel
theorem dX3_measureText_79 : decode cX3_measureText 79 = .ok (.istore_n 3, 1) := by decide +kernel
theorem dX3_measureText_80 : decode cX3_measureText 80 = .ok (.iinc 4 1, 3) := by decide +kernel
theorem dX3_measureText_83 : decode cX3_measureText 83 = .ok (.goto (-71), 3) := by decide +kernel
theorem dX3_measureText_86 : decode cX3_measureText 86 = .ok (.aload_n 0, 1) := by decide +kernel
theorem dX3_measureText_87 : decode cX3_measureText 87 = .ok (.getfield 30, 3) := by decide +kernel
theorem dX3_measureText_90 : decode cX3_measureText 90 = .ok (.iload_n 1, 1) := by decide +kernel
theorem dX3_measureText_91 : decode cX3_measureText 91 = .ok (.iload_n 2, 1) := by decide +kernel
theorem dX3_measureText_92 : decode cX3_measureText 92 = .ok (.iastore, 1) := by decide +kernel
theorem dX3_measureText_93 : decode cX3_measureText 93 = .ok (.aload_n 0, 1) := by decide +kernel
theorem dX3_measureText_94 : decode cX3_measureText 94 = .ok (.getfield 33, 3) := by decide +kernel
theorem dX3_measureText_97 : decode cX3_measureText 97 = .ok (.iload_n 1, 1) := by decide +kernel
theorem dX3_measureText_98 : decode cX3_measureText 98 = .ok (.iload_n 2, 1) := by decide +kernel
theorem dX3_measureText_99 : decode cX3_measureText 99 = .ok (.bipush 30, 2) := by decide +kernel
theorem dX3_measureText_101 : decode cX3_measureText 101 = .ok (.iload_n 3, 1) := by decide +kernel
theorem dX3_measureText_102 : decode cX3_measureText 102 = .ok (.invokestatic 110, 3) := by decide +kernel
theorem dX3_measureText_105 : decode cX3_measureText 105 = .ok (.invokestatic 104, 3) := by decide +kernel
theorem dX3_measureText_108 : decode cX3_measureText 108 = .ok (.iastore, 1) := by decide +kernel
theorem dX3_measureText_109 : decode cX3_measureText 109 = .ok (.return_, 1) := by decide +kernel
set_option maxRecDepth 20000 in
theorem ggX3_measureNumbers_X3_sizeOf : GoodIn wsX3_measureNumbers wsX3_sizeOf := goodIn_r _ [13] (by decide +kernel) (by decide +kernel)
set_option maxRecDepth 20000 in
theorem gX3_measureNumbers_X3_sizeOf : GoodIn wsX3_measureNumbers (va_wsS RX3 112 yX3_sizeOf wsX3_sizeOf) := goodIn_app (goodIn_of _ (by decide +kernel)) ggX3_measureNumbers_X3_sizeOf
theorem dX3_measureNumbers_0 : decode cX3_measureNumbers 0 = .ok (.aload_n 0, 1) := by decide +kernel
theorem dX3_measureNumbers_1 : decode cX3_measureNumbers 1 = .ok (.getfield 15, 3) := by decide +kernel
theorem dX3_measureNumbers_4 : decode cX3_measureNumbers 4 = .ok (.iload_n 1, 1) := by decide +kernel
theorem dX3_measureNumbers_5 : decode cX3_measureNumbers 5 = .ok (.iaload, 1) := by decide +kernel
theorem dX3_measureNumbers_6 : decode cX3_measureNumbers 6 = .ok (.istore_n 2, 1) := by decide +kernel
theorem dX3_measureNumbers_7 : decode cX3_measureNumbers 7 = .ok (.iconst 0, 1) := by decide +kernel
theorem dX3_measureNumbers_8 : decode cX3_measureNumbers 8 = .ok (.istore_n 3, 1) := by decide +kernel
theorem dX3_measureNumbers_9 : decode cX3_measureNumbers 9 = .ok (.iload_n 3, 1) := by decide +kernel
theorem dX3_measureNumbers_10 : decode cX3_measureNumbers 10 = .ok (.aload_n 0, 1) := by decide +kernel
theorem dX3_measureNumbers_11 : decode cX3_measureNumbers 11 = .ok (.getfield 41, 3) := by decide +kernel
theorem dX3_measureNumbers_14 : decode cX3_measureNumbers 14 = .ok (.if_icmp .ge 47, 3) := by decide +kernel
theorem dX3_measureNumbers_17 : decode cX3_measureNumbers 17 = .ok (.iload_n 2, 1) := by decide +kernel
theorem dX3_measureNumbers_18 : decode cX3_measureNumbers 18 = .ok (.aload_n 0, 1) := by decide +kernel
theorem dX3_measureNumbers_19 : decode cX3_measureNumbers 19 = .ok (.getfield 26, 3) := by decide +kernel
theorem dX3_measureNumbers_22 : decode cX3_measureNumbers 22 = .ok (.iload_n 3, 1) := by decide +kernel
theorem dX3_measureNumbers_23 : decode cX3_measureNumbers 23 = .ok (.aaload, 1) := by decide +kernel
theorem dX3_measureNumbers_24 : decode cX3_measureNumbers 24 = .ok (.getfield 77, 3) := by decide +kernel
theorem dX3_measureNumbers_27 : decode cX3_measureNumbers 27 = .ok (.iload_n 1, 1) := by decide +kernel
theorem dX3_measureNumbers_28 : decode cX3_measureNumbers 28 = .ok (.iaload, 1) := by decide +kernel
theorem dX3_measureNumbers_29 : decode cX3_measureNumbers 29 = .ok (.invokestatic 112, 3) := by decide +kernel
theorem dX3_measureNumbers_32 : decode cX3_measureNumbers 32 = .ok (.invokestatic 104, 3) := by decide +kernel
theorem dX3_measureNumbers_35 : decode cX3_measureNumbers 35 = .ok (.istore_n 2, 1) := by decide +kernel
theorem dX3_measureNumbers_36 : decode cX3_measureNumbers 36 = .ok (.iload_n 2, 1) := by decide +kernel
theorem dX3_measureNumbers_37 : decode cX3_measureNumbers 37 = .ok (.aload_n 0, 1) := by decide +kernel
theorem dX3_measureNumbers_38 : decode cX3_measureNumbers 38 = .ok (.getfield 26, 3) := by decide +kernel
theorem dX3_measureNumbers_41 : decode cX3_measureNumbers 41 = .ok (.iload_n 3, 1) := by decide +kernel
theorem dX3_measureNumbers_42 : decode cX3_measureNumbers 42 = .ok (.aaload, 1) := by decide +kernel
theorem dX3_measureNumbers_43 : decode cX3_measureNumbers 43 = .ok (.getfield 51, 3) := by decide +kernel
theorem dX3_measureNumbers_46 : decode cX3_measureNumbers 46 = .ok (.iload_n 1, 1) := by decide +kernel
theorem dX3_measureNumbers_47 : decode cX3_measureNumbers 47 = .ok (.iaload, 1) := by decide +kernel
theorem dX3_measureNumbers_48 : decode cX3_measureNumbers 48 = .ok (.invokestatic 112, 3) := by decide +kernel
theorem dX3_measureNumbers_51 : decode cX3_measureNumbers 51 = .ok (.invokestatic 104, 3) := by decide +kernel
theorem dX3_measureNumbers_54 : decode cX3_measureNumbers 54 = .ok (.istore_n 2, 1) := by decide +kernel
theorem dX3_measureNumbers_55 : decode cX3_measureNumbers 55 = .ok (.iinc 3 1, 3) := by decide +kernel
theorem dX3_measureNumbers_58 : decode cX3_measureNumbers 58 = .ok (.goto (-49), 3) := by decide +kernel
theorem dX3_measureNumbers_61 : decode cX3_measureNumbers 61 = .ok (.aload_n 0, 1) := by decide +kernel
theorem dX3_measureNumbers_62 : decode cX3_measureNumbers 62 = .ok (.getfield 30, 3) := by decide +kernel
theorem dX3_measureNumbers_65 : decode cX3_measureNumbers 65 = .ok (.iload_n 1, 1) := by decide +kernel
theorem dX3_measureNumbers_66 : decode cX3_measureNumbers 66 = .ok (.iload_n 2, 1) := by decide +kernel
theorem dX3_measureNumbers_67 : decode cX3_measureNumbers 67 = .ok (.iastore, 1) := by decide +kernel
theorem dX3_measureNumbers_68 : decode cX3_measureNumbers 68 = .ok (.aload_n 0, 1) := by decide +kernel
theorem dX3_measureNumbers_69 : decode cX3_measureNumbers 69 = .ok (.getfield 33, 3) := by decide +kernel
theorem dX3_measureNumbers_72 : decode cX3_measureNumbers 72 = .ok (.iload_n 1, 1) := by decide +kernel
theorem dX3_measureNumbers_73 : decode cX3_measureNumbers 73 = .ok (.iload_n 2, 1) := by decide +kernel
theorem dX3_measureNumbers_74 : decode cX3_measureNumbers 74 = .ok (.iastore, 1) := by decide +kernel
theorem dX3_measureNumbers_75 : decode cX3_measureNumbers 75 = .ok (.return_, 1) := by decide +kernel
theorem dX3_sizeOf_0 : decode cX3_sizeOf 0 = .ok (.iload_n 0, 1) := by decide +kernel
theorem dX3_sizeOf_1 : decode cX3_sizeOf 1 = .ok (.ifCond .ge 7, 3) := by decide +kernel
theorem dX3_sizeOf_4 : decode cX3_sizeOf 4 = .ok (.iconst 2, 1) := by decide +kernel
theorem dX3_sizeOf_5 : decode cX3_sizeOf 5 = .ok (.goto 4, 3) := by decide +kernel
theorem dX3_sizeOf_8 : decode cX3_sizeOf 8 = .ok (.iconst 1, 1) := by decide +kernel
theorem dX3_sizeOf_9 : decode cX3_sizeOf 9 = .ok (.istore_n 1, 1) := by decide +kernel
theorem dX3_sizeOf_10 : decode cX3_sizeOf 10 = .ok (.iload_n 0, 1) := by decide +kernel
theorem dX3_sizeOf_11 : decode cX3_sizeOf 11 = .ok (.bipush 10, 2) := by decide +kernel
theorem dX3_sizeOf_13 : decode cX3_sizeOf 13 = .ok (.idiv, 1) := by decide +kernel
theorem dX3_sizeOf_14 : decode cX3_sizeOf 14 = .ok (.istore_n 2, 1) := by decide +kernel
theorem dX3_sizeOf_15 : decode cX3_sizeOf 15 = .ok (.iload_n 2, 1) := by decide +kernel
theorem dX3_sizeOf_16 : decode cX3_sizeOf 16 = .ok (.ifCond .eq 14, 3) := by decide +kernel
theorem dX3_sizeOf_19 : decode cX3_sizeOf 19 = .ok (.iinc 1 1, 3) := by decide +kernel
theorem dX3_sizeOf_22 : decode cX3_sizeOf 22 = .ok (.iload_n 2, 1) := by decide +kernel
theorem dX3_sizeOf_23 : decode cX3_sizeOf 23 = .ok (.bipush 10, 2) := by decide +kernel
theorem dX3_sizeOf_25 : decode cX3_sizeOf 25 = .ok (.idiv, 1) := by decide +kernel
theorem dX3_sizeOf_26 : decode cX3_sizeOf 26 = .ok (.istore_n 2, 1) := by decide +kernel
theorem dX3_sizeOf_27 : decode cX3_sizeOf 27 = .ok (.goto (-12), 3) := by decide +kernel
theorem dX3_sizeOf_30 : decode cX3_sizeOf 30 = .ok (.iload_n 1, 1) := by decide +kernel
theorem dX3_sizeOf_31 : decode cX3_sizeOf 31 = .ok (.ireturn, 1) := by decide +kernel
set_option maxRecDepth 20000 in
theorem ggX4_init_X3_init : GoodIn wsX4_init wsX3_init := goodIn_r _ [23, 24, 2, 3, 25, 26, 27, 28, 29, 30, 31, 32, 33, 34, 35, 36, 37, 38, 39, 40, 41, 42, 43, 44, 45, 64, 65, 66, 67, 68, 69, 70, 71, 72, 98, 99, 100, 101, 102, 103, 104, 105] (by decide +kernel) (by decide +kernel)
set_option maxRecDepth 20000 in
theorem gX4_init_X3_init : GoodIn wsX4_init (wsX3_init) := ggX4_init_X3_init
set_option maxRecDepth 20000 in
theorem ggX4_init_X2_init : GoodIn wsX4_init wsX2_init := goodIn_r _ [47, 48, 2, 3, 49, 18, 19, 50, 51, 52, 53, 54, 25, 55, 56, 57, 58, 59, 60, 61, 62, 63, 84, 85, 86, 87, 88, 89, 90, 91, 92, 93, 94, 95, 96, 97, 81, 82, 83] (by decide +kernel) (by decide +kernel)
set_option maxRecDepth 20000 in
theorem gX4_init_X2_init_n18 : GoodIn wsX4_init (wsX2_init) := ggX4_init_X2_init
set_option maxRecDepth 20000 in
theorem ggX4_init_X0_init : GoodIn wsX4_init wsX0_init := goodIn_r _ [53, 54, 2, 3, 25, 55, 56, 57, 58, 59, 60, 61, 62, 63, 84, 85, 86, 87, 88, 89, 90, 91, 92, 93, 94, 95, 96, 97] (by decide +kernel) (by decide +kernel)
set_option maxRecDepth 20000 in
theorem gX4_init_X0_init_n42 : GoodIn wsX4_init (wsX0_init) := ggX4_init_X0_init
theorem dX4_init_0 : decode cX4_init 0 = .ok (.aload_n 0, 1) := by decide +kernel
theorem dX4_init_1 : decode cX4_init 1 = .ok (.invokespecial 3, 3) := by decide +kernel
theorem dX4_init_4 : decode cX4_init 4 = .ok (.aload_n 0, 1) := by decide +kernel
theorem dX4_init_5 : decode cX4_init 5 = .ok (.new 9, 3) := by decide +kernel
theorem dX4_init_8 : decode cX4_init 8 = .ok (.dup, 1) := by decide +kernel
theorem dX4_init_9 : decode cX4_init 9 = .ok (.invokespecial 11, 3) := by decide +kernel
theorem dX4_init_12 : decode cX4_init 12 = .ok (.putfield 12, 3) := by decide +kernel
theorem dX4_init_15 : decode cX4_init 15 = .ok (.aload_n 0, 1) := by decide +kernel
theorem dX4_init_16 : decode cX4_init 16 = .ok (.new 16, 3) := by decide +kernel
theorem dX4_init_19 : decode cX4_init 19 = .ok (.dup, 1) := by decide +kernel
theorem dX4_init_20 : decode cX4_init 20 = .ok (.invokespecial 18, 3) := by decide +kernel
theorem dX4_init_23 : decode cX4_init 23 = .ok (.putfield 19, 3) := by decide +kernel
theorem dX4_init_26 : decode cX4_init 26 = .ok (.aload_n 0, 1) := by decide +kernel
theorem dX4_init_27 : decode cX4_init 27 = .ok (.bipush 40, 2) := by decide +kernel
theorem dX4_init_29 : decode cX4_init 29 = .ok (.putfield 23, 3) := by decide +kernel
theorem dX4_init_32 : decode cX4_init 32 = .ok (.aload_n 0, 1) := by decide +kernel
theorem dX4_init_33 : decode cX4_init 33 = .ok (.bipush 30, 2) := by decide +kernel
theorem dX4_init_35 : decode cX4_init 35 = .ok (.putfield 27, 3) := by decide +kernel
theorem dX4_init_38 : decode cX4_init 38 = .ok (.aload_n 0, 1) := by decide +kernel
theorem dX4_init_39 : decode cX4_init 39 = .ok (.iconst 1, 1) := by decide +kernel
theorem dX4_init_40 : decode cX4_init 40 = .ok (.putfield 30, 3) := by decide +kernel
theorem dX4_init_43 : decode cX4_init 43 = .ok (.aload_n 0, 1) := by decide +kernel
theorem dX4_init_44 : decode cX4_init 44 = .ok (.new 9, 3) := by decide +kernel
theorem dX4_init_47 : decode cX4_init 47 = .ok (.dup, 1) := by decide +kernel
theorem dX4_init_48 : decode cX4_init 48 = .ok (.invokespecial 11, 3) := by decide +kernel
theorem dX4_init_51 : decode cX4_init 51 = .ok (.putfield 34, 3) := by decide +kernel
theorem dX4_init_54 : decode cX4_init 54 = .ok (.aload_n 0, 1) := by decide +kernel
theorem dX4_init_55 : decode cX4_init 55 = .ok (.new 16, 3) := by decide +kernel
theorem dX4_init_58 : decode cX4_init 58 = .ok (.dup, 1) := by decide +kernel
theorem dX4_init_59 : decode cX4_init 59 = .ok (.invokespecial 18, 3) := by decide +kernel
theorem dX4_init_62 : decode cX4_init 62 = .ok (.putfield 37, 3) := by decide +kernel
theorem dX4_init_65 : decode cX4_init 65 = .ok (.aload_n 0, 1) := by decide +kernel
theorem dX4_init_66 : decode cX4_init 66 = .ok (.new 40, 3) := by decide +kernel
theorem dX4_init_69 : decode cX4_init 69 = .ok (.dup, 1) := by decide +kernel
theorem dX4_init_70 : decode cX4_init 70 = .ok (.invokespecial 42, 3) := by decide +kernel
theorem dX4_init_73 : decode cX4_init 73 = .ok (.putfield 43, 3) := by decide +kernel
theorem dX4_init_76 : decode cX4_init 76 = .ok (.return_, 1) := by decide +kernel
set_option maxRecDepth 20000 in
theorem ggX4_column_X4_requireRange : GoodIn wsX4_column wsX4_requireRange := goodIn_ca (goodIn_r _ [6, 7, 8] (by decide +kernel) (by decide +kernel)) (goodIn_sub (fun _ h => List.mem_cons_of_mem _ (List.mem_append_left _ (List.mem_append_right _ h))) (by decide +kernel))
set_option maxRecDepth 20000 in
theorem gX4_column_X4_requireRange : GoodIn wsX4_column (va_wsS RX4 47 yX4_requireRange wsX4_requireRange) := goodIn_app (goodIn_of _ (by decide +kernel)) ggX4_column_X4_requireRange
set_option maxRecDepth 20000 in
theorem ggX4_column_X4_requireSpareColumn : GoodIn wsX4_column wsX4_requireSpareColumn := goodIn_ca (goodIn_r _ [12, 13, 14, 2, 23, 24, 25, 26, 27, 28, 29, 30, 31, 32, 33, 34, 35, 36, 37, 38, 39] (by decide +kernel) (by decide +kernel)) (goodIn_sub (fun _ h => List.mem_cons_of_mem _ (List.mem_append_right _ h)) (by decide +kernel))
set_option maxRecDepth 20000 in
theorem gX4_column_X4_requireSpareColumn : GoodIn wsX4_column (wsV RX4 51 RX4 yX4_requireSpareColumn wsX4_requireSpareColumn) := goodIn_app (goodIn_of _ (by decide +kernel)) ggX4_column_X4_requireSpareColumn
set_option maxRecDepth 20000 in
theorem ggX4_column_X3_addColumn : GoodIn wsX4_column wsX3_addColumn := goodIn_r _ [19, 20, 21, 22, 31, 32, 33, 34, 35, 36, 37, 38, 39] (by decide +kernel) (by decide +kernel)
set_option maxRecDepth 20000 in
theorem gX4_column_X3_addColumn : GoodIn wsX4_column (wsV RX4 54 RX3 yX3_addColumn wsX3_addColumn) := goodIn_app (goodIn_of _ (by decide +kernel)) ggX4_column_X3_addColumn
theorem dX4_column_0 : decode cX4_column 0 = .ok (.iload_n 2, 1) := by decide +kernel
theorem dX4_column_1 : decode cX4_column 1 = .ok (.iconst 1, 1) := by decide +kernel
theorem dX4_column_2 : decode cX4_column 2 = .ok (.bipush 12, 2) := by decide +kernel
theorem dX4_column_4 : decode cX4_column 4 = .ok (.invokestatic 47, 3) := by decide +kernel
theorem dX4_column_7 : decode cX4_column 7 = .ok (.aload_n 0, 1) := by decide +kernel
theorem dX4_column_8 : decode cX4_column 8 = .ok (.invokevirtual 51, 3) := by decide +kernel
theorem dX4_column_11 : decode cX4_column 11 = .ok (.aload_n 0, 1) := by decide +kernel
theorem dX4_column_12 : decode cX4_column 12 = .ok (.iconst 1, 1) := by decide +kernel
theorem dX4_column_13 : decode cX4_column 13 = .ok (.putfield 30, 3) := by decide +kernel
theorem dX4_column_16 : decode cX4_column 16 = .ok (.aload_n 0, 1) := by decide +kernel
theorem dX4_column_17 : decode cX4_column 17 = .ok (.getfield 12, 3) := by decide +kernel
theorem dX4_column_20 : decode cX4_column 20 = .ok (.iload_n 1, 1) := by decide +kernel
theorem dX4_column_21 : decode cX4_column 21 = .ok (.ifCond .eq 7, 3) := by decide +kernel
theorem dX4_column_24 : decode cX4_column 24 = .ok (.iconst 1, 1) := by decide +kernel
theorem dX4_column_25 : decode cX4_column 25 = .ok (.goto 4, 3) := by decide +kernel
theorem dX4_column_28 : decode cX4_column 28 = .ok (.iconst 0, 1) := by decide +kernel
theorem dX4_column_29 : decode cX4_column 29 = .ok (.iload_n 2, 1) := by decide +kernel
theorem dX4_column_30 : decode cX4_column 30 = .ok (.invokevirtual 54, 3) := by decide +kernel
theorem dX4_column_33 : decode cX4_column 33 = .ok (.ireturn, 1) := by decide +kernel
set_option maxRecDepth 20000 in
theorem ggX4_row_X3_addRow : GoodIn wsX4_row wsX3_addRow := goodIn_r _ [9, 10, 11, 12, 13, 14, 15, 16, 17, 18, 19, 20, 21, 22, 31, 32, 33, 34, 35, 36, 37, 38, 39, 40, 41, 42, 43, 44, 45, 46, 47] (by decide +kernel) (by decide +kernel)
set_option maxRecDepth 20000 in
theorem gX4_row_X3_addRow : GoodIn wsX4_row (wsV RX4 82 RX3 yX3_addRow wsX3_addRow) := goodIn_app (goodIn_of _ (by decide +kernel)) ggX4_row_X3_addRow
theorem dX4_row_0 : decode cX4_row 0 = .ok (.aload_n 0, 1) := by decide +kernel
theorem dX4_row_1 : decode cX4_row 1 = .ok (.getfield 12, 3) := by decide +kernel
theorem dX4_row_4 : decode cX4_row 4 = .ok (.getfield 72, 3) := by decide +kernel
theorem dX4_row_7 : decode cX4_row 7 = .ok (.bipush 30, 2) := by decide +kernel
theorem dX4_row_9 : decode cX4_row 9 = .ok (.if_icmp .lt 13, 3) := by decide +kernel
theorem dX4_row_12 : decode cX4_row 12 = .ok (.new 75, 3) := by decide +kernel
theorem dX4_row_15 : decode cX4_row 15 = .ok (.dup, 1) := by decide +kernel
theorem dX4_row_16 : decode cX4_row 16 = .ok (.ldc 77, 2) := by decide +kernel
theorem dX4_row_18 : decode cX4_row 18 = .ok (.invokespecial 79, 3) := by decide +kernel
theorem dX4_row_21 : decode cX4_row 21 = .ok (.athrow, 1) := by decide +kernel
theorem dX4_row_22 : decode cX4_row 22 = .ok (.aload_n 0, 1) := by decide +kernel
theorem dX4_row_23 : decode cX4_row 23 = .ok (.iconst 1, 1) := by decide +kernel
theorem dX4_row_24 : decode cX4_row 24 = .ok (.putfield 30, 3) := by decide +kernel
theorem dX4_row_27 : decode cX4_row 27 = .ok (.aload_n 0, 1) := by decide +kernel
theorem dX4_row_28 : decode cX4_row 28 = .ok (.getfield 12, 3) := by decide +kernel
theorem dX4_row_31 : decode cX4_row 31 = .ok (.invokevirtual 82, 3) := by decide +kernel
theorem dX4_row_34 : decode cX4_row 34 = .ok (.ireturn, 1) := by decide +kernel
set_option maxRecDepth 20000 in
theorem ggX4_number_X4_requireNumberCell : GoodIn wsX4_number wsX4_requireNumberCell := goodIn_ca (goodIn_ca (goodIn_r _ [7, 8, 9, 10, 6, 11, 12, 13, 2, 14, 15, 16, 17, 18, 19, 20, 21, 22, 23, 24, 25, 26, 27, 28, 29, 30, 31, 32, 33, 34, 35, 36, 37, 38, 39, 40, 41, 42, 43] (by decide +kernel) (by decide +kernel)) (goodIn_sub (fun _ h => List.mem_cons_of_mem _ (List.mem_append_left _ (List.mem_append_right _ h))) (by decide +kernel))) (goodIn_sub (fun _ h => List.mem_cons_of_mem _ (List.mem_append_right _ h)) (by decide +kernel))
set_option maxRecDepth 20000 in
theorem gX4_number_X4_requireNumberCell : GoodIn wsX4_number (wsV RX4 92 RX4 yX4_requireNumberCell wsX4_requireNumberCell) := goodIn_app (goodIn_of _ (by decide +kernel)) ggX4_number_X4_requireNumberCell
theorem dX4_number_0 : decode cX4_number 0 = .ok (.aload_n 0, 1) := by decide +kernel
theorem dX4_number_1 : decode cX4_number 1 = .ok (.iload_n 1, 1) := by decide +kernel
theorem dX4_number_2 : decode cX4_number 2 = .ok (.iload_n 2, 1) := by decide +kernel
theorem dX4_number_3 : decode cX4_number 3 = .ok (.iload_n 3, 1) := by decide +kernel
theorem dX4_number_4 : decode cX4_number 4 = .ok (.invokevirtual 92, 3) := by decide +kernel
theorem dX4_number_7 : decode cX4_number 7 = .ok (.aload_n 0, 1) := by decide +kernel
theorem dX4_number_8 : decode cX4_number 8 = .ok (.iconst 1, 1) := by decide +kernel
theorem dX4_number_9 : decode cX4_number 9 = .ok (.putfield 30, 3) := by decide +kernel
theorem dX4_number_12 : decode cX4_number 12 = .ok (.aload_n 0, 1) := by decide +kernel
theorem dX4_number_13 : decode cX4_number 13 = .ok (.getfield 12, 3) := by decide +kernel
theorem dX4_number_16 : decode cX4_number 16 = .ok (.getfield 95, 3) := by decide +kernel
theorem dX4_number_19 : decode cX4_number 19 = .ok (.iload_n 1, 1) := by decide +kernel
theorem dX4_number_20 : decode cX4_number 20 = .ok (.aaload, 1) := by decide +kernel
theorem dX4_number_21 : decode cX4_number 21 = .ok (.getfield 99, 3) := by decide +kernel
theorem dX4_number_24 : decode cX4_number 24 = .ok (.iload_n 2, 1) := by decide +kernel
theorem dX4_number_25 : decode cX4_number 25 = .ok (.iaload, 1) := by decide +kernel
theorem dX4_number_26 : decode cX4_number 26 = .ok (.istore 4, 2) := by decide +kernel
theorem dX4_number_28 : decode cX4_number 28 = .ok (.aload_n 0, 1) := by decide +kernel
theorem dX4_number_29 : decode cX4_number 29 = .ok (.getfield 12, 3) := by decide +kernel
theorem dX4_number_32 : decode cX4_number 32 = .ok (.getfield 95, 3) := by decide +kernel
theorem dX4_number_35 : decode cX4_number 35 = .ok (.iload_n 1, 1) := by decide +kernel
theorem dX4_number_36 : decode cX4_number 36 = .ok (.aaload, 1) := by decide +kernel
theorem dX4_number_37 : decode cX4_number 37 = .ok (.getfield 99, 3) := by decide +kernel
theorem dX4_number_40 : decode cX4_number 40 = .ok (.iload_n 2, 1) := by decide +kernel
theorem dX4_number_41 : decode cX4_number 41 = .ok (.iload_n 3, 1) := by decide +kernel
theorem dX4_number_42 : decode cX4_number 42 = .ok (.iastore, 1) := by decide +kernel
theorem dX4_number_43 : decode cX4_number 43 = .ok (.iload 4, 2) := by decide +kernel
theorem dX4_number_45 : decode cX4_number 45 = .ok (.ireturn, 1) := by decide +kernel
set_option maxRecDepth 20000 in
theorem ggX4_text_X4_requireRow : GoodIn wsX4_text wsX4_requireRow := goodIn_ca (goodIn_r _ [11, 12, 13, 6, 27, 28, 29, 30, 31, 32, 33, 34, 35, 36, 37, 38, 39, 40, 41, 42, 43] (by decide +kernel) (by decide +kernel)) (goodIn_sub (fun _ h => List.mem_cons_of_mem _ (List.mem_append_left _ (List.mem_append_right _ h))) (by decide +kernel))
set_option maxRecDepth 20000 in
theorem gX4_text_X4_requireRow : GoodIn wsX4_text (wsV RX4 86 RX4 yX4_requireRow wsX4_requireRow) := goodIn_app (goodIn_of _ (by decide +kernel)) ggX4_text_X4_requireRow
set_option maxRecDepth 20000 in
theorem ggX4_text_X4_requireColumn : GoodIn wsX4_text wsX4_requireColumn := goodIn_ca (goodIn_r _ [17, 12, 13, 6, 27, 28, 29, 30, 31, 32, 33, 34, 35, 36, 37, 38, 39, 40, 41, 42, 43] (by decide +kernel) (by decide +kernel)) (goodIn_sub (fun _ h => List.mem_cons_of_mem _ (List.mem_append_left _ (List.mem_append_right _ h))) (by decide +kernel))
set_option maxRecDepth 20000 in
theorem gX4_text_X4_requireColumn : GoodIn wsX4_text (wsV RX4 58 RX4 yX4_requireColumn wsX4_requireColumn) := goodIn_app (goodIn_of _ (by decide +kernel)) ggX4_text_X4_requireColumn
set_option maxRecDepth 20000 in
theorem ggX4_text_X4_requireKind : GoodIn wsX4_text wsX4_requireKind := goodIn_ca (goodIn_r _ [21, 22, 23, 6, 27, 28, 29, 30, 31, 32, 33, 34, 35, 36, 37, 38, 39, 40, 41, 42, 43] (by decide +kernel) (by decide +kernel)) (goodIn_sub (fun _ h => List.mem_cons_of_mem _ (List.mem_append_right _ h)) (by decide +kernel))
set_option maxRecDepth 20000 in
theorem gX4_text_X4_requireKind : GoodIn wsX4_text (wsV RX4 104 RX4 yX4_requireKind wsX4_requireKind) := goodIn_app (goodIn_of _ (by decide +kernel)) ggX4_text_X4_requireKind
set_option maxRecDepth 20000 in
theorem ggX4_text_X4_requireRange : GoodIn wsX4_text wsX4_requireRange := goodIn_ca (goodIn_r _ [26, 22, 23] (by decide +kernel) (by decide +kernel)) (goodIn_sub (fun _ h => List.mem_cons_of_mem _ (List.mem_append_right _ h)) (by decide +kernel))
set_option maxRecDepth 20000 in
theorem gX4_text_X4_requireRange : GoodIn wsX4_text (va_wsS RX4 47 yX4_requireRange wsX4_requireRange) := goodIn_app (goodIn_of _ (by decide +kernel)) ggX4_text_X4_requireRange
theorem dX4_text_0 : decode cX4_text 0 = .ok (.aload_n 0, 1) := by decide +kernel
theorem dX4_text_1 : decode cX4_text 1 = .ok (.iload_n 1, 1) := by decide +kernel
theorem dX4_text_2 : decode cX4_text 2 = .ok (.invokevirtual 86, 3) := by decide +kernel
theorem dX4_text_5 : decode cX4_text 5 = .ok (.aload_n 0, 1) := by decide +kernel
theorem dX4_text_6 : decode cX4_text 6 = .ok (.iload_n 2, 1) := by decide +kernel
theorem dX4_text_7 : decode cX4_text 7 = .ok (.invokevirtual 58, 3) := by decide +kernel
theorem dX4_text_10 : decode cX4_text 10 = .ok (.aload_n 0, 1) := by decide +kernel
theorem dX4_text_11 : decode cX4_text 11 = .ok (.iload_n 2, 1) := by decide +kernel
theorem dX4_text_12 : decode cX4_text 12 = .ok (.iconst 1, 1) := by decide +kernel
theorem dX4_text_13 : decode cX4_text 13 = .ok (.invokevirtual 104, 3) := by decide +kernel
theorem dX4_text_16 : decode cX4_text 16 = .ok (.iload_n 3, 1) := by decide +kernel
theorem dX4_text_17 : decode cX4_text 17 = .ok (.iconst 0, 1) := by decide +kernel
theorem dX4_text_18 : decode cX4_text 18 = .ok (.sipush 200, 3) := by decide +kernel
theorem dX4_text_21 : decode cX4_text 21 = .ok (.invokestatic 47, 3) := by decide +kernel
theorem dX4_text_24 : decode cX4_text 24 = .ok (.iload 4, 2) := by decide +kernel
theorem dX4_text_26 : decode cX4_text 26 = .ok (.iconst 0, 1) := by decide +kernel
theorem dX4_text_27 : decode cX4_text 27 = .ok (.bipush 12, 2) := by decide +kernel
theorem dX4_text_29 : decode cX4_text 29 = .ok (.iload_n 3, 1) := by decide +kernel
theorem dX4_text_30 : decode cX4_text 30 = .ok (.invokestatic 108, 3) := by decide +kernel
theorem dX4_text_33 : decode cX4_text 33 = .ok (.invokestatic 47, 3) := by decide +kernel
theorem dX4_text_36 : decode cX4_text 36 = .ok (.aload_n 0, 1) := by decide +kernel
theorem dX4_text_37 : decode cX4_text 37 = .ok (.iconst 1, 1) := by decide +kernel
theorem dX4_text_38 : decode cX4_text 38 = .ok (.putfield 30, 3) := by decide +kernel
theorem dX4_text_41 : decode cX4_text 41 = .ok (.aload_n 0, 1) := by decide +kernel
theorem dX4_text_42 : decode cX4_text 42 = .ok (.getfield 12, 3) := by decide +kernel
theorem dX4_text_45 : decode cX4_text 45 = .ok (.getfield 95, 3) := by decide +kernel
theorem dX4_text_48 : decode cX4_text 48 = .ok (.iload_n 1, 1) := by decide +kernel
theorem dX4_text_49 : decode cX4_text 49 = .ok (.aaload, 1) := by decide +kernel
theorem dX4_text_50 : decode cX4_text 50 = .ok (.getfield 113, 3) := by decide +kernel
theorem dX4_text_53 : decode cX4_text 53 = .ok (.iload_n 2, 1) := by decide +kernel
theorem dX4_text_54 : decode cX4_text 54 = .ok (.iaload, 1) := by decide +kernel
theorem dX4_text_55 : decode cX4_text 55 = .ok (.istore 5, 2) := by decide +kernel
theorem dX4_text_57 : decode cX4_text 57 = .ok (.aload_n 0, 1) := by decide +kernel
theorem dX4_text_58 : decode cX4_text 58 = .ok (.getfield 12, 3) := by decide +kernel
theorem dX4_text_61 : decode cX4_text 61 = .ok (.getfield 95, 3) := by decide +kernel
theorem dX4_text_64 : decode cX4_text 64 = .ok (.iload_n 1, 1) := by decide +kernel
theorem dX4_text_65 : decode cX4_text 65 = .ok (.aaload, 1) := by decide +kernel
theorem dX4_text_66 : decode cX4_text 66 = .ok (.getfield 113, 3) := by decide +kernel
theorem dX4_text_69 : decode cX4_text 69 = .ok (.iload_n 2, 1) := by decide +kernel
theorem dX4_text_70 : decode cX4_text 70 = .ok (.iload_n 3, 1) := by decide +kernel
theorem dX4_text_71 : decode cX4_text 71 = .ok (.iastore, 1) := by decide +kernel
theorem dX4_text_72 : decode cX4_text 72 = .ok (.aload_n 0, 1) := by decide +kernel
theorem dX4_text_73 : decode cX4_text 73 = .ok (.getfield 12, 3) := by decide +kernel
theorem dX4_text_76 : decode cX4_text 76 = .ok (.getfield 95, 3) := by decide +kernel
theorem dX4_text_79 : decode cX4_text 79 = .ok (.iload_n 1, 1) := by decide +kernel
theorem dX4_text_80 : decode cX4_text 80 = .ok (.aaload, 1) := by decide +kernel
theorem dX4_text_81 : decode cX4_text 81 = .ok (.getfield 116, 3) := by decide +kernel
theorem dX4_text_84 : decode cX4_text 84 = .ok (.iload_n 2, 1) := by decide +kernel
theorem dX4_text_85 : decode cX4_text 85 = .ok (.iload 4, 2) := by decide +kernel
theorem dX4_text_87 : decode cX4_text 87 = .ok (.iastore, 1) := by decide +kernel
theorem dX4_text_88 : decode cX4_text 88 = .ok (.iload 5, 2) := by decide +kernel
theorem dX4_text_90 : decode cX4_text 90 = .ok (.ireturn, 1) := by decide +kernel
set_option maxRecDepth 20000 in
theorem ggX4_span_X4_requireRow : GoodIn wsX4_span wsX4_requireRow := goodIn_ca (goodIn_r _ [9, 10, 11, 3, 151, 152, 153, 154, 155, 156, 157, 158, 159, 160, 161, 162, 163, 164, 165, 166, 167] (by decide +kernel) (by decide +kernel)) (goodIn_sub (fun _ h => List.mem_cons_of_mem _ (List.mem_append_right _ h)) (by decide +kernel))
set_option maxRecDepth 20000 in
theorem gX4_span_X4_requireRow : GoodIn wsX4_span (wsV RX4 86 RX4 yX4_requireRow wsX4_requireRow) := goodIn_app (goodIn_of _ (by decide +kernel)) ggX4_span_X4_requireRow
set_option maxRecDepth 20000 in
theorem ggX4_span_X4_requireColumn : GoodIn wsX4_span wsX4_requireColumn := goodIn_ca (goodIn_r _ [15, 10, 11, 3, 151, 152, 153, 154, 155, 156, 157, 158, 159, 160, 161, 162, 163, 164, 165, 166, 167] (by decide +kernel) (by decide +kernel)) (goodIn_sub (fun _ h => List.mem_cons_of_mem _ (List.mem_append_right _ h)) (by decide +kernel))
set_option maxRecDepth 20000 in
theorem gX4_span_X4_requireColumn : GoodIn wsX4_span (wsV RX4 58 RX4 yX4_requireColumn wsX4_requireColumn) := goodIn_app (goodIn_of _ (by decide +kernel)) ggX4_span_X4_requireColumn
set_option maxRecDepth 20000 in
theorem ggX4_span_X4_requireKind : GoodIn wsX4_span wsX4_requireKind := goodIn_ca (goodIn_r _ [19, 1, 2, 3, 151, 152, 153, 154, 155, 156, 157, 158, 159, 160, 161, 162, 163, 164, 165, 166, 167] (by decide +kernel) (by decide +kernel)) (goodIn_sub (fun _ h => List.mem_cons_of_mem _ (List.mem_append_left _ (List.mem_append_right _ h))) (by decide +kernel))
set_option maxRecDepth 20000 in
theorem gX4_span_X4_requireKind : GoodIn wsX4_span (wsV RX4 104 RX4 yX4_requireKind wsX4_requireKind) := goodIn_app (goodIn_of _ (by decide +kernel)) ggX4_span_X4_requireKind
set_option maxRecDepth 20000 in
theorem ggX4_span_X4_refresh : GoodIn wsX4_span wsX4_refresh := goodIn_r _ [23, 4, 3, 24, 25, 26, 27, 28, 29, 30, 31, 32, 33, 34, 35, 36, 37, 38, 39, 40, 41, 42, 43, 44, 45, 46, 47, 48, 49, 50, 51, 52, 53, 54, 55, 56, 57, 58, 59, 60, 61, 62, 63, 64, 65, 66, 67, 68, 69, 70, 71, 72, 73, 74, 75, 76, 77, 78, 79, 80, 81, 82, 83, 84, 85, 86, 87, 88, 89, 90, 91, 92, 93, 94, 95, 96, 97, 98, 99, 100, 101, 102, 103, 104, 105, 106, 107, 108, 109, 110, 111, 112, 113, 114, 115, 116, 117, 118, 119, 120, 121, 122, 123, 124, 125, 126, 127, 128, 129, 130, 131, 132, 133, 134, 135, 136, 137, 138, 139, 140, 141, 142, 143, 144, 145, 146, 147, 148, 149, 150, 151, 152, 153, 154, 155, 156, 157, 158, 159, 160, 161, 162, 163, 164, 165, 166, 167, 168, 169, 170, 171, 172, 173, 174, 175, 176, 177, 178, 179, 180, 181, 182, 183, 184, 185, 186, 187, 188, 189, 190, 191, 192] (by decide +kernel) (by decide +kernel)
set_option maxRecDepth 20000 in
theorem gX4_span_X4_refresh : GoodIn wsX4_span (wsV RX4 131 RX4 yX4_refresh wsX4_refresh) := goodIn_app (goodIn_of _ (by decide +kernel)) ggX4_span_X4_refresh
theorem dX4_span_0 : decode cX4_span 0 = .ok (.aload_n 0, 1) := by decide +kernel
theorem dX4_span_1 : decode cX4_span 1 = .ok (.iload_n 1, 1) := by decide +kernel
theorem dX4_span_2 : decode cX4_span 2 = .ok (.invokevirtual 86, 3) := by decide +kernel
theorem dX4_span_5 : decode cX4_span 5 = .ok (.aload_n 0, 1) := by decide +kernel
theorem dX4_span_6 : decode cX4_span 6 = .ok (.iload_n 2, 1) := by decide +kernel
theorem dX4_span_7 : decode cX4_span 7 = .ok (.invokevirtual 58, 3) := by decide +kernel
theorem dX4_span_10 : decode cX4_span 10 = .ok (.aload_n 0, 1) := by decide +kernel
theorem dX4_span_11 : decode cX4_span 11 = .ok (.iload_n 2, 1) := by decide +kernel
theorem dX4_span_12 : decode cX4_span 12 = .ok (.iconst 1, 1) := by decide +kernel
theorem dX4_span_13 : decode cX4_span 13 = .ok (.invokevirtual 104, 3) := by decide +kernel
theorem dX4_span_16 : decode cX4_span 16 = .ok (.iload_n 2, 1) := by decide +kernel
theorem dX4_span_17 : decode cX4_span 17 = .ok (.iconst 1, 1) := by decide +kernel
theorem dX4_span_18 : decode cX4_span 18 = .ok (.iadd, 1) := by decide +kernel
theorem dX4_span_19 : decode cX4_span 19 = .ok (.aload_n 0, 1) := by decide +kernel
theorem dX4_span_20 : decode cX4_span 20 = .ok (.getfield 12, 3) := by decide +kernel
theorem dX4_span_23 : decode cX4_span 23 = .ok (.getfield 119, 3) := by decide +kernel
theorem dX4_span_26 : decode cX4_span 26 = .ok (.if_icmp .lt 13, 3) := by decide +kernel
theorem dX4_span_29 : decode cX4_span 29 = .ok (.new 122, 3) := by decide +kernel
theorem dX4_span_32 : decode cX4_span 32 = .ok (.dup, 1) := by decide +kernel
theorem dX4_span_33 : decode cX4_span 33 = .ok (.ldc 124, 2) := by decide +kernel
theorem dX4_span_35 : decode cX4_span 35 = .ok (.invokespecial 126, 3) := by decide +kernel
theorem dX4_span_38 : decode cX4_span 38 = .ok (.athrow, 1) := by decide +kernel
theorem dX4_span_39 : decode cX4_span 39 = .ok (.aload_n 0, 1) := by decide +kernel
theorem dX4_span_40 : decode cX4_span 40 = .ok (.iconst 1, 1) := by decide +kernel
theorem dX4_span_41 : decode cX4_span 41 = .ok (.putfield 30, 3) := by decide +kernel
theorem dX4_span_44 : decode cX4_span 44 = .ok (.aload_n 0, 1) := by decide +kernel
theorem dX4_span_45 : decode cX4_span 45 = .ok (.getfield 12, 3) := by decide +kernel
theorem dX4_span_48 : decode cX4_span 48 = .ok (.getfield 95, 3) := by decide +kernel
theorem dX4_span_51 : decode cX4_span 51 = .ok (.iload_n 1, 1) := by decide +kernel
theorem dX4_span_52 : decode cX4_span 52 = .ok (.aaload, 1) := by decide +kernel
theorem dX4_span_53 : decode cX4_span 53 = .ok (.getfield 127, 3) := by decide +kernel
theorem dX4_span_56 : decode cX4_span 56 = .ok (.iload_n 2, 1) := by decide +kernel
theorem dX4_span_57 : decode cX4_span 57 = .ok (.iload_n 3, 1) := by decide +kernel
theorem dX4_span_58 : decode cX4_span 58 = .ok (.bastore, 1) := by decide +kernel
theorem dX4_span_59 : decode cX4_span 59 = .ok (.aload_n 0, 1) := by decide +kernel
theorem dX4_span_60 : decode cX4_span 60 = .ok (.invokevirtual 131, 3) := by decide +kernel
theorem dX4_span_63 : decode cX4_span 63 = .ok (.aload_n 0, 1) := by decide +kernel
theorem dX4_span_64 : decode cX4_span 64 = .ok (.getfield 12, 3) := by decide +kernel
theorem dX4_span_67 : decode cX4_span 67 = .ok (.getfield 95, 3) := by decide +kernel
theorem dX4_span_70 : decode cX4_span 70 = .ok (.iload_n 1, 1) := by decide +kernel
theorem dX4_span_71 : decode cX4_span 71 = .ok (.aaload, 1) := by decide +kernel
theorem dX4_span_72 : decode cX4_span 72 = .ok (.getfield 134, 3) := by decide +kernel
theorem dX4_span_75 : decode cX4_span 75 = .ok (.iload_n 2, 1) := by decide +kernel
theorem dX4_span_76 : decode cX4_span 76 = .ok (.iconst 1, 1) := by decide +kernel
theorem dX4_span_77 : decode cX4_span 77 = .ok (.iadd, 1) := by decide +kernel
theorem dX4_span_78 : decode cX4_span 78 = .ok (.baload, 1) := by decide +kernel
theorem dX4_span_79 : decode cX4_span 79 = .ok (.ireturn, 1) := by decide +kernel
set_option maxRecDepth 20000 in
theorem ggX4_note_X4_requireRow : GoodIn wsX4_note wsX4_requireRow := goodIn_ca (goodIn_r _ [7, 8, 9, 2, 15, 16, 17, 18, 19, 20, 21, 22, 23, 24, 25, 26, 27, 28, 29, 30, 31] (by decide +kernel) (by decide +kernel)) (goodIn_sub (fun _ h => List.mem_cons_of_mem _ (List.mem_append_left _ (List.mem_append_right _ h))) (by decide +kernel))
set_option maxRecDepth 20000 in
theorem gX4_note_X4_requireRow : GoodIn wsX4_note (wsV RX4 86 RX4 yX4_requireRow wsX4_requireRow) := goodIn_app (goodIn_of _ (by decide +kernel)) ggX4_note_X4_requireRow
set_option maxRecDepth 20000 in
theorem ggX4_note_X4_requireRange : GoodIn wsX4_note wsX4_requireRange := goodIn_ca (goodIn_r _ [12, 13, 14] (by decide +kernel) (by decide +kernel)) (goodIn_sub (fun _ h => List.mem_cons_of_mem _ (List.mem_append_right _ h)) (by decide +kernel))
set_option maxRecDepth 20000 in
theorem gX4_note_X4_requireRange : GoodIn wsX4_note (va_wsS RX4 47 yX4_requireRange wsX4_requireRange) := goodIn_app (goodIn_of _ (by decide +kernel)) ggX4_note_X4_requireRange
theorem dX4_note_0 : decode cX4_note 0 = .ok (.aload_n 0, 1) := by decide +kernel
theorem dX4_note_1 : decode cX4_note 1 = .ok (.iload_n 1, 1) := by decide +kernel
theorem dX4_note_2 : decode cX4_note 2 = .ok (.invokevirtual 86, 3) := by decide +kernel
theorem dX4_note_5 : decode cX4_note 5 = .ok (.iload_n 2, 1) := by decide +kernel
theorem dX4_note_6 : decode cX4_note 6 = .ok (.iconst 0, 1) := by decide +kernel
theorem dX4_note_7 : decode cX4_note 7 = .ok (.iconst 5, 1) := by decide +kernel
theorem dX4_note_8 : decode cX4_note 8 = .ok (.invokestatic 47, 3) := by decide +kernel
theorem dX4_note_11 : decode cX4_note 11 = .ok (.aload_n 0, 1) := by decide +kernel
theorem dX4_note_12 : decode cX4_note 12 = .ok (.iconst 1, 1) := by decide +kernel
theorem dX4_note_13 : decode cX4_note 13 = .ok (.putfield 30, 3) := by decide +kernel
theorem dX4_note_16 : decode cX4_note 16 = .ok (.aload_n 0, 1) := by decide +kernel
theorem dX4_note_17 : decode cX4_note 17 = .ok (.getfield 12, 3) := by decide +kernel
theorem dX4_note_20 : decode cX4_note 20 = .ok (.getfield 95, 3) := by decide +kernel
theorem dX4_note_23 : decode cX4_note 23 = .ok (.iload_n 1, 1) := by decide +kernel
theorem dX4_note_24 : decode cX4_note 24 = .ok (.aaload, 1) := by decide +kernel
theorem dX4_note_25 : decode cX4_note 25 = .ok (.getfield 137, 3) := by decide +kernel
theorem dX4_note_28 : decode cX4_note 28 = .ok (.istore_n 3, 1) := by decide +kernel
theorem dX4_note_29 : decode cX4_note 29 = .ok (.aload_n 0, 1) := by decide +kernel
theorem dX4_note_30 : decode cX4_note 30 = .ok (.getfield 12, 3) := by decide +kernel
theorem dX4_note_33 : decode cX4_note 33 = .ok (.getfield 95, 3) := by decide +kernel
theorem dX4_note_36 : decode cX4_note 36 = .ok (.iload_n 1, 1) := by decide +kernel
theorem dX4_note_37 : decode cX4_note 37 = .ok (.aaload, 1) := by decide +kernel
theorem dX4_note_38 : decode cX4_note 38 = .ok (.iload_n 2, 1) := by decide +kernel
theorem dX4_note_39 : decode cX4_note 39 = .ok (.putfield 137, 3) := by decide +kernel
theorem dX4_note_42 : decode cX4_note 42 = .ok (.iload_n 3, 1) := by decide +kernel
theorem dX4_note_43 : decode cX4_note 43 = .ok (.ireturn, 1) := by decide +kernel
set_option maxRecDepth 20000 in
theorem ggX4_keep_X4_requireRow : GoodIn wsX4_keep wsX4_requireRow := goodIn_ca (goodIn_r _ [7, 8, 9, 2, 10, 11, 12, 13, 14, 15, 16, 17, 18, 19, 20, 21, 22, 23, 24, 25, 26] (by decide +kernel) (by decide +kernel)) (goodIn_sub (fun _ h => List.mem_cons_of_mem _ (List.mem_append_right _ h)) (by decide +kernel))
set_option maxRecDepth 20000 in
theorem gX4_keep_X4_requireRow : GoodIn wsX4_keep (wsV RX4 86 RX4 yX4_requireRow wsX4_requireRow) := goodIn_app (goodIn_of _ (by decide +kernel)) ggX4_keep_X4_requireRow
theorem dX4_keep_0 : decode cX4_keep 0 = .ok (.aload_n 0, 1) := by decide +kernel
theorem dX4_keep_1 : decode cX4_keep 1 = .ok (.iload_n 1, 1) := by decide +kernel
theorem dX4_keep_2 : decode cX4_keep 2 = .ok (.invokevirtual 86, 3) := by decide +kernel
theorem dX4_keep_5 : decode cX4_keep 5 = .ok (.aload_n 0, 1) := by decide +kernel
theorem dX4_keep_6 : decode cX4_keep 6 = .ok (.iconst 1, 1) := by decide +kernel
theorem dX4_keep_7 : decode cX4_keep 7 = .ok (.putfield 30, 3) := by decide +kernel
theorem dX4_keep_10 : decode cX4_keep 10 = .ok (.aload_n 0, 1) := by decide +kernel
theorem dX4_keep_11 : decode cX4_keep 11 = .ok (.getfield 12, 3) := by decide +kernel
theorem dX4_keep_14 : decode cX4_keep 14 = .ok (.getfield 95, 3) := by decide +kernel
theorem dX4_keep_17 : decode cX4_keep 17 = .ok (.iload_n 1, 1) := by decide +kernel
theorem dX4_keep_18 : decode cX4_keep 18 = .ok (.aaload, 1) := by decide +kernel
theorem dX4_keep_19 : decode cX4_keep 19 = .ok (.getfield 140, 3) := by decide +kernel
theorem dX4_keep_22 : decode cX4_keep 22 = .ok (.istore_n 3, 1) := by decide +kernel
theorem dX4_keep_23 : decode cX4_keep 23 = .ok (.aload_n 0, 1) := by decide +kernel
theorem dX4_keep_24 : decode cX4_keep 24 = .ok (.getfield 12, 3) := by decide +kernel
theorem dX4_keep_27 : decode cX4_keep 27 = .ok (.getfield 95, 3) := by decide +kernel
theorem dX4_keep_30 : decode cX4_keep 30 = .ok (.iload_n 1, 1) := by decide +kernel
theorem dX4_keep_31 : decode cX4_keep 31 = .ok (.aaload, 1) := by decide +kernel
theorem dX4_keep_32 : decode cX4_keep 32 = .ok (.iload_n 2, 1) := by decide +kernel
theorem dX4_keep_33 : decode cX4_keep 33 = .ok (.putfield 140, 3) := by decide +kernel
theorem dX4_keep_36 : decode cX4_keep 36 = .ok (.iload_n 3, 1) := by decide +kernel
theorem dX4_keep_37 : decode cX4_keep 37 = .ok (.ireturn, 1) := by decide +kernel
set_option maxRecDepth 20000 in
theorem ggX4_paper_X4_requireRange : GoodIn wsX4_paper wsX4_requireRange := goodIn_ca (goodIn_r _ [8, 9, 10] (by decide +kernel) (by decide +kernel)) (goodIn_sub (fun _ h => List.mem_cons_of_mem _ (List.mem_append_right _ h)) (by decide +kernel))
set_option maxRecDepth 20000 in
theorem gX4_paper_X4_requireRange : GoodIn wsX4_paper (va_wsS RX4 47 yX4_requireRange wsX4_requireRange) := goodIn_app (goodIn_of _ (by decide +kernel)) ggX4_paper_X4_requireRange
set_option maxRecDepth 20000 in
theorem ggX4_paper_X4_refresh : GoodIn wsX4_paper wsX4_refresh := goodIn_r _ [14, 1, 15, 4, 2, 3, 16, 17, 18, 19, 20, 21, 22, 23, 24, 25, 26, 27, 28, 29, 30, 31, 32, 33, 34, 35, 36, 37, 38, 39, 40, 41, 42, 43, 44, 45, 46, 47, 48, 49, 50, 51, 52, 53, 54, 55, 56, 57, 58, 59, 60, 61, 62, 63, 64, 65, 66, 67, 68, 69, 70, 71, 72, 73, 74, 75, 76, 77, 78, 79, 80, 81, 82, 83, 84, 85, 86, 87, 88, 89, 90, 91, 92, 93, 94, 95, 96, 97, 98, 99, 100, 101, 102, 103, 104, 105, 106, 107, 108, 109, 110, 111, 112, 113, 114, 115, 116, 117, 118, 119, 120, 121, 122, 123, 124, 125, 126, 127, 128, 129, 130, 131, 132, 133, 134, 135, 136, 137, 138, 139, 148, 149, 150, 151, 152, 153, 154, 155, 156, 157, 158, 159, 160, 161, 162, 163, 164, 165, 166, 167, 168, 169, 170, 171, 172, 173, 174, 175, 176, 177, 178, 179, 180, 181, 182, 183, 184, 185, 186, 187, 188, 189] (by decide +kernel) (by decide +kernel)
set_option maxRecDepth 20000 in
theorem gX4_paper_X4_refresh : GoodIn wsX4_paper (wsV RX4 131 RX4 yX4_refresh wsX4_refresh) := goodIn_app (goodIn_of _ (by decide +kernel)) ggX4_paper_X4_refresh
set_option maxRecDepth 20000 in
theorem ggX4_paper_X2_chosen : GoodIn wsX4_paper wsX2_chosen := goodIn_r _ [143, 78, 77, 76, 173, 174, 175] (by decide +kernel) (by decide +kernel)
set_option maxRecDepth 20000 in
theorem gX4_paper_X2_chosen : GoodIn wsX4_paper (wsV RX4 143 RX2 yX2_chosen wsX2_chosen) := goodIn_app (goodIn_of _ (by decide +kernel)) ggX4_paper_X2_chosen
set_option maxRecDepth 20000 in
theorem ggX4_paper_X0_pagesOrNone : GoodIn wsX4_paper wsX0_pagesOrNone := goodIn_r _ [147, 85, 86, 176, 177, 178, 179, 180, 181, 182, 183, 184, 185, 186, 187, 188, 189] (by decide +kernel) (by decide +kernel)
set_option maxRecDepth 20000 in
theorem gX4_paper_X0_pagesOrNone : GoodIn wsX4_paper (wsV RX4 147 RX0 yX0_pagesOrNone wsX0_pagesOrNone) := goodIn_app (goodIn_of _ (by decide +kernel)) ggX4_paper_X0_pagesOrNone
theorem dX4_paper_0 : decode cX4_paper 0 = .ok (.iload_n 1, 1) := by decide +kernel
theorem dX4_paper_1 : decode cX4_paper 1 = .ok (.bipush 10, 2) := by decide +kernel
theorem dX4_paper_3 : decode cX4_paper 3 = .ok (.bipush 60, 2) := by decide +kernel
theorem dX4_paper_5 : decode cX4_paper 5 = .ok (.invokestatic 47, 3) := by decide +kernel
theorem dX4_paper_8 : decode cX4_paper 8 = .ok (.iload_n 2, 1) := by decide +kernel
theorem dX4_paper_9 : decode cX4_paper 9 = .ok (.bipush 10, 2) := by decide +kernel
theorem dX4_paper_11 : decode cX4_paper 11 = .ok (.bipush 60, 2) := by decide +kernel
theorem dX4_paper_13 : decode cX4_paper 13 = .ok (.invokestatic 47, 3) := by decide +kernel
theorem dX4_paper_16 : decode cX4_paper 16 = .ok (.aload_n 0, 1) := by decide +kernel
theorem dX4_paper_17 : decode cX4_paper 17 = .ok (.iconst 1, 1) := by decide +kernel
theorem dX4_paper_18 : decode cX4_paper 18 = .ok (.putfield 30, 3) := by decide +kernel
theorem dX4_paper_21 : decode cX4_paper 21 = .ok (.aload_n 0, 1) := by decide +kernel
theorem dX4_paper_22 : decode cX4_paper 22 = .ok (.iload_n 1, 1) := by decide +kernel
theorem dX4_paper_23 : decode cX4_paper 23 = .ok (.putfield 23, 3) := by decide +kernel
theorem dX4_paper_26 : decode cX4_paper 26 = .ok (.aload_n 0, 1) := by decide +kernel
theorem dX4_paper_27 : decode cX4_paper 27 = .ok (.iload_n 2, 1) := by decide +kernel
theorem dX4_paper_28 : decode cX4_paper 28 = .ok (.putfield 27, 3) := by decide +kernel
theorem dX4_paper_31 : decode cX4_paper 31 = .ok (.aload_n 0, 1) := by decide +kernel
theorem dX4_paper_32 : decode cX4_paper 32 = .ok (.invokevirtual 131, 3) := by decide +kernel
theorem dX4_paper_35 : decode cX4_paper 35 = .ok (.aload_n 0, 1) := by decide +kernel
theorem dX4_paper_36 : decode cX4_paper 36 = .ok (.getfield 19, 3) := by decide +kernel
theorem dX4_paper_39 : decode cX4_paper 39 = .ok (.invokevirtual 143, 3) := by decide +kernel
theorem dX4_paper_42 : decode cX4_paper 42 = .ok (.invokevirtual 147, 3) := by decide +kernel
theorem dX4_paper_45 : decode cX4_paper 45 = .ok (.ireturn, 1) := by decide +kernel
set_option maxRecDepth 20000 in
theorem ggX4_cell_X4_requireRow : GoodIn wsX4_cell wsX4_requireRow := goodIn_ca (goodIn_r _ [5, 6, 7, 8, 163, 164, 165, 166, 167, 168, 169, 170, 171, 172, 173, 174, 175, 176, 177, 178, 179] (by decide +kernel) (by decide +kernel)) (goodIn_sub (fun _ h => List.mem_cons_of_mem _ (List.mem_append_left _ (List.mem_append_right _ h))) (by decide +kernel))
set_option maxRecDepth 20000 in
theorem gX4_cell_X4_requireRow : GoodIn wsX4_cell (wsV RX4 86 RX4 yX4_requireRow wsX4_requireRow) := goodIn_app (goodIn_of _ (by decide +kernel)) ggX4_cell_X4_requireRow
set_option maxRecDepth 20000 in
theorem ggX4_cell_X4_requireColumn : GoodIn wsX4_cell wsX4_requireColumn := goodIn_ca (goodIn_r _ [12, 6, 7, 8, 163, 164, 165, 166, 167, 168, 169, 170, 171, 172, 173, 174, 175, 176, 177, 178, 179] (by decide +kernel) (by decide +kernel)) (goodIn_sub (fun _ h => List.mem_cons_of_mem _ (List.mem_append_left _ (List.mem_append_right _ h))) (by decide +kernel))
set_option maxRecDepth 20000 in
theorem gX4_cell_X4_requireColumn : GoodIn wsX4_cell (wsV RX4 58 RX4 yX4_requireColumn wsX4_requireColumn) := goodIn_app (goodIn_of _ (by decide +kernel)) ggX4_cell_X4_requireColumn
set_option maxRecDepth 20000 in
theorem ggX4_cell_X4_requireRange : GoodIn wsX4_cell wsX4_requireRange := goodIn_ca (goodIn_r _ [15, 16, 17] (by decide +kernel) (by decide +kernel)) (goodIn_sub (fun _ h => List.mem_cons_of_mem _ (List.mem_append_right _ h)) (by decide +kernel))
set_option maxRecDepth 20000 in
theorem gX4_cell_X4_requireRange : GoodIn wsX4_cell (va_wsS RX4 47 yX4_requireRange wsX4_requireRange) := goodIn_app (goodIn_of _ (by decide +kernel)) ggX4_cell_X4_requireRange
set_option maxRecDepth 20000 in
theorem ggX4_cell_X4_refresh : GoodIn wsX4_cell wsX4_refresh := goodIn_r _ [21, 22, 8, 23, 24, 25, 26, 27, 28, 29, 30, 31, 32, 33, 34, 35, 36, 37, 38, 39, 40, 41, 42, 43, 44, 45, 46, 47, 48, 49, 50, 51, 52, 53, 54, 55, 56, 57, 58, 59, 60, 61, 62, 63, 64, 65, 66, 67, 68, 69, 70, 71, 72, 73, 74, 75, 76, 77, 78, 79, 80, 81, 82, 83, 84, 85, 86, 87, 88, 89, 90, 91, 92, 93, 94, 95, 96, 97, 98, 99, 100, 101, 102, 103, 104, 105, 106, 107, 108, 109, 110, 111, 112, 113, 114, 115, 116, 117, 118, 119, 120, 121, 122, 123, 124, 125, 126, 127, 128, 129, 130, 131, 132, 133, 134, 135, 136, 137, 138, 139, 140, 141, 142, 143, 144, 145, 146, 147, 148, 149, 163, 164, 165, 166, 167, 168, 169, 170, 171, 172, 173, 174, 175, 176, 177, 178, 179, 180, 181, 182, 183, 184, 185, 186, 187, 188, 189, 190, 191, 192, 193, 194, 195, 196, 197, 198, 199, 200, 201, 202, 203, 204] (by decide +kernel) (by decide +kernel)
set_option maxRecDepth 20000 in
theorem gX4_cell_X4_refresh : GoodIn wsX4_cell (wsV RX4 131 RX4 yX4_refresh wsX4_refresh) := goodIn_app (goodIn_of _ (by decide +kernel)) ggX4_cell_X4_refresh
set_option maxRecDepth 20000 in
theorem ggX4_cell_X4_factOfCell : GoodIn wsX4_cell wsX4_factOfCell := goodIn_r _ [153, 23, 8, 154, 155, 156, 84, 157, 88, 87, 86, 158, 119, 120, 92, 121, 103, 116, 63, 52, 64, 122, 71, 72, 29, 73, 31, 38, 159, 160, 161, 162, 32, 163, 164, 165, 166, 167, 168, 169, 170, 171, 172, 173, 174, 175, 176, 177, 178, 179, 180, 181, 182, 183, 184, 185, 186, 187, 191, 192, 193, 194, 195, 196, 197, 198, 199, 200, 201, 202, 203, 204, 188, 189, 190] (by decide +kernel) (by decide +kernel)
set_option maxRecDepth 20000 in
theorem gX4_cell_X4_factOfCell : GoodIn wsX4_cell (wsV RX4 150 RX4 yX4_factOfCell wsX4_factOfCell) := goodIn_app (goodIn_of _ (by decide +kernel)) ggX4_cell_X4_factOfCell
theorem dX4_cell_0 : decode cX4_cell 0 = .ok (.aload_n 0, 1) := by decide +kernel
theorem dX4_cell_1 : decode cX4_cell 1 = .ok (.iload_n 1, 1) := by decide +kernel
theorem dX4_cell_2 : decode cX4_cell 2 = .ok (.invokevirtual 86, 3) := by decide +kernel
theorem dX4_cell_5 : decode cX4_cell 5 = .ok (.aload_n 0, 1) := by decide +kernel
theorem dX4_cell_6 : decode cX4_cell 6 = .ok (.iload_n 2, 1) := by decide +kernel
theorem dX4_cell_7 : decode cX4_cell 7 = .ok (.invokevirtual 58, 3) := by decide +kernel
theorem dX4_cell_10 : decode cX4_cell 10 = .ok (.iload_n 3, 1) := by decide +kernel
theorem dX4_cell_11 : decode cX4_cell 11 = .ok (.iconst 0, 1) := by decide +kernel
theorem dX4_cell_12 : decode cX4_cell 12 = .ok (.iconst 3, 1) := by decide +kernel
theorem dX4_cell_13 : decode cX4_cell 13 = .ok (.invokestatic 47, 3) := by decide +kernel
theorem dX4_cell_16 : decode cX4_cell 16 = .ok (.aload_n 0, 1) := by decide +kernel
theorem dX4_cell_17 : decode cX4_cell 17 = .ok (.invokevirtual 131, 3) := by decide +kernel
theorem dX4_cell_20 : decode cX4_cell 20 = .ok (.aload_n 0, 1) := by decide +kernel
theorem dX4_cell_21 : decode cX4_cell 21 = .ok (.iload_n 1, 1) := by decide +kernel
theorem dX4_cell_22 : decode cX4_cell 22 = .ok (.iload_n 2, 1) := by decide +kernel
theorem dX4_cell_23 : decode cX4_cell 23 = .ok (.iload_n 3, 1) := by decide +kernel
theorem dX4_cell_24 : decode cX4_cell 24 = .ok (.invokevirtual 150, 3) := by decide +kernel
theorem dX4_cell_27 : decode cX4_cell 27 = .ok (.ireturn, 1) := by decide +kernel
set_option maxRecDepth 20000 in
theorem ggX4_ofColumn_X4_requireColumn : GoodIn wsX4_ofColumn wsX4_requireColumn := goodIn_ca (goodIn_r _ [5, 6, 7, 8, 158, 159, 160, 161, 162, 163, 164, 165, 166, 167, 168, 169, 170, 171, 172, 173, 174] (by decide +kernel) (by decide +kernel)) (goodIn_sub (fun _ h => List.mem_cons_of_mem _ (List.mem_append_left _ (List.mem_append_right _ h))) (by decide +kernel))
set_option maxRecDepth 20000 in
theorem gX4_ofColumn_X4_requireColumn : GoodIn wsX4_ofColumn (wsV RX4 58 RX4 yX4_requireColumn wsX4_requireColumn) := goodIn_app (goodIn_of _ (by decide +kernel)) ggX4_ofColumn_X4_requireColumn
set_option maxRecDepth 20000 in
theorem ggX4_ofColumn_X4_requireRange : GoodIn wsX4_ofColumn wsX4_requireRange := goodIn_ca (goodIn_r _ [11, 12, 13] (by decide +kernel) (by decide +kernel)) (goodIn_sub (fun _ h => List.mem_cons_of_mem _ (List.mem_append_right _ h)) (by decide +kernel))
set_option maxRecDepth 20000 in
theorem gX4_ofColumn_X4_requireRange : GoodIn wsX4_ofColumn (va_wsS RX4 47 yX4_requireRange wsX4_requireRange) := goodIn_app (goodIn_of _ (by decide +kernel)) ggX4_ofColumn_X4_requireRange
set_option maxRecDepth 20000 in
theorem ggX4_ofColumn_X4_refresh : GoodIn wsX4_ofColumn wsX4_refresh := goodIn_r _ [17, 18, 8, 19, 20, 21, 22, 23, 24, 25, 26, 27, 28, 29, 30, 31, 32, 33, 34, 35, 36, 37, 38, 39, 40, 41, 42, 43, 44, 45, 46, 47, 48, 49, 50, 51, 52, 53, 54, 55, 56, 57, 58, 59, 60, 61, 62, 63, 64, 65, 66, 67, 68, 69, 70, 71, 72, 73, 74, 75, 76, 77, 78, 79, 80, 81, 82, 83, 84, 85, 86, 87, 88, 89, 90, 91, 92, 93, 94, 95, 96, 97, 98, 99, 100, 101, 102, 103, 104, 105, 106, 107, 108, 109, 110, 111, 112, 113, 114, 115, 116, 117, 118, 119, 120, 121, 122, 123, 124, 125, 126, 127, 128, 129, 130, 131, 132, 133, 134, 135, 136, 137, 138, 139, 140, 141, 142, 143, 144, 145, 158, 159, 160, 161, 162, 163, 164, 165, 166, 167, 168, 169, 170, 171, 172, 173, 174, 175, 176, 177, 178, 179, 180, 181, 182, 183, 184, 185, 186, 187, 188, 189, 190, 191, 192, 193, 194, 195, 196, 197, 198, 199] (by decide +kernel) (by decide +kernel)
set_option maxRecDepth 20000 in
theorem gX4_ofColumn_X4_refresh : GoodIn wsX4_ofColumn (wsV RX4 131 RX4 yX4_refresh wsX4_refresh) := goodIn_app (goodIn_of _ (by decide +kernel)) ggX4_ofColumn_X4_refresh
set_option maxRecDepth 20000 in
theorem ggX4_ofColumn_X4_factOfColumn : GoodIn wsX4_ofColumn wsX4_factOfColumn := goodIn_r _ [149, 19, 8, 150, 151, 152, 80, 153, 84, 83, 82, 154, 155, 156, 25, 157, 28, 34, 158, 159, 160, 161, 162, 163, 164, 165, 166, 167, 168, 169, 170, 171, 172, 173, 174, 186, 187, 188, 189, 190, 191, 192, 193, 194, 195, 196, 197, 198, 199, 183, 184, 185, 175, 176, 177, 178, 179, 180, 181, 182] (by decide +kernel) (by decide +kernel)
set_option maxRecDepth 20000 in
theorem gX4_ofColumn_X4_factOfColumn : GoodIn wsX4_ofColumn (wsV RX4 154 RX4 yX4_factOfColumn wsX4_factOfColumn) := goodIn_app (goodIn_of _ (by decide +kernel)) ggX4_ofColumn_X4_factOfColumn
theorem dX4_ofColumn_0 : decode cX4_ofColumn 0 = .ok (.aload_n 0, 1) := by decide +kernel
theorem dX4_ofColumn_1 : decode cX4_ofColumn 1 = .ok (.iload_n 1, 1) := by decide +kernel
theorem dX4_ofColumn_2 : decode cX4_ofColumn 2 = .ok (.invokevirtual 58, 3) := by decide +kernel
theorem dX4_ofColumn_5 : decode cX4_ofColumn 5 = .ok (.iload_n 2, 1) := by decide +kernel
theorem dX4_ofColumn_6 : decode cX4_ofColumn 6 = .ok (.iconst 0, 1) := by decide +kernel
theorem dX4_ofColumn_7 : decode cX4_ofColumn 7 = .ok (.iconst 4, 1) := by decide +kernel
theorem dX4_ofColumn_8 : decode cX4_ofColumn 8 = .ok (.invokestatic 47, 3) := by decide +kernel
theorem dX4_ofColumn_11 : decode cX4_ofColumn 11 = .ok (.aload_n 0, 1) := by decide +kernel
theorem dX4_ofColumn_12 : decode cX4_ofColumn 12 = .ok (.invokevirtual 131, 3) := by decide +kernel
theorem dX4_ofColumn_15 : decode cX4_ofColumn 15 = .ok (.aload_n 0, 1) := by decide +kernel
theorem dX4_ofColumn_16 : decode cX4_ofColumn 16 = .ok (.iload_n 1, 1) := by decide +kernel
theorem dX4_ofColumn_17 : decode cX4_ofColumn 17 = .ok (.iload_n 2, 1) := by decide +kernel
theorem dX4_ofColumn_18 : decode cX4_ofColumn 18 = .ok (.invokevirtual 154, 3) := by decide +kernel
theorem dX4_ofColumn_21 : decode cX4_ofColumn 21 = .ok (.ireturn, 1) := by decide +kernel
set_option maxRecDepth 20000 in
theorem ggX4_ofRow_X4_requireRow : GoodIn wsX4_ofRow wsX4_requireRow := goodIn_ca (goodIn_r _ [5, 6, 7, 8, 154, 155, 156, 157, 158, 159, 160, 161, 162, 163, 164, 165, 166, 167, 168, 169, 170] (by decide +kernel) (by decide +kernel)) (goodIn_sub (fun _ h => List.mem_cons_of_mem _ (List.mem_append_left _ (List.mem_append_right _ h))) (by decide +kernel))
set_option maxRecDepth 20000 in
theorem gX4_ofRow_X4_requireRow : GoodIn wsX4_ofRow (wsV RX4 86 RX4 yX4_requireRow wsX4_requireRow) := goodIn_app (goodIn_of _ (by decide +kernel)) ggX4_ofRow_X4_requireRow
set_option maxRecDepth 20000 in
theorem ggX4_ofRow_X4_requireRange : GoodIn wsX4_ofRow wsX4_requireRange := goodIn_ca (goodIn_r _ [11, 12, 13] (by decide +kernel) (by decide +kernel)) (goodIn_sub (fun _ h => List.mem_cons_of_mem _ (List.mem_append_right _ h)) (by decide +kernel))
set_option maxRecDepth 20000 in
theorem gX4_ofRow_X4_requireRange : GoodIn wsX4_ofRow (va_wsS RX4 47 yX4_requireRange wsX4_requireRange) := goodIn_app (goodIn_of _ (by decide +kernel)) ggX4_ofRow_X4_requireRange
set_option maxRecDepth 20000 in
theorem ggX4_ofRow_X4_refresh : GoodIn wsX4_ofRow wsX4_refresh := goodIn_r _ [17, 18, 8, 19, 20, 21, 22, 23, 24, 25, 26, 27, 28, 29, 30, 31, 32, 33, 34, 35, 36, 37, 38, 39, 40, 41, 42, 43, 44, 45, 46, 47, 48, 49, 50, 51, 52, 53, 54, 55, 56, 57, 58, 59, 60, 61, 62, 63, 64, 65, 66, 67, 68, 69, 70, 71, 72, 73, 74, 75, 76, 77, 78, 79, 80, 81, 82, 83, 84, 85, 86, 87, 88, 89, 90, 91, 92, 93, 94, 95, 96, 97, 98, 99, 100, 101, 102, 103, 104, 105, 106, 107, 108, 109, 110, 111, 112, 113, 114, 115, 116, 117, 118, 119, 120, 121, 122, 123, 124, 125, 126, 127, 128, 129, 130, 131, 132, 133, 134, 135, 136, 137, 138, 139, 140, 141, 142, 143, 144, 145, 154, 155, 156, 157, 158, 159, 160, 161, 162, 163, 164, 165, 166, 167, 168, 169, 170, 171, 172, 173, 174, 175, 176, 177, 178, 179, 180, 181, 182, 183, 184, 185, 186, 187, 188, 189, 190, 191, 192, 193, 194, 195] (by decide +kernel) (by decide +kernel)
set_option maxRecDepth 20000 in
theorem gX4_ofRow_X4_refresh : GoodIn wsX4_ofRow (wsV RX4 131 RX4 yX4_refresh wsX4_refresh) := goodIn_app (goodIn_of _ (by decide +kernel)) ggX4_ofRow_X4_refresh
set_option maxRecDepth 20000 in
theorem ggX4_ofRow_X4_factOfRow : GoodIn wsX4_ofRow wsX4_factOfRow := goodIn_r _ [149, 19, 150, 151, 152, 80, 153, 84, 83, 82, 154, 155, 156, 157, 158, 159, 160, 161, 182, 183, 184, 185, 186, 187, 188, 189, 190, 191, 192, 193, 194, 195, 179, 180, 181] (by decide +kernel) (by decide +kernel)
set_option maxRecDepth 20000 in
theorem gX4_ofRow_X4_factOfRow : GoodIn wsX4_ofRow (wsV RX4 157 RX4 yX4_factOfRow wsX4_factOfRow) := goodIn_app (goodIn_of _ (by decide +kernel)) ggX4_ofRow_X4_factOfRow
theorem dX4_ofRow_0 : decode cX4_ofRow 0 = .ok (.aload_n 0, 1) := by decide +kernel
theorem dX4_ofRow_1 : decode cX4_ofRow 1 = .ok (.iload_n 1, 1) := by decide +kernel
theorem dX4_ofRow_2 : decode cX4_ofRow 2 = .ok (.invokevirtual 86, 3) := by decide +kernel
theorem dX4_ofRow_5 : decode cX4_ofRow 5 = .ok (.iload_n 2, 1) := by decide +kernel
theorem dX4_ofRow_6 : decode cX4_ofRow 6 = .ok (.iconst 0, 1) := by decide +kernel
theorem dX4_ofRow_7 : decode cX4_ofRow 7 = .ok (.iconst 2, 1) := by decide +kernel
theorem dX4_ofRow_8 : decode cX4_ofRow 8 = .ok (.invokestatic 47, 3) := by decide +kernel
theorem dX4_ofRow_11 : decode cX4_ofRow 11 = .ok (.aload_n 0, 1) := by decide +kernel
theorem dX4_ofRow_12 : decode cX4_ofRow 12 = .ok (.invokevirtual 131, 3) := by decide +kernel
theorem dX4_ofRow_15 : decode cX4_ofRow 15 = .ok (.aload_n 0, 1) := by decide +kernel
theorem dX4_ofRow_16 : decode cX4_ofRow 16 = .ok (.iload_n 1, 1) := by decide +kernel
theorem dX4_ofRow_17 : decode cX4_ofRow 17 = .ok (.iload_n 2, 1) := by decide +kernel
theorem dX4_ofRow_18 : decode cX4_ofRow 18 = .ok (.invokevirtual 157, 3) := by decide +kernel
theorem dX4_ofRow_21 : decode cX4_ofRow 21 = .ok (.ireturn, 1) := by decide +kernel
set_option maxRecDepth 20000 in
theorem ggX4_ofPage_X4_refresh : GoodIn wsX4_ofPage wsX4_refresh := goodIn_r _ [5, 6, 7, 8, 9, 10, 11, 12, 13, 14, 15, 16, 17, 18, 19, 20, 21, 22, 23, 24, 25, 26, 27, 28, 29, 30, 31, 32, 33, 34, 35, 36, 37, 38, 39, 40, 41, 42, 43, 44, 45, 46, 47, 48, 49, 50, 51, 52, 53, 54, 55, 56, 57, 58, 59, 60, 61, 62, 63, 64, 65, 66, 67, 68, 69, 70, 71, 72, 73, 74, 75, 76, 77, 78, 79, 80, 81, 82, 83, 84, 85, 86, 87, 88, 89, 90, 91, 92, 93, 94, 95, 96, 97, 98, 99, 100, 101, 102, 103, 104, 105, 106, 107, 108, 109, 110, 111, 112, 113, 114, 115, 116, 117, 118, 119, 120, 121, 122, 123, 124, 125, 126, 127, 128, 129, 130, 131, 132, 133, 134, 161, 162, 163, 164, 165, 166, 167, 168, 169, 170, 171, 172, 173, 174, 175, 176, 177, 178, 179, 180, 181, 182, 183, 184, 185, 186, 187, 188, 189, 190, 191, 192, 193, 194, 195, 196, 197, 198, 199, 200, 201, 202] (by decide +kernel) (by decide +kernel)
set_option maxRecDepth 20000 in
theorem gX4_ofPage_X4_refresh : GoodIn wsX4_ofPage (wsV RX4 131 RX4 yX4_refresh wsX4_refresh) := goodIn_app (goodIn_of _ (by decide +kernel)) ggX4_ofPage_X4_refresh
set_option maxRecDepth 20000 in
theorem ggX4_ofPage_X4_requirePage : GoodIn wsX4_ofPage wsX4_requirePage := goodIn_ca (goodIn_r _ [138, 139, 140, 8, 141, 142, 143, 69, 144, 73, 72, 71, 161, 162, 163, 164, 165, 166, 167, 168, 189, 190, 191, 192, 193, 194, 195, 196, 197, 198, 199, 200, 201, 202, 186, 187, 188] (by decide +kernel) (by decide +kernel)) (goodIn_sub (fun _ h => List.mem_cons_of_mem _ (List.mem_append_left _ (List.mem_append_right _ h))) (by decide +kernel))
set_option maxRecDepth 20000 in
theorem gX4_ofPage_X4_requirePage : GoodIn wsX4_ofPage (wsV RX4 160 RX4 yX4_requirePage wsX4_requirePage) := goodIn_app (goodIn_of _ (by decide +kernel)) ggX4_ofPage_X4_requirePage
set_option maxRecDepth 20000 in
theorem ggX4_ofPage_X4_requireRange : GoodIn wsX4_ofPage wsX4_requireRange := goodIn_ca (goodIn_r _ [147, 148, 149] (by decide +kernel) (by decide +kernel)) (goodIn_sub (fun _ h => List.mem_cons_of_mem _ (List.mem_append_right _ h)) (by decide +kernel))
set_option maxRecDepth 20000 in
theorem gX4_ofPage_X4_requireRange : GoodIn wsX4_ofPage (va_wsS RX4 47 yX4_requireRange wsX4_requireRange) := goodIn_app (goodIn_of _ (by decide +kernel)) ggX4_ofPage_X4_requireRange
set_option maxRecDepth 20000 in
theorem ggX4_ofPage_X4_factOfPage : GoodIn wsX4_ofPage wsX4_factOfPage := goodIn_r _ [153, 8, 7, 141, 142, 143, 69, 144, 73, 72, 71, 154, 155, 156, 77, 157, 114, 134, 158, 159, 160, 161, 162, 163, 164, 165, 166, 167, 168, 189, 190, 191, 192, 193, 194, 195, 196, 197, 198, 199, 200, 201, 202, 186, 187, 188, 169, 170, 171, 172, 173, 174, 175, 176, 177, 178, 179, 180, 181, 182, 183, 184, 185] (by decide +kernel) (by decide +kernel)
set_option maxRecDepth 20000 in
theorem gX4_ofPage_X4_factOfPage : GoodIn wsX4_ofPage (wsV RX4 163 RX4 yX4_factOfPage wsX4_factOfPage) := goodIn_app (goodIn_of _ (by decide +kernel)) ggX4_ofPage_X4_factOfPage
theorem dX4_ofPage_0 : decode cX4_ofPage 0 = .ok (.aload_n 0, 1) := by decide +kernel
theorem dX4_ofPage_1 : decode cX4_ofPage 1 = .ok (.invokevirtual 131, 3) := by decide +kernel
theorem dX4_ofPage_4 : decode cX4_ofPage 4 = .ok (.aload_n 0, 1) := by decide +kernel
theorem dX4_ofPage_5 : decode cX4_ofPage 5 = .ok (.iload_n 1, 1) := by decide +kernel
theorem dX4_ofPage_6 : decode cX4_ofPage 6 = .ok (.invokevirtual 160, 3) := by decide +kernel
theorem dX4_ofPage_9 : decode cX4_ofPage 9 = .ok (.iload_n 2, 1) := by decide +kernel
theorem dX4_ofPage_10 : decode cX4_ofPage 10 = .ok (.iconst 0, 1) := by decide +kernel
theorem dX4_ofPage_11 : decode cX4_ofPage 11 = .ok (.iconst 4, 1) := by decide +kernel
theorem dX4_ofPage_12 : decode cX4_ofPage 12 = .ok (.invokestatic 47, 3) := by decide +kernel
theorem dX4_ofPage_15 : decode cX4_ofPage 15 = .ok (.aload_n 0, 1) := by decide +kernel
theorem dX4_ofPage_16 : decode cX4_ofPage 16 = .ok (.iload_n 1, 1) := by decide +kernel
theorem dX4_ofPage_17 : decode cX4_ofPage 17 = .ok (.iload_n 2, 1) := by decide +kernel
theorem dX4_ofPage_18 : decode cX4_ofPage 18 = .ok (.invokevirtual 163, 3) := by decide +kernel
theorem dX4_ofPage_21 : decode cX4_ofPage 21 = .ok (.ireturn, 1) := by decide +kernel
set_option maxRecDepth 20000 in
theorem ggX4_carried_X4_refresh : GoodIn wsX4_carried wsX4_refresh := goodIn_r _ [7, 8, 2, 1, 9, 10, 11, 12, 13, 14, 15, 16, 17, 18, 19, 20, 21, 22, 23, 24, 25, 26, 27, 28, 29, 30, 31, 32, 33, 34, 35, 36, 37, 38, 39, 40, 41, 42, 43, 44, 45, 46, 47, 48, 49, 50, 51, 52, 53, 54, 55, 56, 57, 58, 59, 60, 61, 62, 63, 64, 65, 66, 67, 68, 69, 70, 71, 72, 73, 74, 75, 76, 77, 78, 79, 80, 81, 82, 83, 84, 85, 86, 87, 88, 89, 90, 91, 92, 93, 94, 95, 96, 97, 98, 99, 100, 101, 102, 103, 104, 105, 106, 107, 108, 109, 110, 111, 112, 113, 114, 115, 116, 117, 118, 119, 120, 121, 122, 123, 124, 125, 126, 127, 128, 129, 130, 131, 132, 133, 134, 157, 158, 159, 160, 161, 162, 163, 164, 165, 166, 167, 168, 169, 170, 171, 172, 173, 174, 175, 176, 177, 178, 179, 180, 181, 182, 183, 184, 185, 186, 187, 188, 189, 190, 191, 192, 193, 194, 195, 196, 197, 198] (by decide +kernel) (by decide +kernel)
set_option maxRecDepth 20000 in
theorem gX4_carried_X4_refresh : GoodIn wsX4_carried (wsV RX4 131 RX4 yX4_refresh wsX4_refresh) := goodIn_app (goodIn_of _ (by decide +kernel)) ggX4_carried_X4_refresh
set_option maxRecDepth 20000 in
theorem ggX4_carried_X4_requirePage : GoodIn wsX4_carried wsX4_requirePage := goodIn_ca (goodIn_r _ [138, 139, 140, 1, 141, 142, 143, 69, 144, 73, 72, 71, 157, 158, 159, 160, 161, 162, 163, 164, 185, 186, 187, 188, 189, 190, 191, 192, 193, 194, 195, 196, 197, 198, 182, 183, 184] (by decide +kernel) (by decide +kernel)) (goodIn_sub (fun _ h => List.mem_cons_of_mem _ (List.mem_append_right _ h)) (by decide +kernel))
set_option maxRecDepth 20000 in
theorem gX4_carried_X4_requirePage : GoodIn wsX4_carried (wsV RX4 160 RX4 yX4_requirePage wsX4_requirePage) := goodIn_app (goodIn_of _ (by decide +kernel)) ggX4_carried_X4_requirePage
set_option maxRecDepth 20000 in
theorem ggX4_carried_X4_requireColumn : GoodIn wsX4_carried wsX4_requireColumn := goodIn_ca (goodIn_r _ [148, 139, 140, 2, 157, 158, 159, 160, 161, 162, 163, 164, 165, 166, 167, 168, 169, 170, 171, 172, 173] (by decide +kernel) (by decide +kernel)) (goodIn_sub (fun _ h => List.mem_cons_of_mem _ (List.mem_append_right _ h)) (by decide +kernel))
set_option maxRecDepth 20000 in
theorem gX4_carried_X4_requireColumn : GoodIn wsX4_carried (wsV RX4 58 RX4 yX4_requireColumn wsX4_requireColumn) := goodIn_app (goodIn_of _ (by decide +kernel)) ggX4_carried_X4_requireColumn
set_option maxRecDepth 20000 in
theorem ggX4_carried_X2_chosen : GoodIn wsX4_carried wsX2_chosen := goodIn_r _ [144, 73, 72, 71, 182, 183, 184] (by decide +kernel) (by decide +kernel)
set_option maxRecDepth 20000 in
theorem gX4_carried_X2_chosen : GoodIn wsX4_carried (wsV RX4 143 RX2 yX2_chosen wsX2_chosen) := goodIn_app (goodIn_of _ (by decide +kernel)) ggX4_carried_X2_chosen
set_option maxRecDepth 20000 in
theorem ggX4_carried_X0_carriedOn : GoodIn wsX4_carried wsX0_carriedOn := goodIn_r _ [152, 116, 153, 154, 155, 14, 156, 17, 23, 185, 186, 187, 188, 189, 190, 191, 192, 193, 194, 195, 196, 197, 198, 165, 166, 167, 168, 169, 170, 171, 172, 173, 174, 175, 176, 177, 178, 179, 180, 181] (by decide +kernel) (by decide +kernel)
set_option maxRecDepth 20000 in
theorem gX4_carried_X0_carriedOn : GoodIn wsX4_carried (wsV RX4 166 RX0 yX0_carriedOn wsX0_carriedOn) := goodIn_app (goodIn_of _ (by decide +kernel)) ggX4_carried_X0_carriedOn
theorem dX4_carried_0 : decode cX4_carried 0 = .ok (.aload_n 0, 1) := by decide +kernel
theorem dX4_carried_1 : decode cX4_carried 1 = .ok (.invokevirtual 131, 3) := by decide +kernel
theorem dX4_carried_4 : decode cX4_carried 4 = .ok (.aload_n 0, 1) := by decide +kernel
theorem dX4_carried_5 : decode cX4_carried 5 = .ok (.iload_n 1, 1) := by decide +kernel
theorem dX4_carried_6 : decode cX4_carried 6 = .ok (.invokevirtual 160, 3) := by decide +kernel
theorem dX4_carried_9 : decode cX4_carried 9 = .ok (.aload_n 0, 1) := by decide +kernel
theorem dX4_carried_10 : decode cX4_carried 10 = .ok (.iload_n 2, 1) := by decide +kernel
theorem dX4_carried_11 : decode cX4_carried 11 = .ok (.invokevirtual 58, 3) := by decide +kernel
theorem dX4_carried_14 : decode cX4_carried 14 = .ok (.aload_n 0, 1) := by decide +kernel
theorem dX4_carried_15 : decode cX4_carried 15 = .ok (.getfield 19, 3) := by decide +kernel
theorem dX4_carried_18 : decode cX4_carried 18 = .ok (.invokevirtual 143, 3) := by decide +kernel
theorem dX4_carried_21 : decode cX4_carried 21 = .ok (.aload_n 0, 1) := by decide +kernel
theorem dX4_carried_22 : decode cX4_carried 22 = .ok (.getfield 12, 3) := by decide +kernel
theorem dX4_carried_25 : decode cX4_carried 25 = .ok (.iload_n 1, 1) := by decide +kernel
theorem dX4_carried_26 : decode cX4_carried 26 = .ok (.iload_n 2, 1) := by decide +kernel
theorem dX4_carried_27 : decode cX4_carried 27 = .ok (.invokevirtual 166, 3) := by decide +kernel
theorem dX4_carried_30 : decode cX4_carried 30 = .ok (.ireturn, 1) := by decide +kernel
set_option maxRecDepth 20000 in
theorem ggX4_many_X4_requireRange : GoodIn wsX4_many wsX4_requireRange := goodIn_ca (goodIn_r _ [4, 5, 6] (by decide +kernel) (by decide +kernel)) (goodIn_sub (fun _ h => List.mem_cons_of_mem _ (List.mem_append_right _ h)) (by decide +kernel))
set_option maxRecDepth 20000 in
theorem gX4_many_X4_requireRange : GoodIn wsX4_many (va_wsS RX4 47 yX4_requireRange wsX4_requireRange) := goodIn_app (goodIn_of _ (by decide +kernel)) ggX4_many_X4_requireRange
set_option maxRecDepth 20000 in
theorem ggX4_many_X4_refresh : GoodIn wsX4_many wsX4_refresh := goodIn_r _ [10, 11, 12, 13, 14, 15, 16, 17, 18, 19, 20, 21, 22, 23, 24, 25, 26, 27, 28, 29, 30, 31, 32, 33, 34, 35, 36, 37, 38, 39, 40, 41, 42, 43, 44, 45, 46, 47, 48, 49, 50, 51, 52, 53, 54, 55, 56, 57, 58, 59, 60, 61, 62, 63, 64, 65, 66, 67, 68, 69, 70, 71, 72, 73, 74, 75, 76, 77, 78, 79, 80, 81, 82, 83, 84, 85, 86, 87, 88, 89, 90, 91, 92, 93, 94, 95, 96, 97, 98, 99, 100, 101, 102, 103, 104, 105, 106, 107, 108, 109, 110, 111, 112, 113, 114, 115, 116, 117, 118, 119, 120, 121, 122, 123, 124, 125, 126, 127, 128, 129, 130, 131, 132, 133, 134, 135, 136, 137, 138, 139, 165, 166, 167, 168, 169, 170, 171, 172, 173, 174, 175, 176, 177, 178, 179, 180, 181, 182, 183, 184, 185, 186, 187, 188, 189, 190, 191, 192, 193, 194, 195, 196, 197, 198, 199, 200, 201, 202, 203, 204, 205, 206] (by decide +kernel) (by decide +kernel)
set_option maxRecDepth 20000 in
theorem gX4_many_X4_refresh : GoodIn wsX4_many (wsV RX4 131 RX4 yX4_refresh wsX4_refresh) := goodIn_app (goodIn_of _ (by decide +kernel)) ggX4_many_X4_refresh
set_option maxRecDepth 20000 in
theorem ggX4_many_X4_factOfTable : GoodIn wsX4_many wsX4_factOfTable := goodIn_r _ [143, 13, 12, 144, 145, 146, 74, 147, 78, 77, 76, 148, 149, 150, 82, 151, 85, 86, 152, 95, 96, 97, 93, 153, 154, 155, 156, 107, 157, 158, 159, 19, 160, 27, 28, 161, 162, 163, 164, 126, 139, 165, 166, 167, 168, 169, 170, 171, 172, 173, 174, 175, 176, 177, 178, 179, 180, 181, 193, 194, 195, 196, 197, 198, 199, 200, 201, 202, 203, 204, 205, 206, 190, 191, 192, 182, 183, 184, 185, 186, 187, 188, 189] (by decide +kernel) (by decide +kernel)
set_option maxRecDepth 20000 in
theorem gX4_many_X4_factOfTable : GoodIn wsX4_many (wsV RX4 170 RX4 yX4_factOfTable wsX4_factOfTable) := goodIn_app (goodIn_of _ (by decide +kernel)) ggX4_many_X4_factOfTable
theorem dX4_many_0 : decode cX4_many 0 = .ok (.iload_n 1, 1) := by decide +kernel
theorem dX4_many_1 : decode cX4_many 1 = .ok (.iconst 0, 1) := by decide +kernel
theorem dX4_many_2 : decode cX4_many 2 = .ok (.bipush 7, 2) := by decide +kernel
theorem dX4_many_4 : decode cX4_many 4 = .ok (.invokestatic 47, 3) := by decide +kernel
theorem dX4_many_7 : decode cX4_many 7 = .ok (.aload_n 0, 1) := by decide +kernel
theorem dX4_many_8 : decode cX4_many 8 = .ok (.invokevirtual 131, 3) := by decide +kernel
theorem dX4_many_11 : decode cX4_many 11 = .ok (.aload_n 0, 1) := by decide +kernel
theorem dX4_many_12 : decode cX4_many 12 = .ok (.iload_n 1, 1) := by decide +kernel
theorem dX4_many_13 : decode cX4_many 13 = .ok (.invokevirtual 170, 3) := by decide +kernel
theorem dX4_many_16 : decode cX4_many 16 = .ok (.ireturn, 1) := by decide +kernel
set_option maxRecDepth 20000 in
theorem ggX4_pagesWith_X4_requireRange : GoodIn wsX4_pagesWith wsX4_requireRange := goodIn_ca (goodIn_r _ [4, 5, 6] (by decide +kernel) (by decide +kernel)) (goodIn_sub (fun _ h => List.mem_cons_of_mem _ (List.mem_append_right _ h)) (by decide +kernel))
set_option maxRecDepth 20000 in
theorem gX4_pagesWith_X4_requireRange : GoodIn wsX4_pagesWith (va_wsS RX4 47 yX4_requireRange wsX4_requireRange) := goodIn_app (goodIn_of _ (by decide +kernel)) ggX4_pagesWith_X4_requireRange
set_option maxRecDepth 20000 in
theorem ggX4_pagesWith_X4_refresh : GoodIn wsX4_pagesWith wsX4_refresh := goodIn_r _ [10, 11, 12, 13, 14, 15, 16, 17, 18, 19, 20, 21, 22, 23, 24, 25, 26, 27, 28, 29, 30, 31, 32, 33, 34, 35, 36, 37, 38, 39, 40, 41, 42, 43, 44, 45, 46, 47, 48, 49, 50, 51, 52, 53, 54, 55, 56, 57, 58, 59, 60, 61, 62, 63, 64, 65, 66, 67, 68, 69, 70, 71, 72, 73, 74, 75, 76, 77, 78, 79, 80, 81, 82, 83, 84, 85, 86, 87, 88, 89, 90, 91, 92, 93, 94, 95, 96, 97, 98, 99, 100, 101, 102, 103, 104, 105, 106, 107, 108, 109, 110, 111, 112, 113, 114, 115, 116, 117, 118, 119, 120, 121, 122, 123, 124, 125, 126, 127, 128, 129, 130, 131, 132, 133, 134, 135, 136, 137, 138, 139, 150, 151, 152, 153, 154, 155, 156, 157, 158, 159, 160, 161, 162, 163, 164, 165, 166, 167, 168, 169, 170, 171, 172, 173, 174, 175, 176, 177, 178, 179, 180, 181, 182, 183, 184, 185, 186, 187, 188, 189, 190, 191] (by decide +kernel) (by decide +kernel)
set_option maxRecDepth 20000 in
theorem gX4_pagesWith_X4_refresh : GoodIn wsX4_pagesWith (wsV RX4 131 RX4 yX4_refresh wsX4_refresh) := goodIn_app (goodIn_of _ (by decide +kernel)) ggX4_pagesWith_X4_refresh
set_option maxRecDepth 20000 in
theorem ggX4_pagesWith_X4_pagesIn : GoodIn wsX4_pagesWith wsX4_pagesIn := goodIn_r _ [143, 144, 12, 145, 80, 81, 82, 83, 84, 85, 86, 87, 88, 89, 90, 91, 92, 93, 94, 95, 96, 97, 98, 99, 100, 101, 102, 103, 104, 105, 106, 53, 42, 54, 107, 108, 109, 110, 111, 112, 61, 62, 19, 63, 21, 28, 113, 114, 115, 116, 117, 118, 119, 120, 121, 122, 123, 124, 125, 126, 127, 128, 129, 130, 131, 132, 133, 134, 135, 136, 137, 138, 139, 146, 147, 148, 149, 150, 151, 152, 153, 154, 155, 156, 157, 178, 179, 180, 181, 182, 183, 184, 185, 186, 187, 188, 189, 190, 191, 158, 159, 160, 161, 162, 163, 164, 165, 166, 167, 168, 169, 170, 171, 172, 173, 174] (by decide +kernel) (by decide +kernel)
set_option maxRecDepth 20000 in
theorem gX4_pagesWith_X4_pagesIn : GoodIn wsX4_pagesWith (wsV RX4 180 RX4 yX4_pagesIn wsX4_pagesIn) := goodIn_app (goodIn_of _ (by decide +kernel)) ggX4_pagesWith_X4_pagesIn
theorem dX4_pagesWith_0 : decode cX4_pagesWith 0 = .ok (.iload_n 1, 1) := by decide +kernel
theorem dX4_pagesWith_1 : decode cX4_pagesWith 1 = .ok (.bipush 10, 2) := by decide +kernel
theorem dX4_pagesWith_3 : decode cX4_pagesWith 3 = .ok (.bipush 60, 2) := by decide +kernel
theorem dX4_pagesWith_5 : decode cX4_pagesWith 5 = .ok (.invokestatic 47, 3) := by decide +kernel
theorem dX4_pagesWith_8 : decode cX4_pagesWith 8 = .ok (.iload_n 2, 1) := by decide +kernel
theorem dX4_pagesWith_9 : decode cX4_pagesWith 9 = .ok (.bipush 10, 2) := by decide +kernel
theorem dX4_pagesWith_11 : decode cX4_pagesWith 11 = .ok (.bipush 60, 2) := by decide +kernel
theorem dX4_pagesWith_13 : decode cX4_pagesWith 13 = .ok (.invokestatic 47, 3) := by decide +kernel
theorem dX4_pagesWith_16 : decode cX4_pagesWith 16 = .ok (.aload_n 0, 1) := by decide +kernel
theorem dX4_pagesWith_17 : decode cX4_pagesWith 17 = .ok (.invokevirtual 131, 3) := by decide +kernel
theorem dX4_pagesWith_20 : decode cX4_pagesWith 20 = .ok (.iload_n 3, 1) := by decide +kernel
theorem dX4_pagesWith_21 : decode cX4_pagesWith 21 = .ok (.ifCond .eq 12, 3) := by decide +kernel
theorem dX4_pagesWith_24 : decode cX4_pagesWith 24 = .ok (.aload_n 0, 1) := by decide +kernel
theorem dX4_pagesWith_25 : decode cX4_pagesWith 25 = .ok (.iload_n 2, 1) := by decide +kernel
theorem dX4_pagesWith_26 : decode cX4_pagesWith 26 = .ok (.iload_n 1, 1) := by decide +kernel
theorem dX4_pagesWith_27 : decode cX4_pagesWith 27 = .ok (.invokevirtual 180, 3) := by decide +kernel
theorem dX4_pagesWith_30 : decode cX4_pagesWith 30 = .ok (.goto 9, 3) := by decide +kernel
theorem dX4_pagesWith_33 : decode cX4_pagesWith 33 = .ok (.aload_n 0, 1) := by decide +kernel
theorem dX4_pagesWith_34 : decode cX4_pagesWith 34 = .ok (.iload_n 1, 1) := by decide +kernel
theorem dX4_pagesWith_35 : decode cX4_pagesWith 35 = .ok (.iload_n 2, 1) := by decide +kernel
theorem dX4_pagesWith_36 : decode cX4_pagesWith 36 = .ok (.invokevirtual 180, 3) := by decide +kernel
theorem dX4_pagesWith_39 : decode cX4_pagesWith 39 = .ok (.ireturn, 1) := by decide +kernel
set_option maxRecDepth 20000 in
theorem ggX4_changedBy_X4_requireNumberCell : GoodIn wsX4_changedBy wsX4_requireNumberCell := goodIn_ca (goodIn_ca (goodIn_r _ [12, 13, 14, 15, 11, 16, 17, 18, 3, 19, 20, 21, 22, 23, 24, 25, 26, 27, 28, 29, 30, 31, 196, 197, 198, 199, 200, 201, 202, 203, 204, 205, 206, 207, 208, 209, 210, 211, 212] (by decide +kernel) (by decide +kernel)) (goodIn_sub (fun _ h => List.mem_cons_of_mem _ (List.mem_append_left _ (List.mem_append_right _ h))) (by decide +kernel))) (goodIn_sub (fun _ h => List.mem_cons_of_mem _ (List.mem_append_right _ h)) (by decide +kernel))
set_option maxRecDepth 20000 in
theorem gX4_changedBy_X4_requireNumberCell : GoodIn wsX4_changedBy (wsV RX4 92 RX4 yX4_requireNumberCell wsX4_requireNumberCell) := goodIn_app (goodIn_of _ (by decide +kernel)) ggX4_changedBy_X4_requireNumberCell
set_option maxRecDepth 20000 in
theorem ggX4_changedBy_X4_refresh : GoodIn wsX4_changedBy wsX4_refresh := goodIn_r _ [35, 36, 3, 1, 37, 38, 39, 40, 41, 42, 43, 44, 45, 46, 47, 48, 49, 50, 51, 52, 53, 54, 55, 56, 57, 58, 59, 60, 61, 62, 63, 64, 6, 65, 66, 67, 68, 69, 70, 71, 72, 73, 74, 5, 7, 75, 76, 77, 78, 79, 80, 81, 82, 83, 84, 85, 86, 87, 88, 89, 90, 91, 92, 93, 94, 95, 96, 97, 98, 99, 100, 101, 102, 103, 104, 105, 106, 107, 108, 109, 110, 111, 112, 113, 114, 115, 116, 117, 118, 119, 120, 121, 122, 123, 124, 125, 126, 127, 128, 129, 130, 131, 132, 133, 134, 135, 136, 137, 138, 139, 140, 141, 142, 143, 144, 145, 146, 147, 148, 149, 150, 151, 152, 153, 154, 155, 156, 157, 158, 159, 196, 197, 198, 199, 200, 201, 202, 203, 204, 205, 206, 207, 208, 209, 210, 211, 212, 213, 214, 215, 216, 217, 218, 219, 220, 235, 236, 237, 221, 222, 223, 224, 225, 226, 227, 228, 229, 230, 231, 232, 233, 234] (by decide +kernel) (by decide +kernel)
set_option maxRecDepth 20000 in
theorem gX4_changedBy_X4_refresh : GoodIn wsX4_changedBy (wsV RX4 131 RX4 yX4_refresh wsX4_refresh) := goodIn_app (goodIn_of _ (by decide +kernel)) ggX4_changedBy_X4_refresh
set_option maxRecDepth 20000 in
theorem ggX4_changedBy_X2_chosen : GoodIn wsX4_changedBy wsX2_chosen := goodIn_r _ [163, 98, 97, 96, 235, 236, 237] (by decide +kernel) (by decide +kernel)
set_option maxRecDepth 20000 in
theorem gX4_changedBy_X2_chosen : GoodIn wsX4_changedBy (wsV RX4 143 RX2 yX2_chosen wsX2_chosen) := goodIn_app (goodIn_of _ (by decide +kernel)) ggX4_changedBy_X2_chosen
set_option maxRecDepth 20000 in
theorem ggX4_changedBy_X3_copyFrom : GoodIn wsX4_changedBy wsX3_copyFrom := goodIn_r _ [167, 44, 45, 73, 56, 57, 50, 51, 168, 169, 170, 171, 172, 173, 174, 175, 176, 177, 178, 204, 205, 206, 207, 208, 209, 210, 211, 212, 213, 214, 215, 216, 217, 218, 219, 220] (by decide +kernel) (by decide +kernel)
set_option maxRecDepth 20000 in
theorem gX4_changedBy_X3_copyFrom : GoodIn wsX4_changedBy (wsV RX4 183 RX3 yX3_copyFrom wsX3_copyFrom) := goodIn_app (goodIn_of _ (by decide +kernel)) ggX4_changedBy_X3_copyFrom
set_option maxRecDepth 20000 in
theorem ggX4_changedBy_X4_layoutOfTrial : GoodIn wsX4_changedBy wsX4_layoutOfTrial := goodIn_r _ [182, 2, 183, 37, 38, 39, 40, 41, 42, 43, 44, 45, 46, 47, 48, 49, 50, 51, 52, 53, 54, 55, 56, 57, 58, 59, 60, 61, 62, 63, 64, 6, 65, 66, 67, 68, 69, 70, 71, 72, 73, 74, 5, 7, 75, 76, 77, 78, 79, 80, 81, 82, 83, 84, 85, 86, 87, 88, 89, 90, 91, 92, 93, 94, 95, 96, 97, 98, 99, 100, 101, 102, 103, 104, 105, 106, 107, 108, 109, 110, 111, 112, 113, 114, 115, 116, 117, 118, 119, 120, 121, 122, 123, 124, 125, 126, 127, 128, 129, 130, 131, 132, 133, 134, 135, 136, 137, 138, 139, 140, 141, 142, 143, 144, 145, 146, 147, 148, 149, 150, 151, 152, 153, 154, 155, 156, 157, 158, 159, 160, 161, 162, 163, 196, 197, 198, 199, 200, 201, 202, 203, 204, 205, 206, 207, 208, 209, 210, 211, 212, 213, 214, 215, 216, 217, 218, 219, 220, 235, 236, 237, 221, 222, 223, 224, 225, 226, 227, 228, 229, 230, 231, 232, 233, 234] (by decide +kernel) (by decide +kernel)
set_option maxRecDepth 20000 in
theorem gX4_changedBy_X4_layoutOfTrial : GoodIn wsX4_changedBy (wsV RX4 187 RX4 yX4_layoutOfTrial wsX4_layoutOfTrial) := goodIn_app (goodIn_of _ (by decide +kernel)) ggX4_changedBy_X4_layoutOfTrial
set_option maxRecDepth 20000 in
theorem ggX4_changedBy_X4_isPageOther : GoodIn wsX4_changedBy wsX4_isPageOther := goodIn_r _ [187, 3, 2, 188, 189, 190, 102, 191, 141, 192, 193, 194, 42, 195, 45, 51, 221, 222, 223, 224, 225, 226, 227, 228, 229, 230, 231, 232, 233, 234, 196, 197, 198, 199, 200, 201, 202, 203, 204, 205, 206, 207, 208, 209, 210, 211, 212, 213, 214, 215, 216, 217, 218, 219, 220] (by decide +kernel) (by decide +kernel)
set_option maxRecDepth 20000 in
theorem gX4_changedBy_X4_isPageOther : GoodIn wsX4_changedBy (wsV RX4 193 RX4 yX4_isPageOther wsX4_isPageOther) := goodIn_app (goodIn_of _ (by decide +kernel)) ggX4_changedBy_X4_isPageOther
theorem dX4_changedBy_0 : decode cX4_changedBy 0 = .ok (.aload_n 0, 1) := by decide +kernel
theorem dX4_changedBy_1 : decode cX4_changedBy 1 = .ok (.iload_n 1, 1) := by decide +kernel
theorem dX4_changedBy_2 : decode cX4_changedBy 2 = .ok (.iload_n 2, 1) := by decide +kernel
theorem dX4_changedBy_3 : decode cX4_changedBy 3 = .ok (.iload_n 3, 1) := by decide +kernel
theorem dX4_changedBy_4 : decode cX4_changedBy 4 = .ok (.invokevirtual 92, 3) := by decide +kernel
theorem dX4_changedBy_7 : decode cX4_changedBy 7 = .ok (.aload_n 0, 1) := by decide +kernel
theorem dX4_changedBy_8 : decode cX4_changedBy 8 = .ok (.invokevirtual 131, 3) := by decide +kernel
theorem dX4_changedBy_11 : decode cX4_changedBy 11 = .ok (.aload_n 0, 1) := by decide +kernel
theorem dX4_changedBy_12 : decode cX4_changedBy 12 = .ok (.getfield 19, 3) := by decide +kernel
theorem dX4_changedBy_15 : decode cX4_changedBy 15 = .ok (.invokevirtual 143, 3) := by decide +kernel
theorem dX4_changedBy_18 : decode cX4_changedBy 18 = .ok (.astore 4, 2) := by decide +kernel
theorem dX4_changedBy_20 : decode cX4_changedBy 20 = .ok (.aload_n 0, 1) := by decide +kernel
theorem dX4_changedBy_21 : decode cX4_changedBy 21 = .ok (.getfield 34, 3) := by decide +kernel
theorem dX4_changedBy_24 : decode cX4_changedBy 24 = .ok (.aload_n 0, 1) := by decide +kernel
theorem dX4_changedBy_25 : decode cX4_changedBy 25 = .ok (.getfield 12, 3) := by decide +kernel
theorem dX4_changedBy_28 : decode cX4_changedBy 28 = .ok (.invokevirtual 183, 3) := by decide +kernel
theorem dX4_changedBy_31 : decode cX4_changedBy 31 = .ok (.aload_n 0, 1) := by decide +kernel
theorem dX4_changedBy_32 : decode cX4_changedBy 32 = .ok (.getfield 34, 3) := by decide +kernel
theorem dX4_changedBy_35 : decode cX4_changedBy 35 = .ok (.getfield 95, 3) := by decide +kernel
theorem dX4_changedBy_38 : decode cX4_changedBy 38 = .ok (.iload_n 1, 1) := by decide +kernel
theorem dX4_changedBy_39 : decode cX4_changedBy 39 = .ok (.aaload, 1) := by decide +kernel
theorem dX4_changedBy_40 : decode cX4_changedBy 40 = .ok (.getfield 99, 3) := by decide +kernel
theorem dX4_changedBy_43 : decode cX4_changedBy 43 = .ok (.iload_n 2, 1) := by decide +kernel
theorem dX4_changedBy_44 : decode cX4_changedBy 44 = .ok (.iload_n 3, 1) := by decide +kernel
theorem dX4_changedBy_45 : decode cX4_changedBy 45 = .ok (.iastore, 1) := by decide +kernel
theorem dX4_changedBy_46 : decode cX4_changedBy 46 = .ok (.aload_n 0, 1) := by decide +kernel
theorem dX4_changedBy_47 : decode cX4_changedBy 47 = .ok (.invokevirtual 187, 3) := by decide +kernel
theorem dX4_changedBy_50 : decode cX4_changedBy 50 = .ok (.astore 5, 2) := by decide +kernel
theorem dX4_changedBy_52 : decode cX4_changedBy 52 = .ok (.aload 4, 2) := by decide +kernel
theorem dX4_changedBy_54 : decode cX4_changedBy 54 = .ok (.getfield 174, 3) := by decide +kernel
theorem dX4_changedBy_57 : decode cX4_changedBy 57 = .ok (.aload 5, 2) := by decide +kernel
theorem dX4_changedBy_59 : decode cX4_changedBy 59 = .ok (.getfield 174, 3) := by decide +kernel
theorem dX4_changedBy_62 : decode cX4_changedBy 62 = .ok (.invokestatic 190, 3) := by decide +kernel
theorem dX4_changedBy_65 : decode cX4_changedBy 65 = .ok (.istore 6, 2) := by decide +kernel
theorem dX4_changedBy_67 : decode cX4_changedBy 67 = .ok (.iconst 0, 1) := by decide +kernel
theorem dX4_changedBy_68 : decode cX4_changedBy 68 = .ok (.istore 7, 2) := by decide +kernel
theorem dX4_changedBy_70 : decode cX4_changedBy 70 = .ok (.iconst 0, 1) := by decide +kernel
theorem dX4_changedBy_71 : decode cX4_changedBy 71 = .ok (.istore 8, 2) := by decide +kernel
theorem dX4_changedBy_73 : decode cX4_changedBy 73 = .ok (.iload 8, 2) := by decide +kernel
theorem dX4_changedBy_75 : decode cX4_changedBy 75 = .ok (.iload 6, 2) := by decide +kernel
theorem dX4_changedBy_77 : decode cX4_changedBy 77 = .ok (.if_icmp .ge 57, 3) := by decide +kernel
theorem dX4_changedBy_80 : decode cX4_changedBy 80 = .ok (.iload 8, 2) := by decide +kernel
theorem dX4_changedBy_82 : decode cX4_changedBy 82 = .ok (.aload 4, 2) := by decide +kernel
theorem dX4_changedBy_84 : decode cX4_changedBy 84 = .ok (.getfield 174, 3) := by decide +kernel
theorem dX4_changedBy_87 : decode cX4_changedBy 87 = .ok (.if_icmp .ge 17, 3) := by decide +kernel
theorem dX4_changedBy_90 : decode cX4_changedBy 90 = .ok (.iload 8, 2) := by decide +kernel
theorem dX4_changedBy_92 : decode cX4_changedBy 92 = .ok (.aload 5, 2) := by decide +kernel
theorem dX4_changedBy_94 : decode cX4_changedBy 94 = .ok (.getfield 174, 3) := by decide +kernel
theorem dX4_changedBy_97 : decode cX4_changedBy 97 = .ok (.if_icmp .ge 7, 3) := by decide +kernel
theorem dX4_changedBy_100 : decode cX4_changedBy 100 = .ok (.iconst 1, 1) := by decide +kernel
theorem dX4_changedBy_101 : decode cX4_changedBy 101 = .ok (.goto 4, 3) := by decide +kernel
theorem dX4_changedBy_104 : decode cX4_changedBy 104 = .ok (.iconst 0, 1) := by decide +kernel
theorem dX4_changedBy_105 : decode cX4_changedBy 105 = .ok (.istore 9, 2) := by decide +kernel
theorem dX4_changedBy_107 : decode cX4_changedBy 107 = .ok (.iload 9, 2) := by decide +kernel
theorem dX4_changedBy_109 : decode cX4_changedBy 109 = .ok (.ifCond .eq 16, 3) := by decide +kernel
theorem dX4_changedBy_112 : decode cX4_changedBy 112 = .ok (.aload_n 0, 1) := by decide +kernel
theorem dX4_changedBy_113 : decode cX4_changedBy 113 = .ok (.aload 4, 2) := by decide +kernel
theorem dX4_changedBy_115 : decode cX4_changedBy 115 = .ok (.aload 5, 2) := by decide +kernel
theorem dX4_changedBy_117 : decode cX4_changedBy 117 = .ok (.iload 8, 2) := by decide +kernel
theorem dX4_changedBy_119 : decode cX4_changedBy 119 = .ok (.invokevirtual 193, 3) := by decide +kernel
theorem dX4_changedBy_122 : decode cX4_changedBy 122 = .ok (.ifCond .eq 6, 3) := by decide +kernel
theorem dX4_changedBy_125 : decode cX4_changedBy 125 = .ok (.iinc 7 1, 3) := by decide +kernel
theorem dX4_changedBy_128 : decode cX4_changedBy 128 = .ok (.iinc 8 1, 3) := by decide +kernel
theorem dX4_changedBy_131 : decode cX4_changedBy 131 = .ok (.goto (-58), 3) := by decide +kernel
theorem dX4_changedBy_134 : decode cX4_changedBy 134 = .ok (.iload 7, 2) := by decide +kernel
theorem dX4_changedBy_136 : decode cX4_changedBy 136 = .ok (.ireturn, 1) := by decide +kernel
set_option maxRecDepth 20000 in
theorem ggX4_digest_X4_refresh : GoodIn wsX4_digest wsX4_refresh := goodIn_r _ [8, 9, 2, 3, 10, 11, 12, 13, 14, 15, 16, 17, 18, 19, 20, 21, 22, 23, 24, 25, 26, 27, 28, 29, 30, 31, 32, 33, 34, 35, 36, 37, 38, 39, 40, 41, 42, 43, 44, 45, 46, 47, 48, 49, 50, 51, 52, 53, 54, 55, 56, 57, 58, 59, 60, 61, 62, 63, 64, 65, 66, 67, 68, 69, 70, 71, 72, 73, 74, 75, 76, 77, 78, 79, 80, 81, 82, 83, 84, 85, 86, 87, 88, 89, 90, 91, 92, 93, 94, 95, 96, 97, 98, 99, 100, 101, 102, 103, 104, 105, 106, 107, 108, 109, 110, 111, 112, 113, 114, 115, 116, 117, 118, 119, 120, 121, 122, 123, 124, 125, 126, 127, 128, 129, 130, 131, 132, 133, 134, 135, 212, 213, 214, 215, 216, 217, 218, 219, 220, 221, 222, 223, 224, 225, 226, 227, 228, 243, 244, 245, 246, 247, 248, 249, 250, 251, 252, 253, 229, 230, 231, 232, 233, 234, 235, 236, 237, 238, 239, 240, 241, 242] (by decide +kernel) (by decide +kernel)
set_option maxRecDepth 20000 in
theorem gX4_digest_X4_refresh : GoodIn wsX4_digest (wsV RX4 131 RX4 yX4_refresh wsX4_refresh) := goodIn_app (goodIn_of _ (by decide +kernel)) ggX4_digest_X4_refresh
set_option maxRecDepth 20000 in
theorem ggX4_digest_X4_factOfTable : GoodIn wsX4_digest wsX4_factOfTable := goodIn_r _ [139, 3, 2, 140, 141, 142, 70, 143, 74, 73, 72, 144, 145, 146, 78, 147, 81, 82, 148, 91, 92, 93, 89, 149, 150, 151, 152, 103, 153, 154, 155, 15, 156, 23, 24, 157, 158, 159, 160, 122, 135, 212, 213, 214, 215, 216, 217, 218, 219, 220, 221, 222, 223, 224, 225, 226, 227, 228, 229, 230, 231, 232, 233, 234, 235, 236, 237, 238, 239, 240, 241, 242, 251, 252, 253, 243, 244, 245, 246, 247, 248, 249, 250] (by decide +kernel) (by decide +kernel)
set_option maxRecDepth 20000 in
theorem gX4_digest_X4_factOfTable : GoodIn wsX4_digest (wsV RX4 170 RX4 yX4_factOfTable wsX4_factOfTable) := goodIn_app (goodIn_of _ (by decide +kernel)) ggX4_digest_X4_factOfTable
set_option maxRecDepth 20000 in
theorem ggX4_digest_X4_digestWith : GoodIn wsX4_digest wsX4_digestWith := goodIn_r _ [163, 164] (by decide +kernel) (by decide +kernel)
set_option maxRecDepth 20000 in
theorem gX4_digest_X4_digestWith : GoodIn wsX4_digest (va_wsS RX4 199 yX4_digestWith wsX4_digestWith) := goodIn_app (goodIn_of _ (by decide +kernel)) ggX4_digest_X4_digestWith
set_option maxRecDepth 20000 in
theorem ggX4_digest_X4_factOfColumn : GoodIn wsX4_digest wsX4_factOfColumn := goodIn_r _ [168, 3, 2, 140, 141, 142, 70, 143, 74, 73, 72, 169, 170, 171, 15, 172, 18, 24, 212, 213, 214, 215, 216, 217, 218, 219, 220, 221, 222, 223, 224, 225, 226, 227, 228, 229, 230, 231, 232, 233, 234, 235, 236, 237, 238, 239, 240, 241, 242, 251, 252, 253, 243, 244, 245, 246, 247, 248, 249, 250] (by decide +kernel) (by decide +kernel)
set_option maxRecDepth 20000 in
theorem gX4_digest_X4_factOfColumn : GoodIn wsX4_digest (wsV RX4 154 RX4 yX4_factOfColumn wsX4_factOfColumn) := goodIn_app (goodIn_of _ (by decide +kernel)) ggX4_digest_X4_factOfColumn
set_option maxRecDepth 20000 in
theorem ggX4_digest_X4_digestWithRow : GoodIn wsX4_digest wsX4_digestWithRow := goodIn_r _ [176, 2, 177, 178, 179, 7, 180, 3, 140, 141, 142, 70, 143, 74, 73, 72, 161, 162, 163, 164, 181, 182, 183, 184, 185, 105, 106, 78, 107, 89, 102, 49, 38, 50, 108, 57, 58, 15, 59, 17, 24, 169, 170, 171, 172, 18, 212, 213, 214, 215, 216, 217, 218, 219, 220, 221, 222, 223, 224, 225, 226, 227, 228, 229, 230, 231, 232, 233, 234, 235, 236, 237, 238, 239, 240, 241, 242, 251, 252, 253, 243, 244, 245, 246, 247, 248, 249, 250] (by decide +kernel) (by decide +kernel)
set_option maxRecDepth 20000 in
theorem gX4_digest_X4_digestWithRow : GoodIn wsX4_digest (wsV RX4 203 RX4 yX4_digestWithRow wsX4_digestWithRow) := goodIn_app (goodIn_of _ (by decide +kernel)) ggX4_digest_X4_digestWithRow
set_option maxRecDepth 20000 in
theorem ggX4_digest_X2_chosen : GoodIn wsX4_digest wsX2_chosen := goodIn_r _ [143, 74, 73, 72, 251, 252, 253] (by decide +kernel) (by decide +kernel)
set_option maxRecDepth 20000 in
theorem gX4_digest_X2_chosen : GoodIn wsX4_digest (wsV RX4 143 RX2 yX2_chosen wsX2_chosen) := goodIn_app (goodIn_of _ (by decide +kernel)) ggX4_digest_X2_chosen
set_option maxRecDepth 20000 in
theorem ggX4_digest_X4_digestWithPage : GoodIn wsX4_digest wsX4_digestWithPage := goodIn_r _ [189, 2, 3, 190, 191, 192, 7, 193, 140, 141, 142, 70, 143, 74, 73, 72, 194, 195, 196, 78, 197, 115, 135, 198, 199, 200, 161, 162, 163, 164, 201, 202, 203, 204, 117, 205, 170, 171, 15, 172, 18, 24, 212, 213, 214, 215, 216, 217, 218, 219, 220, 221, 222, 223, 224, 225, 226, 227, 228, 229, 230, 231, 232, 233, 234, 235, 236, 237, 238, 239, 240, 241, 242, 251, 252, 253, 243, 244, 245, 246, 247, 248, 249, 250] (by decide +kernel) (by decide +kernel)
set_option maxRecDepth 20000 in
theorem gX4_digest_X4_digestWithPage : GoodIn wsX4_digest (wsV RX4 206 RX4 yX4_digestWithPage wsX4_digestWithPage) := goodIn_app (goodIn_of _ (by decide +kernel)) ggX4_digest_X4_digestWithPage
set_option maxRecDepth 20000 in
theorem ggX4_digest_X4_pagesIn : GoodIn wsX4_digest wsX4_pagesIn := goodIn_r _ [209, 210, 2, 211, 76, 77, 78, 79, 80, 81, 82, 83, 84, 85, 86, 87, 88, 89, 90, 91, 92, 93, 94, 95, 96, 97, 98, 99, 100, 101, 102, 49, 38, 50, 103, 104, 105, 106, 107, 108, 57, 58, 15, 59, 17, 24, 109, 110, 111, 112, 113, 114, 115, 116, 117, 118, 119, 120, 121, 122, 123, 124, 125, 126, 127, 128, 129, 130, 131, 132, 133, 134, 135, 144, 145, 146, 147, 212, 213, 214, 215, 216, 217, 218, 219, 229, 230, 231, 232, 233, 234, 235, 236, 237, 238, 239, 240, 241, 242, 220, 221, 222, 223, 224, 225, 226, 227, 228, 243, 244, 245, 246, 247, 248, 249, 250] (by decide +kernel) (by decide +kernel)
set_option maxRecDepth 20000 in
theorem gX4_digest_X4_pagesIn : GoodIn wsX4_digest (wsV RX4 180 RX4 yX4_pagesIn wsX4_pagesIn) := goodIn_app (goodIn_of _ (by decide +kernel)) ggX4_digest_X4_pagesIn
theorem dX4_digest_0 : decode cX4_digest 0 = .ok (.aload_n 0, 1) := by decide +kernel
theorem dX4_digest_1 : decode cX4_digest 1 = .ok (.invokevirtual 131, 3) := by decide +kernel
theorem dX4_digest_4 : decode cX4_digest 4 = .ok (.ldc2_w 197, 3) := by decide +kernel
theorem dX4_digest_7 : decode cX4_digest 7 = .ok (.lstore_n 1, 1) := by decide +kernel
theorem dX4_digest_8 : decode cX4_digest 8 = .ok (.iconst 0, 1) := by decide +kernel
theorem dX4_digest_9 : decode cX4_digest 9 = .ok (.istore_n 3, 1) := by decide +kernel
theorem dX4_digest_10 : decode cX4_digest 10 = .ok (.iload_n 3, 1) := by decide +kernel
theorem dX4_digest_11 : decode cX4_digest 11 = .ok (.bipush 7, 2) := by decide +kernel
theorem dX4_digest_13 : decode cX4_digest 13 = .ok (.if_icmp .gt 19, 3) := by decide +kernel
theorem dX4_digest_16 : decode cX4_digest 16 = .ok (.lload_n 1, 1) := by decide +kernel
theorem dX4_digest_17 : decode cX4_digest 17 = .ok (.aload_n 0, 1) := by decide +kernel
theorem dX4_digest_18 : decode cX4_digest 18 = .ok (.iload_n 3, 1) := by decide +kernel
theorem dX4_digest_19 : decode cX4_digest 19 = .ok (.invokevirtual 170, 3) := by decide +kernel
theorem dX4_digest_22 : decode cX4_digest 22 = .ok (.invokestatic 199, 3) := by decide +kernel
theorem dX4_digest_25 : decode cX4_digest 25 = .ok (.lstore_n 1, 1) := by decide +kernel
theorem dX4_digest_26 : decode cX4_digest 26 = .ok (.iinc 3 1, 3) := by decide +kernel
theorem dX4_digest_29 : decode cX4_digest 29 = .ok (.goto (-19), 3) := by decide +kernel
theorem dX4_digest_32 : decode cX4_digest 32 = .ok (.iconst 0, 1) := by decide +kernel
theorem dX4_digest_33 : decode cX4_digest 33 = .ok (.istore_n 3, 1) := by decide +kernel
theorem dX4_digest_34 : decode cX4_digest 34 = .ok (.iload_n 3, 1) := by decide +kernel
theorem dX4_digest_35 : decode cX4_digest 35 = .ok (.aload_n 0, 1) := by decide +kernel
theorem dX4_digest_36 : decode cX4_digest 36 = .ok (.getfield 12, 3) := by decide +kernel
theorem dX4_digest_39 : decode cX4_digest 39 = .ok (.getfield 119, 3) := by decide +kernel
theorem dX4_digest_42 : decode cX4_digest 42 = .ok (.if_icmp .ge 36, 3) := by decide +kernel
theorem dX4_digest_45 : decode cX4_digest 45 = .ok (.iconst 0, 1) := by decide +kernel
theorem dX4_digest_46 : decode cX4_digest 46 = .ok (.istore 4, 2) := by decide +kernel
theorem dX4_digest_48 : decode cX4_digest 48 = .ok (.iload 4, 2) := by decide +kernel
theorem dX4_digest_50 : decode cX4_digest 50 = .ok (.iconst 4, 1) := by decide +kernel
theorem dX4_digest_51 : decode cX4_digest 51 = .ok (.if_icmp .gt 21, 3) := by decide +kernel
theorem dX4_digest_54 : decode cX4_digest 54 = .ok (.lload_n 1, 1) := by decide +kernel
theorem dX4_digest_55 : decode cX4_digest 55 = .ok (.aload_n 0, 1) := by decide +kernel
theorem dX4_digest_56 : decode cX4_digest 56 = .ok (.iload_n 3, 1) := by decide +kernel
theorem dX4_digest_57 : decode cX4_digest 57 = .ok (.iload 4, 2) := by decide +kernel
theorem dX4_digest_59 : decode cX4_digest 59 = .ok (.invokevirtual 154, 3) := by decide +kernel
theorem dX4_digest_62 : decode cX4_digest 62 = .ok (.invokestatic 199, 3) := by decide +kernel
theorem dX4_digest_65 : decode cX4_digest 65 = .ok (.lstore_n 1, 1) := by decide +kernel
theorem dX4_digest_66 : decode cX4_digest 66 = .ok (.iinc 4 1, 3) := by decide +kernel
theorem dX4_digest_69 : decode cX4_digest 69 = .ok (.goto (-21), 3) := by decide +kernel
theorem dX4_digest_72 : decode cX4_digest 72 = .ok (.iinc 3 1, 3) := by decide +kernel
theorem dX4_digest_75 : decode cX4_digest 75 = .ok (.goto (-41), 3) := by decide +kernel
theorem dX4_digest_78 : decode cX4_digest 78 = .ok (.iconst 0, 1) := by decide +kernel
theorem dX4_digest_79 : decode cX4_digest 79 = .ok (.istore_n 3, 1) := by decide +kernel
theorem dX4_digest_80 : decode cX4_digest 80 = .ok (.iload_n 3, 1) := by decide +kernel
theorem dX4_digest_81 : decode cX4_digest 81 = .ok (.aload_n 0, 1) := by decide +kernel
theorem dX4_digest_82 : decode cX4_digest 82 = .ok (.getfield 12, 3) := by decide +kernel
theorem dX4_digest_85 : decode cX4_digest 85 = .ok (.getfield 72, 3) := by decide +kernel
theorem dX4_digest_88 : decode cX4_digest 88 = .ok (.if_icmp .ge 16, 3) := by decide +kernel
theorem dX4_digest_91 : decode cX4_digest 91 = .ok (.aload_n 0, 1) := by decide +kernel
theorem dX4_digest_92 : decode cX4_digest 92 = .ok (.lload_n 1, 1) := by decide +kernel
theorem dX4_digest_93 : decode cX4_digest 93 = .ok (.iload_n 3, 1) := by decide +kernel
theorem dX4_digest_94 : decode cX4_digest 94 = .ok (.invokevirtual 203, 3) := by decide +kernel
theorem dX4_digest_97 : decode cX4_digest 97 = .ok (.lstore_n 1, 1) := by decide +kernel
theorem dX4_digest_98 : decode cX4_digest 98 = .ok (.iinc 3 1, 3) := by decide +kernel
theorem dX4_digest_101 : decode cX4_digest 101 = .ok (.goto (-21), 3) := by decide +kernel
theorem dX4_digest_104 : decode cX4_digest 104 = .ok (.aload_n 0, 1) := by decide +kernel
theorem dX4_digest_105 : decode cX4_digest 105 = .ok (.getfield 19, 3) := by decide +kernel
theorem dX4_digest_108 : decode cX4_digest 108 = .ok (.invokevirtual 143, 3) := by decide +kernel
theorem dX4_digest_111 : decode cX4_digest 111 = .ok (.getfield 174, 3) := by decide +kernel
theorem dX4_digest_114 : decode cX4_digest 114 = .ok (.istore_n 3, 1) := by decide +kernel
theorem dX4_digest_115 : decode cX4_digest 115 = .ok (.iconst 0, 1) := by decide +kernel
theorem dX4_digest_116 : decode cX4_digest 116 = .ok (.istore 4, 2) := by decide +kernel
theorem dX4_digest_118 : decode cX4_digest 118 = .ok (.iload 4, 2) := by decide +kernel
theorem dX4_digest_120 : decode cX4_digest 120 = .ok (.iload_n 3, 1) := by decide +kernel
theorem dX4_digest_121 : decode cX4_digest 121 = .ok (.if_icmp .ge 17, 3) := by decide +kernel
theorem dX4_digest_124 : decode cX4_digest 124 = .ok (.aload_n 0, 1) := by decide +kernel
theorem dX4_digest_125 : decode cX4_digest 125 = .ok (.lload_n 1, 1) := by decide +kernel
theorem dX4_digest_126 : decode cX4_digest 126 = .ok (.iload 4, 2) := by decide +kernel
theorem dX4_digest_128 : decode cX4_digest 128 = .ok (.invokevirtual 206, 3) := by decide +kernel
theorem dX4_digest_131 : decode cX4_digest 131 = .ok (.lstore_n 1, 1) := by decide +kernel
theorem dX4_digest_132 : decode cX4_digest 132 = .ok (.iinc 4 1, 3) := by decide +kernel
theorem dX4_digest_135 : decode cX4_digest 135 = .ok (.goto (-17), 3) := by decide +kernel
theorem dX4_digest_138 : decode cX4_digest 138 = .ok (.lload_n 1, 1) := by decide +kernel
theorem dX4_digest_139 : decode cX4_digest 139 = .ok (.aload_n 0, 1) := by decide +kernel
theorem dX4_digest_140 : decode cX4_digest 140 = .ok (.bipush 30, 2) := by decide +kernel
theorem dX4_digest_142 : decode cX4_digest 142 = .ok (.bipush 20, 2) := by decide +kernel
theorem dX4_digest_144 : decode cX4_digest 144 = .ok (.invokevirtual 180, 3) := by decide +kernel
theorem dX4_digest_147 : decode cX4_digest 147 = .ok (.invokestatic 199, 3) := by decide +kernel
theorem dX4_digest_150 : decode cX4_digest 150 = .ok (.lstore_n 1, 1) := by decide +kernel
theorem dX4_digest_151 : decode cX4_digest 151 = .ok (.lload_n 1, 1) := by decide +kernel
theorem dX4_digest_152 : decode cX4_digest 152 = .ok (.aload_n 0, 1) := by decide +kernel
theorem dX4_digest_153 : decode cX4_digest 153 = .ok (.bipush 20, 2) := by decide +kernel
theorem dX4_digest_155 : decode cX4_digest 155 = .ok (.bipush 30, 2) := by decide +kernel
theorem dX4_digest_157 : decode cX4_digest 157 = .ok (.invokevirtual 180, 3) := by decide +kernel
theorem dX4_digest_160 : decode cX4_digest 160 = .ok (.invokestatic 199, 3) := by decide +kernel
theorem dX4_digest_163 : decode cX4_digest 163 = .ok (.lreturn, 1) := by decide +kernel
theorem dX4_requireRange_0 : decode cX4_requireRange 0 = .ok (.iload_n 0, 1) := by decide +kernel
theorem dX4_requireRange_1 : decode cX4_requireRange 1 = .ok (.iload_n 1, 1) := by decide +kernel
theorem dX4_requireRange_2 : decode cX4_requireRange 2 = .ok (.if_icmp .lt 8, 3) := by decide +kernel
theorem dX4_requireRange_5 : decode cX4_requireRange 5 = .ok (.iload_n 0, 1) := by decide +kernel
theorem dX4_requireRange_6 : decode cX4_requireRange 6 = .ok (.iload_n 2, 1) := by decide +kernel
theorem dX4_requireRange_7 : decode cX4_requireRange 7 = .ok (.if_icmp .le 13, 3) := by decide +kernel
theorem dX4_requireRange_10 : decode cX4_requireRange 10 = .ok (.new 122, 3) := by decide +kernel
theorem dX4_requireRange_13 : decode cX4_requireRange 13 = .ok (.dup, 1) := by decide +kernel
theorem dX4_requireRange_14 : decode cX4_requireRange 14 = .ok (.ldc 209, 2) := by decide +kernel
theorem dX4_requireRange_16 : decode cX4_requireRange 16 = .ok (.invokespecial 126, 3) := by decide +kernel
theorem dX4_requireRange_19 : decode cX4_requireRange 19 = .ok (.athrow, 1) := by decide +kernel
theorem dX4_requireRange_20 : decode cX4_requireRange 20 = .ok (.return_, 1) := by decide +kernel
theorem dX4_requireRow_0 : decode cX4_requireRow 0 = .ok (.iload_n 1, 1) := by decide +kernel
theorem dX4_requireRow_1 : decode cX4_requireRow 1 = .ok (.ifCond .lt 14, 3) := by decide +kernel
theorem dX4_requireRow_4 : decode cX4_requireRow 4 = .ok (.iload_n 1, 1) := by decide +kernel
theorem dX4_requireRow_5 : decode cX4_requireRow 5 = .ok (.aload_n 0, 1) := by decide +kernel
theorem dX4_requireRow_6 : decode cX4_requireRow 6 = .ok (.getfield 12, 3) := by decide +kernel
theorem dX4_requireRow_9 : decode cX4_requireRow 9 = .ok (.getfield 72, 3) := by decide +kernel
theorem dX4_requireRow_12 : decode cX4_requireRow 12 = .ok (.if_icmp .lt 13, 3) := by decide +kernel
theorem dX4_requireRow_15 : decode cX4_requireRow 15 = .ok (.new 211, 3) := by decide +kernel
theorem dX4_requireRow_18 : decode cX4_requireRow 18 = .ok (.dup, 1) := by decide +kernel
theorem dX4_requireRow_19 : decode cX4_requireRow 19 = .ok (.ldc 213, 2) := by decide +kernel
theorem dX4_requireRow_21 : decode cX4_requireRow 21 = .ok (.invokespecial 215, 3) := by decide +kernel
theorem dX4_requireRow_24 : decode cX4_requireRow 24 = .ok (.athrow, 1) := by decide +kernel
theorem dX4_requireRow_25 : decode cX4_requireRow 25 = .ok (.return_, 1) := by decide +kernel
theorem dX4_requireColumn_0 : decode cX4_requireColumn 0 = .ok (.iload_n 1, 1) := by decide +kernel
theorem dX4_requireColumn_1 : decode cX4_requireColumn 1 = .ok (.ifCond .lt 14, 3) := by decide +kernel
theorem dX4_requireColumn_4 : decode cX4_requireColumn 4 = .ok (.iload_n 1, 1) := by decide +kernel
theorem dX4_requireColumn_5 : decode cX4_requireColumn 5 = .ok (.aload_n 0, 1) := by decide +kernel
theorem dX4_requireColumn_6 : decode cX4_requireColumn 6 = .ok (.getfield 12, 3) := by decide +kernel
theorem dX4_requireColumn_9 : decode cX4_requireColumn 9 = .ok (.getfield 119, 3) := by decide +kernel
theorem dX4_requireColumn_12 : decode cX4_requireColumn 12 = .ok (.if_icmp .lt 13, 3) := by decide +kernel
theorem dX4_requireColumn_15 : decode cX4_requireColumn 15 = .ok (.new 211, 3) := by decide +kernel
theorem dX4_requireColumn_18 : decode cX4_requireColumn 18 = .ok (.dup, 1) := by decide +kernel
theorem dX4_requireColumn_19 : decode cX4_requireColumn 19 = .ok (.ldc 216, 2) := by decide +kernel
theorem dX4_requireColumn_21 : decode cX4_requireColumn 21 = .ok (.invokespecial 215, 3) := by decide +kernel
theorem dX4_requireColumn_24 : decode cX4_requireColumn 24 = .ok (.athrow, 1) := by decide +kernel
theorem dX4_requireColumn_25 : decode cX4_requireColumn 25 = .ok (.return_, 1) := by decide +kernel
set_option maxRecDepth 20000 in
theorem ggX4_requirePage_X2_chosen : GoodIn wsX4_requirePage wsX2_chosen := goodIn_r _ [8, 9, 10, 11, 34, 35, 36] (by decide +kernel) (by decide +kernel)
set_option maxRecDepth 20000 in
theorem gX4_requirePage_X2_chosen : GoodIn wsX4_requirePage (wsV RX4 143 RX2 yX2_chosen wsX2_chosen) := goodIn_app (goodIn_of _ (by decide +kernel)) ggX4_requirePage_X2_chosen
theorem dX4_requirePage_0 : decode cX4_requirePage 0 = .ok (.iload_n 1, 1) := by decide +kernel
theorem dX4_requirePage_1 : decode cX4_requirePage 1 = .ok (.ifCond .lt 17, 3) := by decide +kernel
theorem dX4_requirePage_4 : decode cX4_requirePage 4 = .ok (.iload_n 1, 1) := by decide +kernel
theorem dX4_requirePage_5 : decode cX4_requirePage 5 = .ok (.aload_n 0, 1) := by decide +kernel
theorem dX4_requirePage_6 : decode cX4_requirePage 6 = .ok (.getfield 19, 3) := by decide +kernel
theorem dX4_requirePage_9 : decode cX4_requirePage 9 = .ok (.invokevirtual 143, 3) := by decide +kernel
theorem dX4_requirePage_12 : decode cX4_requirePage 12 = .ok (.getfield 174, 3) := by decide +kernel
theorem dX4_requirePage_15 : decode cX4_requirePage 15 = .ok (.if_icmp .lt 13, 3) := by decide +kernel
theorem dX4_requirePage_18 : decode cX4_requirePage 18 = .ok (.new 211, 3) := by decide +kernel
theorem dX4_requirePage_21 : decode cX4_requirePage 21 = .ok (.dup, 1) := by decide +kernel
theorem dX4_requirePage_22 : decode cX4_requirePage 22 = .ok (.ldc 218, 2) := by decide +kernel
theorem dX4_requirePage_24 : decode cX4_requirePage 24 = .ok (.invokespecial 215, 3) := by decide +kernel
theorem dX4_requirePage_27 : decode cX4_requirePage 27 = .ok (.athrow, 1) := by decide +kernel
theorem dX4_requirePage_28 : decode cX4_requirePage 28 = .ok (.return_, 1) := by decide +kernel
theorem dX4_requireKind_0 : decode cX4_requireKind 0 = .ok (.aload_n 0, 1) := by decide +kernel
theorem dX4_requireKind_1 : decode cX4_requireKind 1 = .ok (.getfield 12, 3) := by decide +kernel
theorem dX4_requireKind_4 : decode cX4_requireKind 4 = .ok (.getfield 220, 3) := by decide +kernel
theorem dX4_requireKind_7 : decode cX4_requireKind 7 = .ok (.iload_n 1, 1) := by decide +kernel
theorem dX4_requireKind_8 : decode cX4_requireKind 8 = .ok (.iaload, 1) := by decide +kernel
theorem dX4_requireKind_9 : decode cX4_requireKind 9 = .ok (.iload_n 2, 1) := by decide +kernel
theorem dX4_requireKind_10 : decode cX4_requireKind 10 = .ok (.if_icmp .eq 13, 3) := by decide +kernel
theorem dX4_requireKind_13 : decode cX4_requireKind 13 = .ok (.new 122, 3) := by decide +kernel
theorem dX4_requireKind_16 : decode cX4_requireKind 16 = .ok (.dup, 1) := by decide +kernel
theorem dX4_requireKind_17 : decode cX4_requireKind 17 = .ok (.ldc 223, 2) := by decide +kernel
theorem dX4_requireKind_19 : decode cX4_requireKind 19 = .ok (.invokespecial 126, 3) := by decide +kernel
theorem dX4_requireKind_22 : decode cX4_requireKind 22 = .ok (.athrow, 1) := by decide +kernel
theorem dX4_requireKind_23 : decode cX4_requireKind 23 = .ok (.return_, 1) := by decide +kernel
theorem dX4_requireSpareColumn_0 : decode cX4_requireSpareColumn 0 = .ok (.aload_n 0, 1) := by decide +kernel
theorem dX4_requireSpareColumn_1 : decode cX4_requireSpareColumn 1 = .ok (.getfield 12, 3) := by decide +kernel
theorem dX4_requireSpareColumn_4 : decode cX4_requireSpareColumn 4 = .ok (.getfield 119, 3) := by decide +kernel
theorem dX4_requireSpareColumn_7 : decode cX4_requireSpareColumn 7 = .ok (.bipush 6, 2) := by decide +kernel
theorem dX4_requireSpareColumn_9 : decode cX4_requireSpareColumn 9 = .ok (.if_icmp .lt 13, 3) := by decide +kernel
theorem dX4_requireSpareColumn_12 : decode cX4_requireSpareColumn 12 = .ok (.new 75, 3) := by decide +kernel
theorem dX4_requireSpareColumn_15 : decode cX4_requireSpareColumn 15 = .ok (.dup, 1) := by decide +kernel
theorem dX4_requireSpareColumn_16 : decode cX4_requireSpareColumn 16 = .ok (.ldc 227, 2) := by decide +kernel
theorem dX4_requireSpareColumn_18 : decode cX4_requireSpareColumn 18 = .ok (.invokespecial 79, 3) := by decide +kernel
theorem dX4_requireSpareColumn_21 : decode cX4_requireSpareColumn 21 = .ok (.athrow, 1) := by decide +kernel
theorem dX4_requireSpareColumn_22 : decode cX4_requireSpareColumn 22 = .ok (.return_, 1) := by decide +kernel
set_option maxRecDepth 20000 in
theorem ggX4_requireNumberCell_X4_requireRow : GoodIn wsX4_requireNumberCell wsX4_requireRow := goodIn_ca (goodIn_r _ [5, 6, 7, 8, 22, 23, 24, 25, 26, 27, 28, 29, 30, 31, 32, 33, 34, 35, 36, 37, 38] (by decide +kernel) (by decide +kernel)) (goodIn_sub (fun _ h => List.mem_cons_of_mem _ (List.mem_append_left _ (List.mem_append_right _ h))) (by decide +kernel))
set_option maxRecDepth 20000 in
theorem gX4_requireNumberCell_X4_requireRow : GoodIn wsX4_requireNumberCell (wsV RX4 86 RX4 yX4_requireRow wsX4_requireRow) := goodIn_app (goodIn_of _ (by decide +kernel)) ggX4_requireNumberCell_X4_requireRow
set_option maxRecDepth 20000 in
theorem ggX4_requireNumberCell_X4_requireColumn : GoodIn wsX4_requireNumberCell wsX4_requireColumn := goodIn_ca (goodIn_r _ [12, 6, 7, 8, 22, 23, 24, 25, 26, 27, 28, 29, 30, 31, 32, 33, 34, 35, 36, 37, 38] (by decide +kernel) (by decide +kernel)) (goodIn_sub (fun _ h => List.mem_cons_of_mem _ (List.mem_append_left _ (List.mem_append_right _ h))) (by decide +kernel))
set_option maxRecDepth 20000 in
theorem gX4_requireNumberCell_X4_requireColumn : GoodIn wsX4_requireNumberCell (wsV RX4 58 RX4 yX4_requireColumn wsX4_requireColumn) := goodIn_app (goodIn_of _ (by decide +kernel)) ggX4_requireNumberCell_X4_requireColumn
set_option maxRecDepth 20000 in
theorem ggX4_requireNumberCell_X4_requireKind : GoodIn wsX4_requireNumberCell wsX4_requireKind := goodIn_ca (goodIn_r _ [16, 17, 18, 8, 22, 23, 24, 25, 26, 27, 28, 29, 30, 31, 32, 33, 34, 35, 36, 37, 38] (by decide +kernel) (by decide +kernel)) (goodIn_sub (fun _ h => List.mem_cons_of_mem _ (List.mem_append_right _ h)) (by decide +kernel))
set_option maxRecDepth 20000 in
theorem gX4_requireNumberCell_X4_requireKind : GoodIn wsX4_requireNumberCell (wsV RX4 104 RX4 yX4_requireKind wsX4_requireKind) := goodIn_app (goodIn_of _ (by decide +kernel)) ggX4_requireNumberCell_X4_requireKind
set_option maxRecDepth 20000 in
theorem ggX4_requireNumberCell_X4_requireRange : GoodIn wsX4_requireNumberCell wsX4_requireRange := goodIn_ca (goodIn_r _ [21, 17, 18] (by decide +kernel) (by decide +kernel)) (goodIn_sub (fun _ h => List.mem_cons_of_mem _ (List.mem_append_right _ h)) (by decide +kernel))
set_option maxRecDepth 20000 in
theorem gX4_requireNumberCell_X4_requireRange : GoodIn wsX4_requireNumberCell (va_wsS RX4 47 yX4_requireRange wsX4_requireRange) := goodIn_app (goodIn_of _ (by decide +kernel)) ggX4_requireNumberCell_X4_requireRange
theorem dX4_requireNumberCell_0 : decode cX4_requireNumberCell 0 = .ok (.aload_n 0, 1) := by decide +kernel
theorem dX4_requireNumberCell_1 : decode cX4_requireNumberCell 1 = .ok (.iload_n 1, 1) := by decide +kernel
theorem dX4_requireNumberCell_2 : decode cX4_requireNumberCell 2 = .ok (.invokevirtual 86, 3) := by decide +kernel
theorem dX4_requireNumberCell_5 : decode cX4_requireNumberCell 5 = .ok (.aload_n 0, 1) := by decide +kernel
theorem dX4_requireNumberCell_6 : decode cX4_requireNumberCell 6 = .ok (.iload_n 2, 1) := by decide +kernel
theorem dX4_requireNumberCell_7 : decode cX4_requireNumberCell 7 = .ok (.invokevirtual 58, 3) := by decide +kernel
theorem dX4_requireNumberCell_10 : decode cX4_requireNumberCell 10 = .ok (.aload_n 0, 1) := by decide +kernel
theorem dX4_requireNumberCell_11 : decode cX4_requireNumberCell 11 = .ok (.iload_n 2, 1) := by decide +kernel
theorem dX4_requireNumberCell_12 : decode cX4_requireNumberCell 12 = .ok (.iconst 0, 1) := by decide +kernel
theorem dX4_requireNumberCell_13 : decode cX4_requireNumberCell 13 = .ok (.invokevirtual 104, 3) := by decide +kernel
theorem dX4_requireNumberCell_16 : decode cX4_requireNumberCell 16 = .ok (.iload_n 3, 1) := by decide +kernel
theorem dX4_requireNumberCell_17 : decode cX4_requireNumberCell 17 = .ok (.sipush (-9999), 3) := by decide +kernel
theorem dX4_requireNumberCell_20 : decode cX4_requireNumberCell 20 = .ok (.sipush 9999, 3) := by decide +kernel
theorem dX4_requireNumberCell_23 : decode cX4_requireNumberCell 23 = .ok (.invokestatic 47, 3) := by decide +kernel
theorem dX4_requireNumberCell_26 : decode cX4_requireNumberCell 26 = .ok (.return_, 1) := by decide +kernel
set_option maxRecDepth 20000 in
theorem ggX4_refresh_X3_reckon : GoodIn wsX4_refresh wsX3_reckon := goodIn_r _ [10, 11, 12, 13, 14, 15, 9, 16, 17, 18, 19, 20, 21, 22, 23, 24, 25, 26, 27, 28, 29, 30, 31, 32, 33, 34, 35, 36, 37, 38, 39, 40, 41, 42, 43, 44, 45, 46, 47, 48, 49, 50, 51, 52, 53, 54, 55, 56, 57, 58, 59, 60, 138, 139, 140, 141, 142, 143, 144, 145, 146, 147, 148, 149, 150, 151, 152, 153, 154] (by decide +kernel) (by decide +kernel)
set_option maxRecDepth 20000 in
theorem gX4_refresh_X3_reckon : GoodIn wsX4_refresh (wsV RX4 229 RX3 yX3_reckon wsX3_reckon) := goodIn_app (goodIn_of _ (by decide +kernel)) ggX4_refresh_X3_reckon
set_option maxRecDepth 20000 in
theorem ggX4_refresh_X2_arrange : GoodIn wsX4_refresh wsX2_arrange := goodIn_r _ [65, 66, 67, 68, 69, 70, 71, 72, 73, 74, 75, 76, 77, 78, 79, 80, 81, 82, 83, 84, 85, 86, 87, 88, 89, 90, 91, 92, 93, 94, 95, 96, 43, 32, 44, 97, 98, 99, 100, 101, 102, 51, 52, 9, 53, 11, 18, 103, 104, 105, 106, 107, 108, 109, 110, 111, 112, 113, 114, 115, 116, 117, 118, 119, 120, 121, 122, 123, 124, 125, 126, 127, 128, 129, 155, 156, 157, 158, 159, 160, 161, 162, 163, 164, 165, 166, 167, 168, 169, 170, 171, 138, 139, 140, 141, 142, 143, 144, 145, 146, 147, 148, 149, 150, 151, 152, 153, 154] (by decide +kernel) (by decide +kernel)
set_option maxRecDepth 20000 in
theorem gX4_refresh_X2_arrange : GoodIn wsX4_refresh (wsV RX4 232 RX2 yX2_arrange wsX2_arrange) := goodIn_app (goodIn_of _ (by decide +kernel)) ggX4_refresh_X2_arrange
theorem dX4_refresh_0 : decode cX4_refresh 0 = .ok (.aload_n 0, 1) := by decide +kernel
theorem dX4_refresh_1 : decode cX4_refresh 1 = .ok (.getfield 30, 3) := by decide +kernel
theorem dX4_refresh_4 : decode cX4_refresh 4 = .ok (.ifCond .eq 34, 3) := by decide +kernel
theorem dX4_refresh_7 : decode cX4_refresh 7 = .ok (.aload_n 0, 1) := by decide +kernel
theorem dX4_refresh_8 : decode cX4_refresh 8 = .ok (.getfield 12, 3) := by decide +kernel
theorem dX4_refresh_11 : decode cX4_refresh 11 = .ok (.invokevirtual 229, 3) := by decide +kernel
theorem dX4_refresh_14 : decode cX4_refresh 14 = .ok (.aload_n 0, 1) := by decide +kernel
theorem dX4_refresh_15 : decode cX4_refresh 15 = .ok (.getfield 19, 3) := by decide +kernel
theorem dX4_refresh_18 : decode cX4_refresh 18 = .ok (.aload_n 0, 1) := by decide +kernel
theorem dX4_refresh_19 : decode cX4_refresh 19 = .ok (.getfield 12, 3) := by decide +kernel
theorem dX4_refresh_22 : decode cX4_refresh 22 = .ok (.aload_n 0, 1) := by decide +kernel
theorem dX4_refresh_23 : decode cX4_refresh 23 = .ok (.getfield 23, 3) := by decide +kernel
theorem dX4_refresh_26 : decode cX4_refresh 26 = .ok (.aload_n 0, 1) := by decide +kernel
theorem dX4_refresh_27 : decode cX4_refresh 27 = .ok (.getfield 27, 3) := by decide +kernel
theorem dX4_refresh_30 : decode cX4_refresh 30 = .ok (.invokevirtual 232, 3) := by decide +kernel
theorem dX4_refresh_33 : decode cX4_refresh 33 = .ok (.aload_n 0, 1) := by decide +kernel
theorem dX4_refresh_34 : decode cX4_refresh 34 = .ok (.iconst 0, 1) := by decide +kernel
theorem dX4_refresh_35 : decode cX4_refresh 35 = .ok (.putfield 30, 3) := by decide +kernel
theorem dX4_refresh_38 : decode cX4_refresh 38 = .ok (.return_, 1) := by decide +kernel
set_option maxRecDepth 20000 in
theorem ggX4_layoutOfTrial_X3_reckon : GoodIn wsX4_layoutOfTrial wsX3_reckon := goodIn_r _ [9, 10, 11, 12, 13, 14, 8, 15, 16, 17, 18, 19, 20, 21, 22, 23, 24, 25, 26, 27, 28, 29, 30, 31, 32, 33, 34, 35, 36, 37, 38, 39, 40, 41, 42, 43, 44, 45, 46, 47, 48, 49, 50, 51, 52, 53, 54, 55, 56, 57, 58, 59, 141, 142, 143, 144, 145, 146, 147, 148, 149, 150, 151, 152, 153, 154, 155, 156, 157] (by decide +kernel) (by decide +kernel)
set_option maxRecDepth 20000 in
theorem gX4_layoutOfTrial_X3_reckon : GoodIn wsX4_layoutOfTrial (wsV RX4 229 RX3 yX3_reckon wsX3_reckon) := goodIn_app (goodIn_of _ (by decide +kernel)) ggX4_layoutOfTrial_X3_reckon
set_option maxRecDepth 20000 in
theorem ggX4_layoutOfTrial_X2_arrange : GoodIn wsX4_layoutOfTrial wsX2_arrange := goodIn_r _ [64, 65, 66, 67, 68, 69, 70, 71, 72, 73, 74, 75, 76, 77, 78, 79, 80, 81, 82, 83, 84, 85, 86, 87, 88, 89, 90, 91, 92, 93, 94, 95, 42, 31, 43, 96, 97, 98, 99, 100, 101, 50, 51, 8, 52, 10, 17, 102, 103, 104, 105, 106, 107, 108, 109, 110, 111, 112, 113, 114, 115, 116, 117, 118, 119, 120, 121, 122, 123, 124, 125, 126, 127, 128, 158, 159, 160, 161, 162, 163, 164, 165, 166, 167, 168, 169, 170, 171, 172, 173, 174, 141, 142, 143, 144, 145, 146, 147, 148, 149, 150, 151, 152, 153, 154, 155, 156, 157] (by decide +kernel) (by decide +kernel)
set_option maxRecDepth 20000 in
theorem gX4_layoutOfTrial_X2_arrange : GoodIn wsX4_layoutOfTrial (wsV RX4 232 RX2 yX2_arrange wsX2_arrange) := goodIn_app (goodIn_of _ (by decide +kernel)) ggX4_layoutOfTrial_X2_arrange
set_option maxRecDepth 20000 in
theorem ggX4_layoutOfTrial_X2_chosen : GoodIn wsX4_layoutOfTrial wsX2_chosen := goodIn_r _ [132, 67, 66, 65, 158, 159, 160] (by decide +kernel) (by decide +kernel)
set_option maxRecDepth 20000 in
theorem gX4_layoutOfTrial_X2_chosen : GoodIn wsX4_layoutOfTrial (wsV RX4 143 RX2 yX2_chosen wsX2_chosen) := goodIn_app (goodIn_of _ (by decide +kernel)) ggX4_layoutOfTrial_X2_chosen
theorem dX4_layoutOfTrial_0 : decode cX4_layoutOfTrial 0 = .ok (.aload_n 0, 1) := by decide +kernel
theorem dX4_layoutOfTrial_1 : decode cX4_layoutOfTrial 1 = .ok (.getfield 34, 3) := by decide +kernel
theorem dX4_layoutOfTrial_4 : decode cX4_layoutOfTrial 4 = .ok (.invokevirtual 229, 3) := by decide +kernel
theorem dX4_layoutOfTrial_7 : decode cX4_layoutOfTrial 7 = .ok (.aload_n 0, 1) := by decide +kernel
theorem dX4_layoutOfTrial_8 : decode cX4_layoutOfTrial 8 = .ok (.getfield 37, 3) := by decide +kernel
theorem dX4_layoutOfTrial_11 : decode cX4_layoutOfTrial 11 = .ok (.aload_n 0, 1) := by decide +kernel
theorem dX4_layoutOfTrial_12 : decode cX4_layoutOfTrial 12 = .ok (.getfield 34, 3) := by decide +kernel
theorem dX4_layoutOfTrial_15 : decode cX4_layoutOfTrial 15 = .ok (.aload_n 0, 1) := by decide +kernel
theorem dX4_layoutOfTrial_16 : decode cX4_layoutOfTrial 16 = .ok (.getfield 23, 3) := by decide +kernel
theorem dX4_layoutOfTrial_19 : decode cX4_layoutOfTrial 19 = .ok (.aload_n 0, 1) := by decide +kernel
theorem dX4_layoutOfTrial_20 : decode cX4_layoutOfTrial 20 = .ok (.getfield 27, 3) := by decide +kernel
theorem dX4_layoutOfTrial_23 : decode cX4_layoutOfTrial 23 = .ok (.invokevirtual 232, 3) := by decide +kernel
theorem dX4_layoutOfTrial_26 : decode cX4_layoutOfTrial 26 = .ok (.aload_n 0, 1) := by decide +kernel
theorem dX4_layoutOfTrial_27 : decode cX4_layoutOfTrial 27 = .ok (.getfield 37, 3) := by decide +kernel
theorem dX4_layoutOfTrial_30 : decode cX4_layoutOfTrial 30 = .ok (.invokevirtual 143, 3) := by decide +kernel
theorem dX4_layoutOfTrial_33 : decode cX4_layoutOfTrial 33 = .ok (.areturn, 1) := by decide +kernel
set_option maxRecDepth 20000 in
theorem ggX4_pagesIn_X0_arrange : GoodIn wsX4_pagesIn wsX0_arrange := goodIn_r _ [7, 8, 9, 10, 11, 12, 13, 14, 15, 6, 16, 17, 18, 19, 20, 21, 22, 23, 24, 25, 26, 27, 28, 29, 30, 31, 32, 33, 34, 35, 36, 37, 38, 39, 40, 41, 42, 43, 44, 45, 46, 47, 48, 49, 50, 51, 52, 53, 54, 55, 56, 57, 58, 59, 60, 61, 62, 63, 64, 65, 66, 67, 68, 69, 70, 71, 72, 85, 86, 87, 88, 89, 90, 91, 92, 93, 94, 95, 96, 97, 98, 99, 100, 101, 102, 103, 104, 105, 106, 107, 108, 109, 110, 111, 112, 113, 114, 115] (by decide +kernel) (by decide +kernel)
set_option maxRecDepth 20000 in
theorem gX4_pagesIn_X0_arrange : GoodIn wsX4_pagesIn (wsV RX4 236 RX0 yX0_arrange wsX0_arrange) := goodIn_app (goodIn_of _ (by decide +kernel)) ggX4_pagesIn_X0_arrange
set_option maxRecDepth 20000 in
theorem ggX4_pagesIn_X0_pagesOrNone : GoodIn wsX4_pagesIn wsX0_pagesOrNone := goodIn_r _ [76, 9, 10, 85, 86, 87, 88, 89, 90, 91, 92, 93, 94, 95, 96, 97, 98] (by decide +kernel) (by decide +kernel)
set_option maxRecDepth 20000 in
theorem gX4_pagesIn_X0_pagesOrNone : GoodIn wsX4_pagesIn (wsV RX4 147 RX0 yX0_pagesOrNone wsX0_pagesOrNone) := goodIn_app (goodIn_of _ (by decide +kernel)) ggX4_pagesIn_X0_pagesOrNone
theorem dX4_pagesIn_0 : decode cX4_pagesIn 0 = .ok (.aload_n 0, 1) := by decide +kernel
theorem dX4_pagesIn_1 : decode cX4_pagesIn 1 = .ok (.getfield 43, 3) := by decide +kernel
theorem dX4_pagesIn_4 : decode cX4_pagesIn 4 = .ok (.aload_n 0, 1) := by decide +kernel
theorem dX4_pagesIn_5 : decode cX4_pagesIn 5 = .ok (.getfield 12, 3) := by decide +kernel
theorem dX4_pagesIn_8 : decode cX4_pagesIn 8 = .ok (.iload_n 1, 1) := by decide +kernel
theorem dX4_pagesIn_9 : decode cX4_pagesIn 9 = .ok (.iload_n 2, 1) := by decide +kernel
theorem dX4_pagesIn_10 : decode cX4_pagesIn 10 = .ok (.invokevirtual 236, 3) := by decide +kernel
theorem dX4_pagesIn_13 : decode cX4_pagesIn 13 = .ok (.aload_n 0, 1) := by decide +kernel
theorem dX4_pagesIn_14 : decode cX4_pagesIn 14 = .ok (.getfield 43, 3) := by decide +kernel
theorem dX4_pagesIn_17 : decode cX4_pagesIn 17 = .ok (.invokevirtual 147, 3) := by decide +kernel
theorem dX4_pagesIn_20 : decode cX4_pagesIn 20 = .ok (.ireturn, 1) := by decide +kernel
set_option maxRecDepth 20000 in
theorem ggX4_isPageOther_X0_carriedOn : GoodIn wsX4_isPageOther wsX0_carriedOn := goodIn_r _ [7, 8, 9, 10, 11, 12, 13, 14, 15, 16, 17, 18, 19, 20, 21, 22, 23, 24, 25, 26, 27, 28, 29, 38, 39, 40, 41, 42, 43, 44, 45, 46, 47, 48, 49, 50, 51, 52, 53, 54] (by decide +kernel) (by decide +kernel)
set_option maxRecDepth 20000 in
theorem gX4_isPageOther_X0_carriedOn : GoodIn wsX4_isPageOther (wsV RX4 166 RX0 yX0_carriedOn wsX0_carriedOn) := goodIn_app (goodIn_of _ (by decide +kernel)) ggX4_isPageOther_X0_carriedOn
theorem dX4_isPageOther_0 : decode cX4_isPageOther 0 = .ok (.aload_n 1, 1) := by decide +kernel
theorem dX4_isPageOther_1 : decode cX4_isPageOther 1 = .ok (.getfield 237, 3) := by decide +kernel
theorem dX4_isPageOther_4 : decode cX4_isPageOther 4 = .ok (.iload_n 3, 1) := by decide +kernel
theorem dX4_isPageOther_5 : decode cX4_isPageOther 5 = .ok (.iaload, 1) := by decide +kernel
theorem dX4_isPageOther_6 : decode cX4_isPageOther 6 = .ok (.aload_n 2, 1) := by decide +kernel
theorem dX4_isPageOther_7 : decode cX4_isPageOther 7 = .ok (.getfield 237, 3) := by decide +kernel
theorem dX4_isPageOther_10 : decode cX4_isPageOther 10 = .ok (.iload_n 3, 1) := by decide +kernel
theorem dX4_isPageOther_11 : decode cX4_isPageOther 11 = .ok (.iaload, 1) := by decide +kernel
theorem dX4_isPageOther_12 : decode cX4_isPageOther 12 = .ok (.if_icmp .ne 18, 3) := by decide +kernel
theorem dX4_isPageOther_15 : decode cX4_isPageOther 15 = .ok (.aload_n 1, 1) := by decide +kernel
theorem dX4_isPageOther_16 : decode cX4_isPageOther 16 = .ok (.getfield 240, 3) := by decide +kernel
theorem dX4_isPageOther_19 : decode cX4_isPageOther 19 = .ok (.iload_n 3, 1) := by decide +kernel
theorem dX4_isPageOther_20 : decode cX4_isPageOther 20 = .ok (.iaload, 1) := by decide +kernel
theorem dX4_isPageOther_21 : decode cX4_isPageOther 21 = .ok (.aload_n 2, 1) := by decide +kernel
theorem dX4_isPageOther_22 : decode cX4_isPageOther 22 = .ok (.getfield 240, 3) := by decide +kernel
theorem dX4_isPageOther_25 : decode cX4_isPageOther 25 = .ok (.iload_n 3, 1) := by decide +kernel
theorem dX4_isPageOther_26 : decode cX4_isPageOther 26 = .ok (.iaload, 1) := by decide +kernel
theorem dX4_isPageOther_27 : decode cX4_isPageOther 27 = .ok (.if_icmp .eq 5, 3) := by decide +kernel
theorem dX4_isPageOther_30 : decode cX4_isPageOther 30 = .ok (.iconst 1, 1) := by decide +kernel
theorem dX4_isPageOther_31 : decode cX4_isPageOther 31 = .ok (.ireturn, 1) := by decide +kernel
theorem dX4_isPageOther_32 : decode cX4_isPageOther 32 = .ok (.iconst 0, 1) := by decide +kernel
theorem dX4_isPageOther_33 : decode cX4_isPageOther 33 = .ok (.istore 4, 2) := by decide +kernel
theorem dX4_isPageOther_35 : decode cX4_isPageOther 35 = .ok (.iload 4, 2) := by decide +kernel
theorem dX4_isPageOther_37 : decode cX4_isPageOther 37 = .ok (.aload_n 0, 1) := by decide +kernel
theorem dX4_isPageOther_38 : decode cX4_isPageOther 38 = .ok (.getfield 12, 3) := by decide +kernel
theorem dX4_isPageOther_41 : decode cX4_isPageOther 41 = .ok (.getfield 119, 3) := by decide +kernel
theorem dX4_isPageOther_44 : decode cX4_isPageOther 44 = .ok (.if_icmp .ge 36, 3) := by decide +kernel
theorem dX4_isPageOther_47 : decode cX4_isPageOther 47 = .ok (.aload_n 1, 1) := by decide +kernel
theorem dX4_isPageOther_48 : decode cX4_isPageOther 48 = .ok (.aload_n 0, 1) := by decide +kernel
theorem dX4_isPageOther_49 : decode cX4_isPageOther 49 = .ok (.getfield 12, 3) := by decide +kernel
theorem dX4_isPageOther_52 : decode cX4_isPageOther 52 = .ok (.iload_n 3, 1) := by decide +kernel
theorem dX4_isPageOther_53 : decode cX4_isPageOther 53 = .ok (.iload 4, 2) := by decide +kernel
theorem dX4_isPageOther_55 : decode cX4_isPageOther 55 = .ok (.invokevirtual 166, 3) := by decide +kernel
theorem dX4_isPageOther_58 : decode cX4_isPageOther 58 = .ok (.aload_n 2, 1) := by decide +kernel
theorem dX4_isPageOther_59 : decode cX4_isPageOther 59 = .ok (.aload_n 0, 1) := by decide +kernel
theorem dX4_isPageOther_60 : decode cX4_isPageOther 60 = .ok (.getfield 34, 3) := by decide +kernel
theorem dX4_isPageOther_63 : decode cX4_isPageOther 63 = .ok (.iload_n 3, 1) := by decide +kernel
theorem dX4_isPageOther_64 : decode cX4_isPageOther 64 = .ok (.iload 4, 2) := by decide +kernel
theorem dX4_isPageOther_66 : decode cX4_isPageOther 66 = .ok (.invokevirtual 166, 3) := by decide +kernel
theorem dX4_isPageOther_69 : decode cX4_isPageOther 69 = .ok (.if_icmp .eq 5, 3) := by decide +kernel
theorem dX4_isPageOther_72 : decode cX4_isPageOther 72 = .ok (.iconst 1, 1) := by decide +kernel
theorem dX4_isPageOther_73 : decode cX4_isPageOther 73 = .ok (.ireturn, 1) := by decide +kernel
theorem dX4_isPageOther_74 : decode cX4_isPageOther 74 = .ok (.iinc 4 1, 3) := by decide +kernel
theorem dX4_isPageOther_77 : decode cX4_isPageOther 77 = .ok (.goto (-42), 3) := by decide +kernel
theorem dX4_isPageOther_80 : decode cX4_isPageOther 80 = .ok (.iconst 0, 1) := by decide +kernel
theorem dX4_isPageOther_81 : decode cX4_isPageOther 81 = .ok (.ireturn, 1) := by decide +kernel
set_option maxRecDepth 20000 in
theorem ggX4_factOfTable_X2_chosen : GoodIn wsX4_factOfTable wsX2_chosen := goodIn_r _ [7, 8, 9, 10, 72, 73, 74] (by decide +kernel) (by decide +kernel)
set_option maxRecDepth 20000 in
theorem gX4_factOfTable_X2_chosen : GoodIn wsX4_factOfTable (wsV RX4 143 RX2 yX2_chosen wsX2_chosen) := goodIn_app (goodIn_of _ (by decide +kernel)) ggX4_factOfTable_X2_chosen
set_option maxRecDepth 20000 in
theorem ggX4_factOfTable_X0_pagesOrNone : GoodIn wsX4_factOfTable wsX0_pagesOrNone := goodIn_r _ [15, 16, 17, 58, 59, 60, 61, 62, 63, 64, 65, 66, 67, 68, 69, 70, 71] (by decide +kernel) (by decide +kernel)
set_option maxRecDepth 20000 in
theorem gX4_factOfTable_X0_pagesOrNone : GoodIn wsX4_factOfTable (wsV RX4 147 RX0 yX0_pagesOrNone wsX0_pagesOrNone) := goodIn_app (goodIn_of _ (by decide +kernel)) ggX4_factOfTable_X0_pagesOrNone
set_option maxRecDepth 20000 in
theorem ggX4_factOfTable_X0_tableWidth : GoodIn wsX4_factOfTable wsX0_tableWidth := goodIn_r _ [21, 22, 49, 50, 51, 52, 53, 54, 55, 56, 57, 58, 59, 60, 61, 62, 63, 64, 65, 66, 67, 68, 69, 70, 71] (by decide +kernel) (by decide +kernel)
set_option maxRecDepth 20000 in
theorem gX4_factOfTable_X0_tableWidth : GoodIn wsX4_factOfTable (wsV RX4 249 RX0 yX0_tableWidth wsX0_tableWidth) := goodIn_app (goodIn_of _ (by decide +kernel)) ggX4_factOfTable_X0_tableWidth
set_option maxRecDepth 20000 in
theorem ggX4_factOfTable_X0_heightOfRows : GoodIn wsX4_factOfTable wsX0_heightOfRows := goodIn_r _ [26, 27, 49, 50, 51, 52, 53, 54, 55, 56, 57, 58, 59, 60, 61, 62, 63, 64, 65, 66, 67, 68, 69, 70, 71] (by decide +kernel) (by decide +kernel)
set_option maxRecDepth 20000 in
theorem gX4_factOfTable_X0_heightOfRows : GoodIn wsX4_factOfTable (wsV RX4 253 RX0 yX0_heightOfRows wsX0_heightOfRows) := goodIn_app (goodIn_of _ (by decide +kernel)) ggX4_factOfTable_X0_heightOfRows
set_option maxRecDepth 20000 in
theorem ggX4_factOfTable_X3_linesOfNotes : GoodIn wsX4_factOfTable wsX3_linesOfNotes := goodIn_r _ [32, 33, 34, 49, 50, 51, 52, 53, 54, 55, 56, 57, 75, 76, 77, 78, 79, 80, 81, 82] (by decide +kernel) (by decide +kernel)
set_option maxRecDepth 20000 in
theorem gX4_factOfTable_X3_linesOfNotes : GoodIn wsX4_factOfTable (wsV RX4 256 RX3 yX3_linesOfNotes wsX3_linesOfNotes) := goodIn_app (goodIn_of _ (by decide +kernel)) ggX4_factOfTable_X3_linesOfNotes
set_option maxRecDepth 20000 in
theorem ggX4_factOfTable_X0_notesElsewhere : GoodIn wsX4_factOfTable wsX0_notesElsewhere := goodIn_r _ [38, 39, 40, 49, 50, 51, 52, 53, 54, 55, 56, 57, 58, 59, 60, 61, 62, 63, 64, 65, 66, 67, 68, 69, 70, 71] (by decide +kernel) (by decide +kernel)
set_option maxRecDepth 20000 in
theorem gX4_factOfTable_X0_notesElsewhere : GoodIn wsX4_factOfTable (wsV RX4 259 RX0 yX0_notesElsewhere wsX0_notesElsewhere) := goodIn_app (goodIn_of _ (by decide +kernel)) ggX4_factOfTable_X0_notesElsewhere
theorem dX4_factOfTable_0 : decode cX4_factOfTable 0 = .ok (.aload_n 0, 1) := by decide +kernel
theorem dX4_factOfTable_1 : decode cX4_factOfTable 1 = .ok (.getfield 19, 3) := by decide +kernel
theorem dX4_factOfTable_4 : decode cX4_factOfTable 4 = .ok (.invokevirtual 143, 3) := by decide +kernel
theorem dX4_factOfTable_7 : decode cX4_factOfTable 7 = .ok (.astore_n 2, 1) := by decide +kernel
theorem dX4_factOfTable_8 : decode cX4_factOfTable 8 = .ok (.iload_n 1, 1) := by decide +kernel
theorem dX4_factOfTable_9 : decode cX4_factOfTable 9 = .ok (.tableswitch 163 0 7 #[47, 55, 63, 68, 95, 115, 135, 143], 47) := by decide +kernel
theorem dX4_factOfTable_56 : decode cX4_factOfTable 56 = .ok (.aload_n 0, 1) := by decide +kernel
theorem dX4_factOfTable_57 : decode cX4_factOfTable 57 = .ok (.getfield 12, 3) := by decide +kernel
theorem dX4_factOfTable_60 : decode cX4_factOfTable 60 = .ok (.getfield 119, 3) := by decide +kernel
theorem dX4_factOfTable_63 : decode cX4_factOfTable 63 = .ok (.ireturn, 1) := by decide +kernel
theorem dX4_factOfTable_64 : decode cX4_factOfTable 64 = .ok (.aload_n 0, 1) := by decide +kernel
theorem dX4_factOfTable_65 : decode cX4_factOfTable 65 = .ok (.getfield 12, 3) := by decide +kernel
theorem dX4_factOfTable_68 : decode cX4_factOfTable 68 = .ok (.getfield 72, 3) := by decide +kernel
theorem dX4_factOfTable_71 : decode cX4_factOfTable 71 = .ok (.ireturn, 1) := by decide +kernel
theorem dX4_factOfTable_72 : decode cX4_factOfTable 72 = .ok (.aload_n 2, 1) := by decide +kernel
theorem dX4_factOfTable_73 : decode cX4_factOfTable 73 = .ok (.invokevirtual 147, 3) := by decide +kernel
theorem dX4_factOfTable_76 : decode cX4_factOfTable 76 = .ok (.ireturn, 1) := by decide +kernel
theorem dX4_factOfTable_77 : decode cX4_factOfTable 77 = .ok (.aload_n 2, 1) := by decide +kernel
theorem dX4_factOfTable_78 : decode cX4_factOfTable 78 = .ok (.getfield 243, 3) := by decide +kernel
theorem dX4_factOfTable_81 : decode cX4_factOfTable 81 = .ok (.ifCond .eq 21, 3) := by decide +kernel
theorem dX4_factOfTable_84 : decode cX4_factOfTable 84 = .ok (.aload_n 0, 1) := by decide +kernel
theorem dX4_factOfTable_85 : decode cX4_factOfTable 85 = .ok (.getfield 19, 3) := by decide +kernel
theorem dX4_factOfTable_88 : decode cX4_factOfTable 88 = .ok (.getfield 246, 3) := by decide +kernel
theorem dX4_factOfTable_91 : decode cX4_factOfTable 91 = .ok (.ifCond .eq 7, 3) := by decide +kernel
theorem dX4_factOfTable_94 : decode cX4_factOfTable 94 = .ok (.iconst 1, 1) := by decide +kernel
theorem dX4_factOfTable_95 : decode cX4_factOfTable 95 = .ok (.goto 8, 3) := by decide +kernel
theorem dX4_factOfTable_98 : decode cX4_factOfTable 98 = .ok (.iconst 0, 1) := by decide +kernel
theorem dX4_factOfTable_99 : decode cX4_factOfTable 99 = .ok (.goto 4, 3) := by decide +kernel
theorem dX4_factOfTable_102 : decode cX4_factOfTable 102 = .ok (.iconst (-1), 1) := by decide +kernel
theorem dX4_factOfTable_103 : decode cX4_factOfTable 103 = .ok (.ireturn, 1) := by decide +kernel
theorem dX4_factOfTable_104 : decode cX4_factOfTable 104 = .ok (.aload_n 2, 1) := by decide +kernel
theorem dX4_factOfTable_105 : decode cX4_factOfTable 105 = .ok (.getfield 243, 3) := by decide +kernel
theorem dX4_factOfTable_108 : decode cX4_factOfTable 108 = .ok (.ifCond .eq 14, 3) := by decide +kernel
theorem dX4_factOfTable_111 : decode cX4_factOfTable 111 = .ok (.aload_n 2, 1) := by decide +kernel
theorem dX4_factOfTable_112 : decode cX4_factOfTable 112 = .ok (.aload_n 0, 1) := by decide +kernel
theorem dX4_factOfTable_113 : decode cX4_factOfTable 113 = .ok (.getfield 12, 3) := by decide +kernel
theorem dX4_factOfTable_116 : decode cX4_factOfTable 116 = .ok (.invokevirtual 249, 3) := by decide +kernel
theorem dX4_factOfTable_119 : decode cX4_factOfTable 119 = .ok (.goto 4, 3) := by decide +kernel
theorem dX4_factOfTable_122 : decode cX4_factOfTable 122 = .ok (.iconst (-1), 1) := by decide +kernel
theorem dX4_factOfTable_123 : decode cX4_factOfTable 123 = .ok (.ireturn, 1) := by decide +kernel
theorem dX4_factOfTable_124 : decode cX4_factOfTable 124 = .ok (.aload_n 2, 1) := by decide +kernel
theorem dX4_factOfTable_125 : decode cX4_factOfTable 125 = .ok (.getfield 243, 3) := by decide +kernel
theorem dX4_factOfTable_128 : decode cX4_factOfTable 128 = .ok (.ifCond .eq 14, 3) := by decide +kernel
theorem dX4_factOfTable_131 : decode cX4_factOfTable 131 = .ok (.aload_n 2, 1) := by decide +kernel
theorem dX4_factOfTable_132 : decode cX4_factOfTable 132 = .ok (.aload_n 0, 1) := by decide +kernel
theorem dX4_factOfTable_133 : decode cX4_factOfTable 133 = .ok (.getfield 12, 3) := by decide +kernel
theorem dX4_factOfTable_136 : decode cX4_factOfTable 136 = .ok (.invokevirtual 253, 3) := by decide +kernel
theorem dX4_factOfTable_139 : decode cX4_factOfTable 139 = .ok (.goto 4, 3) := by decide +kernel
theorem dX4_factOfTable_142 : decode cX4_factOfTable 142 = .ok (.iconst (-1), 1) := by decide +kernel
theorem dX4_factOfTable_143 : decode cX4_factOfTable 143 = .ok (.ireturn, 1) := by decide +kernel
theorem dX4_factOfTable_144 : decode cX4_factOfTable 144 = .ok (.aload_n 0, 1) := by decide +kernel
theorem dX4_factOfTable_145 : decode cX4_factOfTable 145 = .ok (.getfield 12, 3) := by decide +kernel
theorem dX4_factOfTable_148 : decode cX4_factOfTable 148 = .ok (.invokevirtual 256, 3) := by decide +kernel
theorem dX4_factOfTable_151 : decode cX4_factOfTable 151 = .ok (.ireturn, 1) := by decide +kernel
theorem dX4_factOfTable_152 : decode cX4_factOfTable 152 = .ok (.aload_n 2, 1) := by decide +kernel
theorem dX4_factOfTable_153 : decode cX4_factOfTable 153 = .ok (.getfield 243, 3) := by decide +kernel
theorem dX4_factOfTable_156 : decode cX4_factOfTable 156 = .ok (.ifCond .eq 14, 3) := by decide +kernel
theorem dX4_factOfTable_159 : decode cX4_factOfTable 159 = .ok (.aload_n 2, 1) := by decide +kernel
theorem dX4_factOfTable_160 : decode cX4_factOfTable 160 = .ok (.aload_n 0, 1) := by decide +kernel
theorem dX4_factOfTable_161 : decode cX4_factOfTable 161 = .ok (.getfield 12, 3) := by decide +kernel
theorem dX4_factOfTable_164 : decode cX4_factOfTable 164 = .ok (.invokevirtual 259, 3) := by decide +kernel
theorem dX4_factOfTable_167 : decode cX4_factOfTable 167 = .ok (.goto 4, 3) := by decide +kernel
theorem dX4_factOfTable_170 : decode cX4_factOfTable 170 = .ok (.iconst (-1), 1) := by decide +kernel
theorem dX4_factOfTable_171 : decode cX4_factOfTable 171 = .ok (.ireturn, 1) := by decide +kernel
theorem dX4_factOfTable_172 : decode cX4_factOfTable 172 = .ok (.iconst (-1), 1) := by decide +kernel
theorem dX4_factOfTable_173 : decode cX4_factOfTable 173 = .ok (.ireturn, 1) := by decide +kernel
set_option maxRecDepth 20000 in
theorem ggX4_factOfColumn_X2_chosen : GoodIn wsX4_factOfColumn wsX2_chosen := goodIn_r _ [7, 8, 9, 10, 49, 50, 51] (by decide +kernel) (by decide +kernel)
set_option maxRecDepth 20000 in
theorem gX4_factOfColumn_X2_chosen : GoodIn wsX4_factOfColumn (wsV RX4 143 RX2 yX2_chosen wsX2_chosen) := goodIn_app (goodIn_of _ (by decide +kernel)) ggX4_factOfColumn_X2_chosen
set_option maxRecDepth 20000 in
theorem ggX4_factOfColumn_X3_sumUpTo : GoodIn wsX4_factOfColumn wsX3_sumUpTo := goodIn_r _ [15, 16, 17, 26, 27, 28, 29, 30, 31, 32, 33, 34, 52, 53, 54, 55, 56, 57, 58, 59] (by decide +kernel) (by decide +kernel)
set_option maxRecDepth 20000 in
theorem gX4_factOfColumn_X3_sumUpTo : GoodIn wsX4_factOfColumn (wsV RX4 271 RX3 yX3_sumUpTo wsX3_sumUpTo) := goodIn_app (goodIn_of _ (by decide +kernel)) ggX4_factOfColumn_X3_sumUpTo
theorem dX4_factOfColumn_0 : decode cX4_factOfColumn 0 = .ok (.aload_n 0, 1) := by decide +kernel
theorem dX4_factOfColumn_1 : decode cX4_factOfColumn 1 = .ok (.getfield 19, 3) := by decide +kernel
theorem dX4_factOfColumn_4 : decode cX4_factOfColumn 4 = .ok (.invokevirtual 143, 3) := by decide +kernel
theorem dX4_factOfColumn_7 : decode cX4_factOfColumn 7 = .ok (.astore_n 3, 1) := by decide +kernel
theorem dX4_factOfColumn_8 : decode cX4_factOfColumn 8 = .ok (.iload_n 2, 1) := by decide +kernel
theorem dX4_factOfColumn_9 : decode cX4_factOfColumn 9 = .ok (.tableswitch 101 0 4 #[35, 45, 55, 65, 83], 35) := by decide +kernel
theorem dX4_factOfColumn_44 : decode cX4_factOfColumn 44 = .ok (.aload_n 0, 1) := by decide +kernel
theorem dX4_factOfColumn_45 : decode cX4_factOfColumn 45 = .ok (.getfield 12, 3) := by decide +kernel
theorem dX4_factOfColumn_48 : decode cX4_factOfColumn 48 = .ok (.getfield 220, 3) := by decide +kernel
theorem dX4_factOfColumn_51 : decode cX4_factOfColumn 51 = .ok (.iload_n 1, 1) := by decide +kernel
theorem dX4_factOfColumn_52 : decode cX4_factOfColumn 52 = .ok (.iaload, 1) := by decide +kernel
theorem dX4_factOfColumn_53 : decode cX4_factOfColumn 53 = .ok (.ireturn, 1) := by decide +kernel
theorem dX4_factOfColumn_54 : decode cX4_factOfColumn 54 = .ok (.aload_n 0, 1) := by decide +kernel
theorem dX4_factOfColumn_55 : decode cX4_factOfColumn 55 = .ok (.getfield 12, 3) := by decide +kernel
theorem dX4_factOfColumn_58 : decode cX4_factOfColumn 58 = .ok (.getfield 262, 3) := by decide +kernel
theorem dX4_factOfColumn_61 : decode cX4_factOfColumn 61 = .ok (.iload_n 1, 1) := by decide +kernel
theorem dX4_factOfColumn_62 : decode cX4_factOfColumn 62 = .ok (.iaload, 1) := by decide +kernel
theorem dX4_factOfColumn_63 : decode cX4_factOfColumn 63 = .ok (.ireturn, 1) := by decide +kernel
theorem dX4_factOfColumn_64 : decode cX4_factOfColumn 64 = .ok (.aload_n 0, 1) := by decide +kernel
theorem dX4_factOfColumn_65 : decode cX4_factOfColumn 65 = .ok (.getfield 12, 3) := by decide +kernel
theorem dX4_factOfColumn_68 : decode cX4_factOfColumn 68 = .ok (.getfield 265, 3) := by decide +kernel
theorem dX4_factOfColumn_71 : decode cX4_factOfColumn 71 = .ok (.iload_n 1, 1) := by decide +kernel
theorem dX4_factOfColumn_72 : decode cX4_factOfColumn 72 = .ok (.iaload, 1) := by decide +kernel
theorem dX4_factOfColumn_73 : decode cX4_factOfColumn 73 = .ok (.ireturn, 1) := by decide +kernel
theorem dX4_factOfColumn_74 : decode cX4_factOfColumn 74 = .ok (.aload_n 3, 1) := by decide +kernel
theorem dX4_factOfColumn_75 : decode cX4_factOfColumn 75 = .ok (.getfield 243, 3) := by decide +kernel
theorem dX4_factOfColumn_78 : decode cX4_factOfColumn 78 = .ok (.ifCond .eq 12, 3) := by decide +kernel
theorem dX4_factOfColumn_81 : decode cX4_factOfColumn 81 = .ok (.aload_n 3, 1) := by decide +kernel
theorem dX4_factOfColumn_82 : decode cX4_factOfColumn 82 = .ok (.getfield 268, 3) := by decide +kernel
theorem dX4_factOfColumn_85 : decode cX4_factOfColumn 85 = .ok (.iload_n 1, 1) := by decide +kernel
theorem dX4_factOfColumn_86 : decode cX4_factOfColumn 86 = .ok (.iaload, 1) := by decide +kernel
theorem dX4_factOfColumn_87 : decode cX4_factOfColumn 87 = .ok (.goto 4, 3) := by decide +kernel
theorem dX4_factOfColumn_90 : decode cX4_factOfColumn 90 = .ok (.iconst (-1), 1) := by decide +kernel
theorem dX4_factOfColumn_91 : decode cX4_factOfColumn 91 = .ok (.ireturn, 1) := by decide +kernel
theorem dX4_factOfColumn_92 : decode cX4_factOfColumn 92 = .ok (.aload_n 0, 1) := by decide +kernel
theorem dX4_factOfColumn_93 : decode cX4_factOfColumn 93 = .ok (.getfield 12, 3) := by decide +kernel
theorem dX4_factOfColumn_96 : decode cX4_factOfColumn 96 = .ok (.aload_n 0, 1) := by decide +kernel
theorem dX4_factOfColumn_97 : decode cX4_factOfColumn 97 = .ok (.getfield 12, 3) := by decide +kernel
theorem dX4_factOfColumn_100 : decode cX4_factOfColumn 100 = .ok (.getfield 72, 3) := by decide +kernel
theorem dX4_factOfColumn_103 : decode cX4_factOfColumn 103 = .ok (.iconst 1, 1) := by decide +kernel
theorem dX4_factOfColumn_104 : decode cX4_factOfColumn 104 = .ok (.isub, 1) := by decide +kernel
theorem dX4_factOfColumn_105 : decode cX4_factOfColumn 105 = .ok (.iload_n 1, 1) := by decide +kernel
theorem dX4_factOfColumn_106 : decode cX4_factOfColumn 106 = .ok (.invokevirtual 271, 3) := by decide +kernel
theorem dX4_factOfColumn_109 : decode cX4_factOfColumn 109 = .ok (.ireturn, 1) := by decide +kernel
theorem dX4_factOfColumn_110 : decode cX4_factOfColumn 110 = .ok (.iconst (-1), 1) := by decide +kernel
theorem dX4_factOfColumn_111 : decode cX4_factOfColumn 111 = .ok (.ireturn, 1) := by decide +kernel
set_option maxRecDepth 20000 in
theorem ggX4_factOfRow_X2_chosen : GoodIn wsX4_factOfRow wsX2_chosen := goodIn_r _ [6, 7, 8, 9, 32, 33, 34] (by decide +kernel) (by decide +kernel)
set_option maxRecDepth 20000 in
theorem gX4_factOfRow_X2_chosen : GoodIn wsX4_factOfRow (wsV RX4 143 RX2 yX2_chosen wsX2_chosen) := goodIn_app (goodIn_of _ (by decide +kernel)) ggX4_factOfRow_X2_chosen
theorem dX4_factOfRow_0 : decode cX4_factOfRow 0 = .ok (.aload_n 0, 1) := by decide +kernel
theorem dX4_factOfRow_1 : decode cX4_factOfRow 1 = .ok (.getfield 19, 3) := by decide +kernel
theorem dX4_factOfRow_4 : decode cX4_factOfRow 4 = .ok (.invokevirtual 143, 3) := by decide +kernel
theorem dX4_factOfRow_7 : decode cX4_factOfRow 7 = .ok (.astore_n 3, 1) := by decide +kernel
theorem dX4_factOfRow_8 : decode cX4_factOfRow 8 = .ok (.aload_n 3, 1) := by decide +kernel
theorem dX4_factOfRow_9 : decode cX4_factOfRow 9 = .ok (.getfield 243, 3) := by decide +kernel
theorem dX4_factOfRow_12 : decode cX4_factOfRow 12 = .ok (.ifCond .ne 5, 3) := by decide +kernel
theorem dX4_factOfRow_15 : decode cX4_factOfRow 15 = .ok (.iconst (-1), 1) := by decide +kernel
theorem dX4_factOfRow_16 : decode cX4_factOfRow 16 = .ok (.ireturn, 1) := by decide +kernel
theorem dX4_factOfRow_17 : decode cX4_factOfRow 17 = .ok (.iload_n 2, 1) := by decide +kernel
theorem dX4_factOfRow_18 : decode cX4_factOfRow 18 = .ok (.tableswitch 47 0 2 #[26, 33, 40], 26) := by decide +kernel
theorem dX4_factOfRow_44 : decode cX4_factOfRow 44 = .ok (.aload_n 3, 1) := by decide +kernel
theorem dX4_factOfRow_45 : decode cX4_factOfRow 45 = .ok (.getfield 274, 3) := by decide +kernel
theorem dX4_factOfRow_48 : decode cX4_factOfRow 48 = .ok (.iload_n 1, 1) := by decide +kernel
theorem dX4_factOfRow_49 : decode cX4_factOfRow 49 = .ok (.iaload, 1) := by decide +kernel
theorem dX4_factOfRow_50 : decode cX4_factOfRow 50 = .ok (.ireturn, 1) := by decide +kernel
theorem dX4_factOfRow_51 : decode cX4_factOfRow 51 = .ok (.aload_n 3, 1) := by decide +kernel
theorem dX4_factOfRow_52 : decode cX4_factOfRow 52 = .ok (.getfield 277, 3) := by decide +kernel
theorem dX4_factOfRow_55 : decode cX4_factOfRow 55 = .ok (.iload_n 1, 1) := by decide +kernel
theorem dX4_factOfRow_56 : decode cX4_factOfRow 56 = .ok (.iaload, 1) := by decide +kernel
theorem dX4_factOfRow_57 : decode cX4_factOfRow 57 = .ok (.ireturn, 1) := by decide +kernel
theorem dX4_factOfRow_58 : decode cX4_factOfRow 58 = .ok (.aload_n 3, 1) := by decide +kernel
theorem dX4_factOfRow_59 : decode cX4_factOfRow 59 = .ok (.getfield 280, 3) := by decide +kernel
theorem dX4_factOfRow_62 : decode cX4_factOfRow 62 = .ok (.iload_n 1, 1) := by decide +kernel
theorem dX4_factOfRow_63 : decode cX4_factOfRow 63 = .ok (.iaload, 1) := by decide +kernel
theorem dX4_factOfRow_64 : decode cX4_factOfRow 64 = .ok (.ireturn, 1) := by decide +kernel
theorem dX4_factOfRow_65 : decode cX4_factOfRow 65 = .ok (.iconst (-1), 1) := by decide +kernel
theorem dX4_factOfRow_66 : decode cX4_factOfRow 66 = .ok (.ireturn, 1) := by decide +kernel
set_option maxRecDepth 20000 in
theorem ggX4_factOfCell_X2_chosen : GoodIn wsX4_factOfCell wsX2_chosen := goodIn_r _ [7, 8, 9, 10, 72, 73, 74] (by decide +kernel) (by decide +kernel)
set_option maxRecDepth 20000 in
theorem gX4_factOfCell_X2_chosen : GoodIn wsX4_factOfCell (wsV RX4 143 RX2 yX2_chosen wsX2_chosen) := goodIn_app (goodIn_of _ (by decide +kernel)) ggX4_factOfCell_X2_chosen
set_option maxRecDepth 20000 in
theorem ggX4_factOfCell_X0_heightOfCell : GoodIn wsX4_factOfCell wsX0_heightOfCell := goodIn_r _ [15, 16, 17, 18, 19, 20, 21, 22, 23, 24, 25, 26, 27, 41, 42, 43, 44, 45, 46, 47, 48, 49, 50, 51, 52, 53, 54, 55, 56, 57, 58, 59, 60, 61, 62, 63, 64, 65, 66, 67, 68, 69, 70, 71] (by decide +kernel) (by decide +kernel)
set_option maxRecDepth 20000 in
theorem gX4_factOfCell_X0_heightOfCell : GoodIn wsX4_factOfCell (wsV RX4 283 RX0 yX0_heightOfCell wsX0_heightOfCell) := goodIn_app (goodIn_of _ (by decide +kernel)) ggX4_factOfCell_X0_heightOfCell
set_option maxRecDepth 20000 in
theorem ggX4_factOfCell_X3_sumUpTo : GoodIn wsX4_factOfCell wsX3_sumUpTo := goodIn_r _ [31, 32, 27, 41, 42, 43, 44, 45, 46, 47, 48, 49, 50, 51, 52, 53, 54, 55, 56, 57] (by decide +kernel) (by decide +kernel)
set_option maxRecDepth 20000 in
theorem gX4_factOfCell_X3_sumUpTo : GoodIn wsX4_factOfCell (wsV RX4 271 RX3 yX3_sumUpTo wsX3_sumUpTo) := goodIn_app (goodIn_of _ (by decide +kernel)) ggX4_factOfCell_X3_sumUpTo
theorem dX4_factOfCell_0 : decode cX4_factOfCell 0 = .ok (.aload_n 0, 1) := by decide +kernel
theorem dX4_factOfCell_1 : decode cX4_factOfCell 1 = .ok (.getfield 19, 3) := by decide +kernel
theorem dX4_factOfCell_4 : decode cX4_factOfCell 4 = .ok (.invokevirtual 143, 3) := by decide +kernel
theorem dX4_factOfCell_7 : decode cX4_factOfCell 7 = .ok (.astore 4, 2) := by decide +kernel
theorem dX4_factOfCell_9 : decode cX4_factOfCell 9 = .ok (.aload_n 0, 1) := by decide +kernel
theorem dX4_factOfCell_10 : decode cX4_factOfCell 10 = .ok (.getfield 12, 3) := by decide +kernel
theorem dX4_factOfCell_13 : decode cX4_factOfCell 13 = .ok (.getfield 95, 3) := by decide +kernel
theorem dX4_factOfCell_16 : decode cX4_factOfCell 16 = .ok (.iload_n 1, 1) := by decide +kernel
theorem dX4_factOfCell_17 : decode cX4_factOfCell 17 = .ok (.aaload, 1) := by decide +kernel
theorem dX4_factOfCell_18 : decode cX4_factOfCell 18 = .ok (.astore 5, 2) := by decide +kernel
theorem dX4_factOfCell_20 : decode cX4_factOfCell 20 = .ok (.iload_n 3, 1) := by decide +kernel
theorem dX4_factOfCell_21 : decode cX4_factOfCell 21 = .ok (.tableswitch 112 0 3 #[31, 62, 86, 102], 31) := by decide +kernel
theorem dX4_factOfCell_52 : decode cX4_factOfCell 52 = .ok (.aload_n 0, 1) := by decide +kernel
theorem dX4_factOfCell_53 : decode cX4_factOfCell 53 = .ok (.getfield 12, 3) := by decide +kernel
theorem dX4_factOfCell_56 : decode cX4_factOfCell 56 = .ok (.getfield 220, 3) := by decide +kernel
theorem dX4_factOfCell_59 : decode cX4_factOfCell 59 = .ok (.iload_n 2, 1) := by decide +kernel
theorem dX4_factOfCell_60 : decode cX4_factOfCell 60 = .ok (.iaload, 1) := by decide +kernel
theorem dX4_factOfCell_61 : decode cX4_factOfCell 61 = .ok (.iconst 1, 1) := by decide +kernel
theorem dX4_factOfCell_62 : decode cX4_factOfCell 62 = .ok (.if_icmp .ne 13, 3) := by decide +kernel
theorem dX4_factOfCell_65 : decode cX4_factOfCell 65 = .ok (.aload 5, 2) := by decide +kernel
theorem dX4_factOfCell_67 : decode cX4_factOfCell 67 = .ok (.getfield 113, 3) := by decide +kernel
theorem dX4_factOfCell_70 : decode cX4_factOfCell 70 = .ok (.iload_n 2, 1) := by decide +kernel
theorem dX4_factOfCell_71 : decode cX4_factOfCell 71 = .ok (.iaload, 1) := by decide +kernel
theorem dX4_factOfCell_72 : decode cX4_factOfCell 72 = .ok (.goto 10, 3) := by decide +kernel
theorem dX4_factOfCell_75 : decode cX4_factOfCell 75 = .ok (.aload 5, 2) := by decide +kernel
theorem dX4_factOfCell_77 : decode cX4_factOfCell 77 = .ok (.getfield 99, 3) := by decide +kernel
theorem dX4_factOfCell_80 : decode cX4_factOfCell 80 = .ok (.iload_n 2, 1) := by decide +kernel
theorem dX4_factOfCell_81 : decode cX4_factOfCell 81 = .ok (.iaload, 1) := by decide +kernel
theorem dX4_factOfCell_82 : decode cX4_factOfCell 82 = .ok (.ireturn, 1) := by decide +kernel
theorem dX4_factOfCell_83 : decode cX4_factOfCell 83 = .ok (.aload 4, 2) := by decide +kernel
theorem dX4_factOfCell_85 : decode cX4_factOfCell 85 = .ok (.getfield 243, 3) := by decide +kernel
theorem dX4_factOfCell_88 : decode cX4_factOfCell 88 = .ok (.ifCond .eq 17, 3) := by decide +kernel
theorem dX4_factOfCell_91 : decode cX4_factOfCell 91 = .ok (.aload 4, 2) := by decide +kernel
theorem dX4_factOfCell_93 : decode cX4_factOfCell 93 = .ok (.aload_n 0, 1) := by decide +kernel
theorem dX4_factOfCell_94 : decode cX4_factOfCell 94 = .ok (.getfield 12, 3) := by decide +kernel
theorem dX4_factOfCell_97 : decode cX4_factOfCell 97 = .ok (.iload_n 1, 1) := by decide +kernel
theorem dX4_factOfCell_98 : decode cX4_factOfCell 98 = .ok (.iload_n 2, 1) := by decide +kernel
theorem dX4_factOfCell_99 : decode cX4_factOfCell 99 = .ok (.invokevirtual 283, 3) := by decide +kernel
theorem dX4_factOfCell_102 : decode cX4_factOfCell 102 = .ok (.goto 4, 3) := by decide +kernel
theorem dX4_factOfCell_105 : decode cX4_factOfCell 105 = .ok (.iconst (-1), 1) := by decide +kernel
theorem dX4_factOfCell_106 : decode cX4_factOfCell 106 = .ok (.ireturn, 1) := by decide +kernel
theorem dX4_factOfCell_107 : decode cX4_factOfCell 107 = .ok (.aload 5, 2) := by decide +kernel
theorem dX4_factOfCell_109 : decode cX4_factOfCell 109 = .ok (.getfield 134, 3) := by decide +kernel
theorem dX4_factOfCell_112 : decode cX4_factOfCell 112 = .ok (.iload_n 2, 1) := by decide +kernel
theorem dX4_factOfCell_113 : decode cX4_factOfCell 113 = .ok (.baload, 1) := by decide +kernel
theorem dX4_factOfCell_114 : decode cX4_factOfCell 114 = .ok (.ifCond .eq 7, 3) := by decide +kernel
theorem dX4_factOfCell_117 : decode cX4_factOfCell 117 = .ok (.iconst 1, 1) := by decide +kernel
theorem dX4_factOfCell_118 : decode cX4_factOfCell 118 = .ok (.goto 4, 3) := by decide +kernel
theorem dX4_factOfCell_121 : decode cX4_factOfCell 121 = .ok (.iconst 0, 1) := by decide +kernel
theorem dX4_factOfCell_122 : decode cX4_factOfCell 122 = .ok (.ireturn, 1) := by decide +kernel
theorem dX4_factOfCell_123 : decode cX4_factOfCell 123 = .ok (.aload_n 0, 1) := by decide +kernel
theorem dX4_factOfCell_124 : decode cX4_factOfCell 124 = .ok (.getfield 12, 3) := by decide +kernel
theorem dX4_factOfCell_127 : decode cX4_factOfCell 127 = .ok (.iload_n 1, 1) := by decide +kernel
theorem dX4_factOfCell_128 : decode cX4_factOfCell 128 = .ok (.iload_n 2, 1) := by decide +kernel
theorem dX4_factOfCell_129 : decode cX4_factOfCell 129 = .ok (.invokevirtual 271, 3) := by decide +kernel
theorem dX4_factOfCell_132 : decode cX4_factOfCell 132 = .ok (.ireturn, 1) := by decide +kernel
theorem dX4_factOfCell_133 : decode cX4_factOfCell 133 = .ok (.iconst (-1), 1) := by decide +kernel
theorem dX4_factOfCell_134 : decode cX4_factOfCell 134 = .ok (.ireturn, 1) := by decide +kernel
set_option maxRecDepth 20000 in
theorem ggX4_factOfPage_X2_chosen : GoodIn wsX4_factOfPage wsX2_chosen := goodIn_r _ [7, 8, 9, 10, 43, 44, 45] (by decide +kernel) (by decide +kernel)
set_option maxRecDepth 20000 in
theorem gX4_factOfPage_X2_chosen : GoodIn wsX4_factOfPage (wsV RX4 143 RX2 yX2_chosen wsX2_chosen) := goodIn_app (goodIn_of _ (by decide +kernel)) ggX4_factOfPage_X2_chosen
set_option maxRecDepth 20000 in
theorem ggX4_factOfPage_X0_readAloud : GoodIn wsX4_factOfPage wsX0_readAloud := goodIn_r _ [15, 16, 17, 18, 19, 14, 20, 46, 47, 48, 49, 50, 51, 52, 53, 54, 29, 30, 31, 32, 33, 34, 35, 36, 37, 38, 39, 40, 41, 42, 55, 56, 57, 58, 59, 60, 61, 62] (by decide +kernel) (by decide +kernel)
set_option maxRecDepth 20000 in
theorem gX4_factOfPage_X0_readAloud : GoodIn wsX4_factOfPage (wsV RX4 289 RX0 yX0_readAloud wsX0_readAloud) := goodIn_app (goodIn_of _ (by decide +kernel)) ggX4_factOfPage_X0_readAloud
theorem dX4_factOfPage_0 : decode cX4_factOfPage 0 = .ok (.aload_n 0, 1) := by decide +kernel
theorem dX4_factOfPage_1 : decode cX4_factOfPage 1 = .ok (.getfield 19, 3) := by decide +kernel
theorem dX4_factOfPage_4 : decode cX4_factOfPage 4 = .ok (.invokevirtual 143, 3) := by decide +kernel
theorem dX4_factOfPage_7 : decode cX4_factOfPage 7 = .ok (.astore_n 3, 1) := by decide +kernel
theorem dX4_factOfPage_8 : decode cX4_factOfPage 8 = .ok (.iload_n 2, 1) := by decide +kernel
theorem dX4_factOfPage_9 : decode cX4_factOfPage 9 = .ok (.tableswitch 73 0 4 #[35, 42, 49, 56, 63], 35) := by decide +kernel
theorem dX4_factOfPage_44 : decode cX4_factOfPage 44 = .ok (.aload_n 3, 1) := by decide +kernel
theorem dX4_factOfPage_45 : decode cX4_factOfPage 45 = .ok (.getfield 237, 3) := by decide +kernel
theorem dX4_factOfPage_48 : decode cX4_factOfPage 48 = .ok (.iload_n 1, 1) := by decide +kernel
theorem dX4_factOfPage_49 : decode cX4_factOfPage 49 = .ok (.iaload, 1) := by decide +kernel
theorem dX4_factOfPage_50 : decode cX4_factOfPage 50 = .ok (.ireturn, 1) := by decide +kernel
theorem dX4_factOfPage_51 : decode cX4_factOfPage 51 = .ok (.aload_n 3, 1) := by decide +kernel
theorem dX4_factOfPage_52 : decode cX4_factOfPage 52 = .ok (.getfield 240, 3) := by decide +kernel
theorem dX4_factOfPage_55 : decode cX4_factOfPage 55 = .ok (.iload_n 1, 1) := by decide +kernel
theorem dX4_factOfPage_56 : decode cX4_factOfPage 56 = .ok (.iaload, 1) := by decide +kernel
theorem dX4_factOfPage_57 : decode cX4_factOfPage 57 = .ok (.ireturn, 1) := by decide +kernel
theorem dX4_factOfPage_58 : decode cX4_factOfPage 58 = .ok (.aload_n 3, 1) := by decide +kernel
theorem dX4_factOfPage_59 : decode cX4_factOfPage 59 = .ok (.getfield 286, 3) := by decide +kernel
theorem dX4_factOfPage_62 : decode cX4_factOfPage 62 = .ok (.iload_n 1, 1) := by decide +kernel
theorem dX4_factOfPage_63 : decode cX4_factOfPage 63 = .ok (.iaload, 1) := by decide +kernel
theorem dX4_factOfPage_64 : decode cX4_factOfPage 64 = .ok (.ireturn, 1) := by decide +kernel
theorem dX4_factOfPage_65 : decode cX4_factOfPage 65 = .ok (.aload_n 3, 1) := by decide +kernel
theorem dX4_factOfPage_66 : decode cX4_factOfPage 66 = .ok (.getfield 177, 3) := by decide +kernel
theorem dX4_factOfPage_69 : decode cX4_factOfPage 69 = .ok (.iload_n 1, 1) := by decide +kernel
theorem dX4_factOfPage_70 : decode cX4_factOfPage 70 = .ok (.iaload, 1) := by decide +kernel
theorem dX4_factOfPage_71 : decode cX4_factOfPage 71 = .ok (.ireturn, 1) := by decide +kernel
theorem dX4_factOfPage_72 : decode cX4_factOfPage 72 = .ok (.aload_n 3, 1) := by decide +kernel
theorem dX4_factOfPage_73 : decode cX4_factOfPage 73 = .ok (.aload_n 0, 1) := by decide +kernel
theorem dX4_factOfPage_74 : decode cX4_factOfPage 74 = .ok (.getfield 12, 3) := by decide +kernel
theorem dX4_factOfPage_77 : decode cX4_factOfPage 77 = .ok (.iload_n 1, 1) := by decide +kernel
theorem dX4_factOfPage_78 : decode cX4_factOfPage 78 = .ok (.invokevirtual 289, 3) := by decide +kernel
theorem dX4_factOfPage_81 : decode cX4_factOfPage 81 = .ok (.ireturn, 1) := by decide +kernel
theorem dX4_factOfPage_82 : decode cX4_factOfPage 82 = .ok (.iconst (-1), 1) := by decide +kernel
theorem dX4_factOfPage_83 : decode cX4_factOfPage 83 = .ok (.ireturn, 1) := by decide +kernel
theorem dX4_digestWith_0 : decode cX4_digestWith 0 = .ok (.lload_n 0, 1) := by decide +kernel
theorem dX4_digestWith_1 : decode cX4_digestWith 1 = .ok (.ldc2_w 293, 3) := by decide +kernel
theorem dX4_digestWith_4 : decode cX4_digestWith 4 = .ok (.lmul, 1) := by decide +kernel
theorem dX4_digestWith_5 : decode cX4_digestWith 5 = .ok (.iload_n 2, 1) := by decide +kernel
theorem dX4_digestWith_6 : decode cX4_digestWith 6 = .ok (.i2l, 1) := by decide +kernel
theorem dX4_digestWith_7 : decode cX4_digestWith 7 = .ok (.ladd, 1) := by decide +kernel
theorem dX4_digestWith_8 : decode cX4_digestWith 8 = .ok (.lreturn, 1) := by decide +kernel
set_option maxRecDepth 20000 in
theorem ggX4_digestWithRow_X4_factOfRow : GoodIn wsX4_digestWithRow wsX4_factOfRow := goodIn_r _ [6, 7, 8, 9, 10, 11, 12, 13, 14, 15, 46, 47, 48, 49, 50, 51, 52, 53, 63, 64, 65, 66, 67, 68, 69, 70, 71, 72, 73, 74, 75, 76, 77, 78, 79] (by decide +kernel) (by decide +kernel)
set_option maxRecDepth 20000 in
theorem gX4_digestWithRow_X4_factOfRow : GoodIn wsX4_digestWithRow (wsV RX4 157 RX4 yX4_factOfRow wsX4_factOfRow) := goodIn_app (goodIn_of _ (by decide +kernel)) ggX4_digestWithRow_X4_factOfRow
set_option maxRecDepth 20000 in
theorem ggX4_digestWithRow_X4_digestWith : GoodIn wsX4_digestWithRow wsX4_digestWith := goodIn_r _ [18, 19] (by decide +kernel) (by decide +kernel)
set_option maxRecDepth 20000 in
theorem gX4_digestWithRow_X4_digestWith : GoodIn wsX4_digestWithRow (va_wsS RX4 199 yX4_digestWith wsX4_digestWith) := goodIn_app (goodIn_of _ (by decide +kernel)) ggX4_digestWithRow_X4_digestWith
set_option maxRecDepth 20000 in
theorem ggX4_digestWithRow_X4_factOfCell : GoodIn wsX4_digestWithRow wsX4_factOfCell := goodIn_r _ [23, 7, 1, 8, 9, 10, 11, 12, 13, 14, 15, 24, 25, 26, 27, 28, 29, 30, 31, 32, 33, 34, 35, 36, 37, 38, 39, 40, 41, 42, 43, 44, 45, 46, 47, 48, 49, 50, 51, 52, 53, 54, 55, 56, 57, 58, 59, 60, 61, 62, 80, 81, 82, 83, 84, 85, 86, 87, 63, 64, 65, 66, 67, 68, 69, 70, 71, 72, 73, 74, 75, 76, 77, 78, 79] (by decide +kernel) (by decide +kernel)
set_option maxRecDepth 20000 in
theorem gX4_digestWithRow_X4_factOfCell : GoodIn wsX4_digestWithRow (wsV RX4 150 RX4 yX4_factOfCell wsX4_factOfCell) := goodIn_app (goodIn_of _ (by decide +kernel)) ggX4_digestWithRow_X4_factOfCell
theorem dX4_digestWithRow_0 : decode cX4_digestWithRow 0 = .ok (.lload_n 1, 1) := by decide +kernel
theorem dX4_digestWithRow_1 : decode cX4_digestWithRow 1 = .ok (.lstore 4, 2) := by decide +kernel
theorem dX4_digestWithRow_3 : decode cX4_digestWithRow 3 = .ok (.iconst 0, 1) := by decide +kernel
theorem dX4_digestWithRow_4 : decode cX4_digestWithRow 4 = .ok (.istore 6, 2) := by decide +kernel
theorem dX4_digestWithRow_6 : decode cX4_digestWithRow 6 = .ok (.iload 6, 2) := by decide +kernel
theorem dX4_digestWithRow_8 : decode cX4_digestWithRow 8 = .ok (.iconst 2, 1) := by decide +kernel
theorem dX4_digestWithRow_9 : decode cX4_digestWithRow 9 = .ok (.if_icmp .gt 23, 3) := by decide +kernel
theorem dX4_digestWithRow_12 : decode cX4_digestWithRow 12 = .ok (.lload 4, 2) := by decide +kernel
theorem dX4_digestWithRow_14 : decode cX4_digestWithRow 14 = .ok (.aload_n 0, 1) := by decide +kernel
theorem dX4_digestWithRow_15 : decode cX4_digestWithRow 15 = .ok (.iload_n 3, 1) := by decide +kernel
theorem dX4_digestWithRow_16 : decode cX4_digestWithRow 16 = .ok (.iload 6, 2) := by decide +kernel
theorem dX4_digestWithRow_18 : decode cX4_digestWithRow 18 = .ok (.invokevirtual 157, 3) := by decide +kernel
theorem dX4_digestWithRow_21 : decode cX4_digestWithRow 21 = .ok (.invokestatic 199, 3) := by decide +kernel
theorem dX4_digestWithRow_24 : decode cX4_digestWithRow 24 = .ok (.lstore 4, 2) := by decide +kernel
theorem dX4_digestWithRow_26 : decode cX4_digestWithRow 26 = .ok (.iinc 6 1, 3) := by decide +kernel
theorem dX4_digestWithRow_29 : decode cX4_digestWithRow 29 = .ok (.goto (-23), 3) := by decide +kernel
theorem dX4_digestWithRow_32 : decode cX4_digestWithRow 32 = .ok (.iconst 0, 1) := by decide +kernel
theorem dX4_digestWithRow_33 : decode cX4_digestWithRow 33 = .ok (.istore 6, 2) := by decide +kernel
theorem dX4_digestWithRow_35 : decode cX4_digestWithRow 35 = .ok (.iload 6, 2) := by decide +kernel
theorem dX4_digestWithRow_37 : decode cX4_digestWithRow 37 = .ok (.aload_n 0, 1) := by decide +kernel
theorem dX4_digestWithRow_38 : decode cX4_digestWithRow 38 = .ok (.getfield 12, 3) := by decide +kernel
theorem dX4_digestWithRow_41 : decode cX4_digestWithRow 41 = .ok (.getfield 119, 3) := by decide +kernel
theorem dX4_digestWithRow_44 : decode cX4_digestWithRow 44 = .ok (.if_icmp .ge 40, 3) := by decide +kernel
theorem dX4_digestWithRow_47 : decode cX4_digestWithRow 47 = .ok (.iconst 0, 1) := by decide +kernel
theorem dX4_digestWithRow_48 : decode cX4_digestWithRow 48 = .ok (.istore 7, 2) := by decide +kernel
theorem dX4_digestWithRow_50 : decode cX4_digestWithRow 50 = .ok (.iload 7, 2) := by decide +kernel
theorem dX4_digestWithRow_52 : decode cX4_digestWithRow 52 = .ok (.iconst 3, 1) := by decide +kernel
theorem dX4_digestWithRow_53 : decode cX4_digestWithRow 53 = .ok (.if_icmp .gt 25, 3) := by decide +kernel
theorem dX4_digestWithRow_56 : decode cX4_digestWithRow 56 = .ok (.lload 4, 2) := by decide +kernel
theorem dX4_digestWithRow_58 : decode cX4_digestWithRow 58 = .ok (.aload_n 0, 1) := by decide +kernel
theorem dX4_digestWithRow_59 : decode cX4_digestWithRow 59 = .ok (.iload_n 3, 1) := by decide +kernel
theorem dX4_digestWithRow_60 : decode cX4_digestWithRow 60 = .ok (.iload 6, 2) := by decide +kernel
theorem dX4_digestWithRow_62 : decode cX4_digestWithRow 62 = .ok (.iload 7, 2) := by decide +kernel
theorem dX4_digestWithRow_64 : decode cX4_digestWithRow 64 = .ok (.invokevirtual 150, 3) := by decide +kernel
theorem dX4_digestWithRow_67 : decode cX4_digestWithRow 67 = .ok (.invokestatic 199, 3) := by decide +kernel
theorem dX4_digestWithRow_70 : decode cX4_digestWithRow 70 = .ok (.lstore 4, 2) := by decide +kernel
theorem dX4_digestWithRow_72 : decode cX4_digestWithRow 72 = .ok (.iinc 7 1, 3) := by decide +kernel
theorem dX4_digestWithRow_75 : decode cX4_digestWithRow 75 = .ok (.goto (-25), 3) := by decide +kernel
theorem dX4_digestWithRow_78 : decode cX4_digestWithRow 78 = .ok (.iinc 6 1, 3) := by decide +kernel
theorem dX4_digestWithRow_81 : decode cX4_digestWithRow 81 = .ok (.goto (-46), 3) := by decide +kernel
theorem dX4_digestWithRow_84 : decode cX4_digestWithRow 84 = .ok (.lload 4, 2) := by decide +kernel
theorem dX4_digestWithRow_86 : decode cX4_digestWithRow 86 = .ok (.lreturn, 1) := by decide +kernel
set_option maxRecDepth 20000 in
theorem ggX4_digestWithPage_X4_factOfPage : GoodIn wsX4_digestWithPage wsX4_factOfPage := goodIn_r _ [7, 2, 1, 8, 9, 10, 11, 12, 13, 14, 15, 16, 17, 18, 19, 20, 21, 22, 23, 24, 25, 42, 43, 44, 45, 46, 47, 48, 49, 59, 60, 61, 62, 63, 64, 65, 66, 67, 68, 69, 70, 71, 72, 73, 74, 75, 50, 51, 52, 53, 54, 55, 56, 57, 58, 76, 77, 78, 79, 80, 81, 82, 83] (by decide +kernel) (by decide +kernel)
set_option maxRecDepth 20000 in
theorem gX4_digestWithPage_X4_factOfPage : GoodIn wsX4_digestWithPage (wsV RX4 163 RX4 yX4_factOfPage wsX4_factOfPage) := goodIn_app (goodIn_of _ (by decide +kernel)) ggX4_digestWithPage_X4_factOfPage
set_option maxRecDepth 20000 in
theorem ggX4_digestWithPage_X4_digestWith : GoodIn wsX4_digestWithPage wsX4_digestWith := goodIn_r _ [28, 29] (by decide +kernel) (by decide +kernel)
set_option maxRecDepth 20000 in
theorem gX4_digestWithPage_X4_digestWith : GoodIn wsX4_digestWithPage (va_wsS RX4 199 yX4_digestWith wsX4_digestWith) := goodIn_app (goodIn_of _ (by decide +kernel)) ggX4_digestWithPage_X4_digestWith
set_option maxRecDepth 20000 in
theorem ggX4_digestWithPage_X2_chosen : GoodIn wsX4_digestWithPage wsX2_chosen := goodIn_r _ [12, 13, 14, 15, 73, 74, 75] (by decide +kernel) (by decide +kernel)
set_option maxRecDepth 20000 in
theorem gX4_digestWithPage_X2_chosen : GoodIn wsX4_digestWithPage (wsV RX4 143 RX2 yX2_chosen wsX2_chosen) := goodIn_app (goodIn_of _ (by decide +kernel)) ggX4_digestWithPage_X2_chosen
set_option maxRecDepth 20000 in
theorem ggX4_digestWithPage_X0_carriedOn : GoodIn wsX4_digestWithPage wsX0_carriedOn := goodIn_r _ [33, 34, 35, 36, 37, 38, 39, 40, 41, 59, 60, 61, 62, 63, 64, 65, 66, 67, 68, 69, 70, 71, 72, 50, 51, 52, 53, 54, 55, 56, 57, 58, 76, 77, 78, 79, 80, 81, 82, 83] (by decide +kernel) (by decide +kernel)
set_option maxRecDepth 20000 in
theorem gX4_digestWithPage_X0_carriedOn : GoodIn wsX4_digestWithPage (wsV RX4 166 RX0 yX0_carriedOn wsX0_carriedOn) := goodIn_app (goodIn_of _ (by decide +kernel)) ggX4_digestWithPage_X0_carriedOn
theorem dX4_digestWithPage_0 : decode cX4_digestWithPage 0 = .ok (.lload_n 1, 1) := by decide +kernel
theorem dX4_digestWithPage_1 : decode cX4_digestWithPage 1 = .ok (.lstore 4, 2) := by decide +kernel
theorem dX4_digestWithPage_3 : decode cX4_digestWithPage 3 = .ok (.iconst 0, 1) := by decide +kernel
theorem dX4_digestWithPage_4 : decode cX4_digestWithPage 4 = .ok (.istore 6, 2) := by decide +kernel
theorem dX4_digestWithPage_6 : decode cX4_digestWithPage 6 = .ok (.iload 6, 2) := by decide +kernel
theorem dX4_digestWithPage_8 : decode cX4_digestWithPage 8 = .ok (.iconst 4, 1) := by decide +kernel
theorem dX4_digestWithPage_9 : decode cX4_digestWithPage 9 = .ok (.if_icmp .gt 23, 3) := by decide +kernel
theorem dX4_digestWithPage_12 : decode cX4_digestWithPage 12 = .ok (.lload 4, 2) := by decide +kernel
theorem dX4_digestWithPage_14 : decode cX4_digestWithPage 14 = .ok (.aload_n 0, 1) := by decide +kernel
theorem dX4_digestWithPage_15 : decode cX4_digestWithPage 15 = .ok (.iload_n 3, 1) := by decide +kernel
theorem dX4_digestWithPage_16 : decode cX4_digestWithPage 16 = .ok (.iload 6, 2) := by decide +kernel
theorem dX4_digestWithPage_18 : decode cX4_digestWithPage 18 = .ok (.invokevirtual 163, 3) := by decide +kernel
theorem dX4_digestWithPage_21 : decode cX4_digestWithPage 21 = .ok (.invokestatic 199, 3) := by decide +kernel
theorem dX4_digestWithPage_24 : decode cX4_digestWithPage 24 = .ok (.lstore 4, 2) := by decide +kernel
theorem dX4_digestWithPage_26 : decode cX4_digestWithPage 26 = .ok (.iinc 6 1, 3) := by decide +kernel
theorem dX4_digestWithPage_29 : decode cX4_digestWithPage 29 = .ok (.goto (-23), 3) := by decide +kernel
theorem dX4_digestWithPage_32 : decode cX4_digestWithPage 32 = .ok (.iconst 0, 1) := by decide +kernel
theorem dX4_digestWithPage_33 : decode cX4_digestWithPage 33 = .ok (.istore 6, 2) := by decide +kernel
theorem dX4_digestWithPage_35 : decode cX4_digestWithPage 35 = .ok (.iload 6, 2) := by decide +kernel
theorem dX4_digestWithPage_37 : decode cX4_digestWithPage 37 = .ok (.aload_n 0, 1) := by decide +kernel
theorem dX4_digestWithPage_38 : decode cX4_digestWithPage 38 = .ok (.getfield 12, 3) := by decide +kernel
theorem dX4_digestWithPage_41 : decode cX4_digestWithPage 41 = .ok (.getfield 119, 3) := by decide +kernel
theorem dX4_digestWithPage_44 : decode cX4_digestWithPage 44 = .ok (.if_icmp .ge 33, 3) := by decide +kernel
theorem dX4_digestWithPage_47 : decode cX4_digestWithPage 47 = .ok (.lload 4, 2) := by decide +kernel
theorem dX4_digestWithPage_49 : decode cX4_digestWithPage 49 = .ok (.aload_n 0, 1) := by decide +kernel
theorem dX4_digestWithPage_50 : decode cX4_digestWithPage 50 = .ok (.getfield 19, 3) := by decide +kernel
theorem dX4_digestWithPage_53 : decode cX4_digestWithPage 53 = .ok (.invokevirtual 143, 3) := by decide +kernel
theorem dX4_digestWithPage_56 : decode cX4_digestWithPage 56 = .ok (.aload_n 0, 1) := by decide +kernel
theorem dX4_digestWithPage_57 : decode cX4_digestWithPage 57 = .ok (.getfield 12, 3) := by decide +kernel
theorem dX4_digestWithPage_60 : decode cX4_digestWithPage 60 = .ok (.iload_n 3, 1) := by decide +kernel
theorem dX4_digestWithPage_61 : decode cX4_digestWithPage 61 = .ok (.iload 6, 2) := by decide +kernel
theorem dX4_digestWithPage_63 : decode cX4_digestWithPage 63 = .ok (.invokevirtual 166, 3) := by decide +kernel
theorem dX4_digestWithPage_66 : decode cX4_digestWithPage 66 = .ok (.invokestatic 199, 3) := by decide +kernel
theorem dX4_digestWithPage_69 : decode cX4_digestWithPage 69 = .ok (.lstore 4, 2) := by decide +kernel
theorem dX4_digestWithPage_71 : decode cX4_digestWithPage 71 = .ok (.iinc 6 1, 3) := by decide +kernel
theorem dX4_digestWithPage_74 : decode cX4_digestWithPage 74 = .ok (.goto (-39), 3) := by decide +kernel
theorem dX4_digestWithPage_77 : decode cX4_digestWithPage 77 = .ok (.lload 4, 2) := by decide +kernel
theorem dX4_digestWithPage_79 : decode cX4_digestWithPage 79 = .ok (.lreturn, 1) := by decide +kernel
theorem dJ9_max_7cf53_0 : decode cJ9_max_7cf53 0 = .ok (.iload_n 0, 1) := by decide +kernel
theorem dJ9_max_7cf53_1 : decode cJ9_max_7cf53 1 = .ok (.iload_n 1, 1) := by decide +kernel
theorem dJ9_max_7cf53_2 : decode cJ9_max_7cf53 2 = .ok (.if_icmp .lt 7, 3) := by decide +kernel
theorem dJ9_max_7cf53_5 : decode cJ9_max_7cf53 5 = .ok (.iload_n 0, 1) := by decide +kernel
theorem dJ9_max_7cf53_6 : decode cJ9_max_7cf53 6 = .ok (.goto 4, 3) := by decide +kernel
theorem dJ9_max_7cf53_9 : decode cJ9_max_7cf53 9 = .ok (.iload_n 1, 1) := by decide +kernel
theorem dJ9_max_7cf53_10 : decode cJ9_max_7cf53 10 = .ok (.ireturn, 1) := by decide +kernel
theorem dJ9_max_f86c9_0 : decode cJ9_max_f86c9 0 = .ok (.lload_n 0, 1) := by decide +kernel
theorem dJ9_max_f86c9_1 : decode cJ9_max_f86c9 1 = .ok (.lload_n 2, 1) := by decide +kernel
theorem dJ9_max_f86c9_2 : decode cJ9_max_f86c9 2 = .ok (.lcmp, 1) := by decide +kernel
theorem dJ9_max_f86c9_3 : decode cJ9_max_f86c9 3 = .ok (.ifCond .lt 7, 3) := by decide +kernel
theorem dJ9_max_f86c9_6 : decode cJ9_max_f86c9 6 = .ok (.lload_n 0, 1) := by decide +kernel
theorem dJ9_max_f86c9_7 : decode cJ9_max_f86c9 7 = .ok (.goto 4, 3) := by decide +kernel
theorem dJ9_max_f86c9_10 : decode cJ9_max_f86c9 10 = .ok (.lload_n 2, 1) := by decide +kernel
theorem dJ9_max_f86c9_11 : decode cJ9_max_f86c9 11 = .ok (.lreturn, 1) := by decide +kernel
theorem dJ9_min_7cf53_0 : decode cJ9_min_7cf53 0 = .ok (.iload_n 0, 1) := by decide +kernel
theorem dJ9_min_7cf53_1 : decode cJ9_min_7cf53 1 = .ok (.iload_n 1, 1) := by decide +kernel
theorem dJ9_min_7cf53_2 : decode cJ9_min_7cf53 2 = .ok (.if_icmp .gt 7, 3) := by decide +kernel
theorem dJ9_min_7cf53_5 : decode cJ9_min_7cf53 5 = .ok (.iload_n 0, 1) := by decide +kernel
theorem dJ9_min_7cf53_6 : decode cJ9_min_7cf53 6 = .ok (.goto 4, 3) := by decide +kernel
theorem dJ9_min_7cf53_9 : decode cJ9_min_7cf53 9 = .ok (.iload_n 1, 1) := by decide +kernel
theorem dJ9_min_7cf53_10 : decode cJ9_min_7cf53 10 = .ok (.ireturn, 1) := by decide +kernel
theorem dJ9_min_f86c9_0 : decode cJ9_min_f86c9 0 = .ok (.lload_n 0, 1) := by decide +kernel
theorem dJ9_min_f86c9_1 : decode cJ9_min_f86c9 1 = .ok (.lload_n 2, 1) := by decide +kernel
theorem dJ9_min_f86c9_2 : decode cJ9_min_f86c9 2 = .ok (.lcmp, 1) := by decide +kernel
theorem dJ9_min_f86c9_3 : decode cJ9_min_f86c9 3 = .ok (.ifCond .gt 7, 3) := by decide +kernel
theorem dJ9_min_f86c9_6 : decode cJ9_min_f86c9 6 = .ok (.lload_n 0, 1) := by decide +kernel
theorem dJ9_min_f86c9_7 : decode cJ9_min_f86c9 7 = .ok (.goto 4, 3) := by decide +kernel
theorem dJ9_min_f86c9_10 : decode cJ9_min_f86c9 10 = .ok (.lload_n 2, 1) := by decide +kernel
theorem dJ9_min_f86c9_11 : decode cJ9_min_f86c9 11 = .ok (.lreturn, 1) := by decide +kernel
theorem dL_below_0 : decode cL_below 0 = .ok (.iload_n 0, 1) := by decide +kernel
theorem dL_below_1 : decode cL_below 1 = .ok (.ldc 7, 2) := by decide +kernel
theorem dL_below_3 : decode cL_below 3 = .ok (.iand, 1) := by decide +kernel
theorem dL_below_4 : decode cL_below 4 = .ok (.iload_n 1, 1) := by decide +kernel
theorem dL_below_5 : decode cL_below 5 = .ok (.irem, 1) := by decide +kernel
theorem dL_below_6 : decode cL_below 6 = .ok (.ireturn, 1) := by decide +kernel
theorem dL_cell_0 : decode cL_cell 0 = .ok (.iload_n 1, 1) := by decide +kernel
theorem dL_cell_1 : decode cL_cell 1 = .ok (.aload_n 0, 1) := by decide +kernel
theorem dL_cell_2 : decode cL_cell 2 = .ok (.arraylength, 1) := by decide +kernel
theorem dL_cell_3 : decode cL_cell 3 = .ok (.if_icmp .ge 9, 3) := by decide +kernel
theorem dL_cell_6 : decode cL_cell 6 = .ok (.aload_n 0, 1) := by decide +kernel
theorem dL_cell_7 : decode cL_cell 7 = .ok (.iload_n 1, 1) := by decide +kernel
theorem dL_cell_8 : decode cL_cell 8 = .ok (.iaload, 1) := by decide +kernel
theorem dL_cell_9 : decode cL_cell 9 = .ok (.goto 9, 3) := by decide +kernel
theorem dL_cell_12 : decode cL_cell 12 = .ok (.ldc 8, 2) := by decide +kernel
theorem dL_cell_14 : decode cL_cell 14 = .ok (.iload_n 1, 1) := by decide +kernel
theorem dL_cell_15 : decode cL_cell 15 = .ok (.iconst 3, 1) := by decide +kernel
theorem dL_cell_16 : decode cL_cell 16 = .ok (.iadd, 1) := by decide +kernel
theorem dL_cell_17 : decode cL_cell 17 = .ok (.imul, 1) := by decide +kernel
theorem dL_cell_18 : decode cL_cell 18 = .ok (.ireturn, 1) := by decide +kernel
set_option maxRecDepth 20000 in
theorem ggL_law_X4_init : GoodIn wsL_law wsX4_init := goodIn_r _ [11, 12, 13, 14, 15, 16, 17, 18, 19, 20, 21, 22, 23, 24, 25, 26, 27, 28, 29, 30, 31, 32, 33, 34, 35, 4, 36, 37, 38, 39, 40, 41, 42, 43, 44, 45, 46, 47, 48, 49, 50, 51, 3, 52, 53, 54, 55, 56, 57, 58, 59, 60, 61, 62, 63, 64, 65, 66, 67, 68, 69, 70, 71, 72, 410, 411, 412, 413, 414, 415, 416, 417, 418, 402, 403, 404, 405, 406, 407, 408, 409, 419, 420, 421, 422, 423, 424, 425, 426, 427, 428, 429, 430, 431, 432, 433, 434, 435, 436, 437, 438, 439, 440, 441, 442, 443] (by decide +kernel) (by decide +kernel)
set_option maxRecDepth 20000 in
theorem gL_law_X4_init : GoodIn wsL_law (wsX4_init) := ggL_law_X4_init
set_option maxRecDepth 20000 in
theorem ggL_law_L_cell : GoodIn wsL_law wsL_cell := goodIn_r _ [76, 77] (by decide +kernel) (by decide +kernel)
set_option maxRecDepth 20000 in
theorem gL_law_L_cell : GoodIn wsL_law (va_wsS RL 12 yL_cell wsL_cell) := goodIn_app (goodIn_of _ (by decide +kernel)) ggL_law_L_cell
set_option maxRecDepth 20000 in
theorem ggL_law_L_below : GoodIn wsL_law wsL_below := goodIn_r _ [80, 81] (by decide +kernel) (by decide +kernel)
set_option maxRecDepth 20000 in
theorem gL_law_L_below : GoodIn wsL_law (va_wsS RL 18 yL_below wsL_below) := goodIn_app (goodIn_of _ (by decide +kernel)) ggL_law_L_below
set_option maxRecDepth 20000 in
theorem ggL_law_X4_column : GoodIn wsL_law wsX4_column := goodIn_ca (goodIn_ca (goodIn_r _ [85, 25, 18, 86, 87, 2, 88, 89, 90, 91, 92, 93, 94, 95, 96, 97, 98, 99, 17, 100, 101, 36, 37, 402, 403, 404, 405, 406, 407, 408, 409, 410, 411, 412, 413, 414, 415, 416, 417, 418] (by decide +kernel) (by decide +kernel)) (goodIn_sub (fun _ h => List.mem_append_left _ (List.mem_append_left _ (List.mem_append_right _ h))) (by decide +kernel))) (goodIn_sub (fun _ h => List.mem_append_left _ (List.mem_append_right _ h)) (by decide +kernel))
set_option maxRecDepth 20000 in
theorem gL_law_X4_column : GoodIn wsL_law (wsV RL 22 RX4 yX4_column wsX4_column) := goodIn_app (goodIn_of _ (by decide +kernel)) ggL_law_X4_column
set_option maxRecDepth 20000 in
theorem ggL_law_X4_many : GoodIn wsL_law wsX4_many := goodIn_ca (goodIn_r _ [105, 86, 87, 2, 88, 89, 90, 106, 107, 108, 109, 25, 18, 22, 23, 24, 110, 111, 112, 17, 113, 101, 36, 114, 115, 116, 117, 118, 41, 119, 120, 121, 122, 38, 39, 123, 124, 125, 126, 127, 128, 129, 7, 130, 131, 132, 133, 134, 135, 136, 137, 37, 138, 139, 140, 42, 43, 141, 6, 8, 142, 143, 144, 145, 146, 147, 148, 149, 150, 151, 152, 153, 154, 155, 21, 156, 59, 60, 157, 158, 159, 160, 30, 161, 162, 163, 164, 165, 166, 167, 168, 169, 170, 64, 171, 172, 173, 174, 175, 176, 177, 178, 179, 180, 181, 182, 183, 65, 184, 185, 186, 187, 188, 189, 190, 191, 192, 68, 69, 70, 71, 72, 193, 194, 195, 196, 67, 197, 198, 199, 200, 201, 202, 203, 204, 205, 206, 207, 208, 66, 209, 210, 211, 212, 213, 214, 215, 216, 217, 218, 219, 220, 221, 222, 223, 224, 225, 226, 227, 228, 229, 230, 231, 232, 233, 402, 403, 404, 405, 406, 407, 408, 409, 410, 411, 412, 413, 414, 415, 416, 417, 418, 436, 437, 438, 439, 440, 441, 442, 443, 419, 420, 421, 422, 423, 424, 425, 426, 427, 428, 429, 430, 431, 432, 433, 434, 435] (by decide +kernel) (by decide +kernel)) (goodIn_sub (fun _ h => List.mem_append_left _ (List.mem_append_left _ (List.mem_append_right _ h))) (by decide +kernel))
set_option maxRecDepth 20000 in
theorem gL_law_X4_many : GoodIn wsL_law (wsV RL 26 RX4 yX4_many wsX4_many) := goodIn_app (goodIn_of _ (by decide +kernel)) ggL_law_X4_many
set_option maxRecDepth 20000 in
theorem ggL_law_X4_row : GoodIn wsL_law wsX4_row := goodIn_ca (goodIn_r _ [237, 95, 96, 18, 25, 238, 239, 240, 17, 241, 41, 118, 242, 243, 244, 45, 245, 49, 50, 51, 52, 246, 247, 402, 403, 404, 405, 406, 407, 408, 409, 410, 411, 412, 413, 414, 415, 416, 417, 418, 436, 437, 438, 439, 440, 441, 442, 443] (by decide +kernel) (by decide +kernel)) (goodIn_sub (fun _ h => List.mem_append_left _ (List.mem_append_right _ h)) (by decide +kernel))
set_option maxRecDepth 20000 in
theorem gL_law_X4_row : GoodIn wsL_law (wsV RL 30 RX4 yX4_row wsX4_row) := goodIn_app (goodIn_of _ (by decide +kernel)) ggL_law_X4_row
set_option maxRecDepth 20000 in
theorem ggL_law_X4_note : GoodIn wsL_law wsX4_note := goodIn_ca (goodIn_ca (goodIn_r _ [251, 25, 18, 252, 253, 254, 2, 255, 256, 257, 86, 87, 88, 89, 90, 402, 403, 404, 405, 406, 407, 408, 409, 410, 411, 412, 413, 414, 415, 416, 417, 418, 436, 437, 438, 439, 440, 441, 442, 443] (by decide +kernel) (by decide +kernel)) (goodIn_sub (fun _ h => List.mem_append_right _ h) (by decide +kernel))) (goodIn_sub (fun _ h => List.mem_append_left _ (List.mem_append_left _ (List.mem_append_right _ h))) (by decide +kernel))
set_option maxRecDepth 20000 in
theorem gL_law_X4_note : GoodIn wsL_law (wsV RL 34 RX4 yX4_note wsX4_note) := goodIn_app (goodIn_of _ (by decide +kernel)) ggL_law_X4_note
set_option maxRecDepth 20000 in
theorem ggL_law_X4_keep : GoodIn wsL_law wsX4_keep := goodIn_ca (goodIn_r _ [261, 25, 18, 252, 253, 254, 2, 255, 256, 257, 402, 403, 404, 405, 406, 407, 408, 409, 410, 411, 412, 413, 414, 415, 416, 417, 418, 436, 437, 438, 439, 440, 441, 442, 443] (by decide +kernel) (by decide +kernel)) (goodIn_sub (fun _ h => List.mem_append_right _ h) (by decide +kernel))
set_option maxRecDepth 20000 in
theorem gL_law_X4_keep : GoodIn wsL_law (wsV RL 37 RX4 yX4_keep wsX4_keep) := goodIn_app (goodIn_of _ (by decide +kernel)) ggL_law_X4_keep
set_option maxRecDepth 20000 in
theorem ggL_law_X4_span : GoodIn wsL_law wsX4_span := goodIn_ca (goodIn_ca (goodIn_r _ [265, 89, 90, 18, 25, 252, 253, 254, 2, 255, 256, 257, 266, 267, 268, 269, 270, 271, 272, 273, 106, 107, 108, 109, 22, 23, 24, 110, 111, 112, 17, 113, 101, 36, 114, 115, 116, 117, 118, 41, 119, 120, 121, 122, 38, 39, 123, 124, 125, 126, 127, 128, 129, 7, 130, 131, 132, 133, 134, 135, 136, 137, 37, 138, 139, 140, 42, 43, 141, 6, 8, 142, 143, 144, 145, 146, 147, 148, 149, 150, 151, 152, 153, 154, 155, 21, 156, 59, 60, 157, 158, 159, 160, 30, 161, 162, 163, 164, 165, 166, 167, 168, 169, 170, 64, 171, 172, 173, 174, 175, 176, 177, 178, 179, 180, 181, 182, 183, 65, 184, 185, 186, 187, 188, 189, 190, 191, 192, 68, 69, 70, 71, 72, 193, 194, 195, 196, 67, 197, 198, 199, 200, 201, 202, 203, 204, 205, 206, 207, 208, 66, 402, 403, 404, 405, 406, 407, 408, 409, 410, 411, 412, 413, 414, 415, 416, 417, 418, 436, 437, 438, 439, 440, 441, 442, 443, 419, 420, 421, 422, 423, 424, 425, 426, 427, 428, 429, 430, 431, 432, 433, 434, 435] (by decide +kernel) (by decide +kernel)) (goodIn_sub (fun _ h => List.mem_append_left _ (List.mem_append_left _ (List.mem_append_right _ h))) (by decide +kernel))) (goodIn_sub (fun _ h => List.mem_append_right _ h) (by decide +kernel))
set_option maxRecDepth 20000 in
theorem gL_law_X4_span : GoodIn wsL_law (wsV RL 41 RX4 yX4_span wsX4_span) := goodIn_app (goodIn_of _ (by decide +kernel)) ggL_law_X4_span
set_option maxRecDepth 20000 in
theorem ggL_law_X4_text : GoodIn wsL_law wsX4_text := goodIn_ca (goodIn_ca (goodIn_r _ [277, 278, 6, 7, 8, 25, 18, 252, 253, 254, 2, 255, 256, 257, 266, 267, 268, 269, 270, 271, 272, 273, 89, 90, 86, 87, 88, 402, 403, 404, 405, 406, 407, 408, 409, 410, 411, 412, 413, 414, 415, 416, 417, 418, 436, 437, 438, 439, 440, 441, 442, 443] (by decide +kernel) (by decide +kernel)) (goodIn_sub (fun _ h => List.mem_append_right _ h) (by decide +kernel))) (goodIn_sub (fun _ h => List.mem_append_left _ (List.mem_append_left _ (List.mem_append_right _ h))) (by decide +kernel))
set_option maxRecDepth 20000 in
theorem gL_law_X4_text : GoodIn wsL_law (wsV RL 50 RX4 yX4_text wsX4_text) := goodIn_app (goodIn_of _ (by decide +kernel)) ggL_law_X4_text
set_option maxRecDepth 20000 in
theorem ggL_law_X4_number : GoodIn wsL_law wsX4_number := goodIn_ca (goodIn_ca (goodIn_r _ [282, 25, 18, 283, 284, 285, 2, 286, 252, 253, 254, 255, 256, 257, 266, 267, 268, 269, 270, 271, 272, 273, 89, 90, 86, 87, 88, 402, 403, 404, 405, 406, 407, 408, 409, 410, 411, 412, 413, 414, 415, 416, 417, 418, 436, 437, 438, 439, 440, 441, 442, 443] (by decide +kernel) (by decide +kernel)) (goodIn_sub (fun _ h => List.mem_append_right _ h) (by decide +kernel))) (goodIn_sub (fun _ h => List.mem_append_left _ (List.mem_append_left _ (List.mem_append_right _ h))) (by decide +kernel))
set_option maxRecDepth 20000 in
theorem gL_law_X4_number : GoodIn wsL_law (wsV RL 54 RX4 yX4_number wsX4_number) := goodIn_app (goodIn_of _ (by decide +kernel)) ggL_law_X4_number
set_option maxRecDepth 20000 in
theorem ggL_law_X4_paper : GoodIn wsL_law wsX4_paper := goodIn_ca (goodIn_r _ [290, 25, 23, 24, 22, 86, 87, 2, 88, 89, 90, 106, 107, 108, 109, 18, 110, 111, 112, 17, 113, 101, 36, 114, 115, 116, 117, 118, 41, 119, 120, 121, 122, 38, 39, 123, 124, 125, 126, 127, 128, 129, 7, 130, 131, 132, 133, 134, 135, 136, 137, 37, 138, 139, 140, 42, 43, 141, 6, 8, 142, 143, 144, 145, 146, 147, 148, 149, 150, 151, 152, 153, 154, 155, 21, 156, 59, 60, 157, 158, 159, 160, 30, 161, 162, 163, 164, 165, 166, 167, 168, 169, 170, 64, 171, 172, 173, 174, 175, 176, 177, 178, 179, 180, 181, 182, 183, 65, 184, 185, 186, 187, 188, 189, 190, 191, 192, 68, 69, 70, 71, 72, 193, 194, 195, 196, 67, 197, 198, 199, 200, 201, 202, 203, 204, 205, 206, 207, 208, 66, 213, 214, 215, 216, 217, 218, 219, 220, 402, 403, 404, 405, 406, 407, 408, 409, 410, 411, 412, 413, 414, 415, 416, 417, 418, 436, 437, 438, 439, 440, 441, 442, 443, 419, 420, 421, 422, 423, 424, 425, 426, 427, 428, 429, 430, 431, 432, 433, 434, 435] (by decide +kernel) (by decide +kernel)) (goodIn_sub (fun _ h => List.mem_append_left _ (List.mem_append_left _ (List.mem_append_right _ h))) (by decide +kernel))
set_option maxRecDepth 20000 in
theorem gL_law_X4_paper : GoodIn wsL_law (wsV RL 58 RX4 yX4_paper wsX4_paper) := goodIn_app (goodIn_of _ (by decide +kernel)) ggL_law_X4_paper
set_option maxRecDepth 20000 in
theorem ggL_law_X4_pagesWith : GoodIn wsL_law wsX4_pagesWith := goodIn_ca (goodIn_r _ [294, 86, 87, 2, 88, 89, 90, 106, 107, 108, 109, 25, 18, 22, 23, 24, 110, 111, 112, 17, 113, 101, 36, 114, 115, 116, 117, 118, 41, 119, 120, 121, 122, 38, 39, 123, 124, 125, 126, 127, 128, 129, 7, 130, 131, 132, 133, 134, 135, 136, 137, 37, 138, 139, 140, 42, 43, 141, 6, 8, 142, 143, 144, 145, 146, 147, 148, 149, 150, 151, 152, 153, 154, 155, 21, 156, 59, 60, 157, 158, 159, 160, 30, 161, 162, 163, 164, 165, 166, 167, 168, 169, 170, 64, 171, 172, 173, 174, 175, 176, 177, 178, 179, 180, 181, 182, 183, 65, 184, 185, 186, 187, 188, 189, 190, 191, 192, 68, 69, 70, 71, 72, 193, 194, 195, 196, 67, 197, 198, 199, 200, 201, 202, 203, 204, 205, 206, 207, 208, 66, 295, 296, 297, 298, 31, 299, 217, 218, 219, 220, 402, 403, 404, 405, 406, 407, 408, 409, 410, 411, 412, 413, 414, 415, 416, 417, 418, 436, 437, 438, 439, 440, 441, 442, 443, 419, 420, 421, 422, 423, 424, 425, 426, 427, 428, 429, 430, 431, 432, 433, 434, 435] (by decide +kernel) (by decide +kernel)) (goodIn_sub (fun _ h => List.mem_append_left _ (List.mem_append_left _ (List.mem_append_right _ h))) (by decide +kernel))
set_option maxRecDepth 20000 in
theorem gL_law_X4_pagesWith : GoodIn wsL_law (wsV RL 61 RX4 yX4_pagesWith wsX4_pagesWith) := goodIn_app (goodIn_of _ (by decide +kernel)) ggL_law_X4_pagesWith
set_option maxRecDepth 20000 in
theorem ggL_law_L_isLaid : GoodIn wsL_law wsL_isLaid := goodIn_ca (goodIn_ca (goodIn_r _ [302, 303, 139, 7, 140, 102, 103, 104, 2, 105, 86, 87, 88, 89, 90, 106, 107, 108, 109, 25, 18, 22, 23, 24, 110, 111, 112, 17, 113, 101, 36, 114, 115, 116, 117, 118, 41, 119, 120, 121, 122, 38, 39, 123, 124, 125, 126, 127, 128, 129, 130, 131, 132, 133, 134, 135, 136, 137, 37, 138, 42, 43, 141, 6, 8, 142, 143, 144, 145, 146, 147, 148, 149, 150, 151, 152, 153, 154, 155, 21, 156, 59, 60, 157, 158, 159, 160, 30, 161, 162, 163, 164, 165, 166, 167, 168, 169, 170, 64, 171, 172, 173, 174, 175, 176, 177, 178, 179, 180, 181, 182, 183, 65, 184, 185, 186, 187, 188, 189, 190, 191, 192, 68, 69, 70, 71, 72, 193, 194, 195, 196, 67, 197, 198, 199, 200, 201, 202, 203, 204, 205, 206, 207, 208, 66, 209, 210, 211, 212, 213, 214, 215, 216, 217, 218, 219, 220, 221, 222, 223, 224, 225, 226, 227, 228, 229, 230, 231, 232, 233, 304, 305, 306, 307, 266, 267, 268, 269, 256, 257, 308, 309, 310, 311, 312, 313, 314, 315, 316, 317, 318, 319, 320, 321, 322, 323, 324, 325, 326, 327, 328, 329, 330, 331, 332, 333, 334, 335, 336, 337, 338, 252, 253, 254, 255, 339, 340, 341, 342, 343, 344, 345, 346, 347, 348, 349, 350, 351, 352, 353, 354, 355, 356, 357, 358, 359, 360, 361, 362, 75, 363, 402, 403, 404, 405, 406, 407, 408, 409, 410, 411, 412, 413, 414, 415, 416, 417, 418, 436, 437, 438, 439, 440, 441, 442, 443, 419, 420, 421, 422, 423, 424, 425, 426, 427, 428, 429, 430, 431, 432, 433, 434, 435] (by decide +kernel) (by decide +kernel)) (goodIn_sub (fun _ h => List.mem_append_left _ (List.mem_append_left _ (List.mem_append_right _ h))) (by decide +kernel))) (goodIn_sub (fun _ h => List.mem_append_right _ h) (by decide +kernel))
set_option maxRecDepth 20000 in
theorem gL_law_L_isLaid : GoodIn wsL_law (va_wsS RL 65 yL_isLaid wsL_isLaid) := goodIn_app (goodIn_of _ (by decide +kernel)) ggL_law_L_isLaid
set_option maxRecDepth 20000 in
theorem ggL_law_X4_digest : GoodIn wsL_law wsX4_digest := goodIn_r _ [367, 368, 18, 22, 106, 107, 108, 2, 109, 25, 23, 24, 110, 111, 112, 17, 113, 101, 36, 114, 115, 116, 117, 118, 41, 119, 120, 121, 122, 38, 39, 123, 124, 125, 126, 127, 128, 129, 7, 130, 131, 132, 133, 134, 135, 136, 137, 37, 138, 139, 140, 42, 43, 141, 6, 8, 142, 143, 144, 145, 146, 147, 148, 149, 150, 151, 152, 153, 154, 155, 21, 156, 59, 60, 157, 158, 159, 160, 30, 161, 162, 163, 164, 165, 166, 167, 168, 169, 170, 64, 171, 172, 173, 174, 175, 176, 177, 178, 179, 180, 181, 182, 183, 65, 184, 185, 186, 187, 188, 189, 190, 191, 192, 68, 69, 70, 71, 72, 193, 194, 195, 196, 67, 197, 198, 199, 200, 201, 202, 203, 204, 205, 206, 207, 208, 66, 209, 210, 211, 212, 213, 214, 215, 216, 217, 218, 219, 220, 221, 222, 223, 224, 225, 226, 227, 228, 229, 230, 231, 232, 233, 369, 370, 371, 372, 308, 309, 310, 311, 312, 313, 314, 315, 373, 374, 375, 376, 339, 340, 341, 342, 356, 357, 358, 359, 360, 377, 378, 379, 380, 324, 325, 326, 327, 328, 329, 330, 331, 332, 333, 334, 347, 348, 349, 350, 351, 295, 296, 297, 298, 31, 299, 402, 403, 404, 405, 406, 407, 408, 409, 410, 411, 412, 413, 414, 415, 416, 417, 418, 422, 423, 424, 425, 426, 427, 428, 429, 430, 431, 432, 433, 434, 435, 436, 437, 438, 439, 440, 441, 442, 443, 419, 420, 421] (by decide +kernel) (by decide +kernel)
set_option maxRecDepth 20000 in
theorem gL_law_X4_digest : GoodIn wsL_law (wsV RL 69 RX4 yX4_digest wsX4_digest) := goodIn_app (goodIn_of _ (by decide +kernel)) ggL_law_X4_digest
set_option maxRecDepth 20000 in
theorem ggL_law_X4_cell : GoodIn wsL_law wsX4_cell := goodIn_ca (goodIn_ca (goodIn_r _ [355, 252, 253, 254, 2, 255, 256, 257, 18, 266, 267, 268, 269, 86, 87, 88, 89, 90, 106, 107, 108, 109, 25, 22, 23, 24, 110, 111, 112, 17, 113, 101, 36, 114, 115, 116, 117, 118, 41, 119, 120, 121, 122, 38, 39, 123, 124, 125, 126, 127, 128, 129, 7, 130, 131, 132, 133, 134, 135, 136, 137, 37, 138, 139, 140, 42, 43, 141, 6, 8, 142, 143, 144, 145, 146, 147, 148, 149, 150, 151, 152, 153, 154, 155, 21, 156, 59, 60, 157, 158, 159, 160, 30, 161, 162, 163, 164, 165, 166, 167, 168, 169, 170, 64, 171, 172, 173, 174, 175, 176, 177, 178, 179, 180, 181, 182, 183, 65, 184, 185, 186, 187, 188, 189, 190, 191, 192, 68, 69, 70, 71, 72, 193, 194, 195, 196, 67, 197, 198, 199, 200, 201, 202, 203, 204, 205, 206, 207, 208, 66, 356, 357, 358, 359, 213, 214, 215, 216, 360, 312, 313, 314, 315, 402, 403, 404, 405, 406, 407, 408, 409, 410, 411, 412, 413, 414, 415, 416, 417, 418, 436, 437, 438, 439, 440, 441, 442, 443, 419, 420, 421, 422, 423, 424, 425, 426, 427, 428, 429, 430, 431, 432, 433, 434, 435] (by decide +kernel) (by decide +kernel)) (goodIn_sub (fun _ h => List.mem_append_right _ h) (by decide +kernel))) (goodIn_sub (fun _ h => List.mem_append_left _ (List.mem_append_left _ (List.mem_append_right _ h))) (by decide +kernel))
set_option maxRecDepth 20000 in
theorem gL_law_X4_cell : GoodIn wsL_law (wsV RL 73 RX4 yX4_cell wsX4_cell) := goodIn_app (goodIn_of _ (by decide +kernel)) ggL_law_X4_cell
set_option maxRecDepth 20000 in
theorem ggL_law_X4_changedBy : GoodIn wsL_law wsX4_changedBy := goodIn_ca (goodIn_ca (goodIn_r _ [384, 22, 26, 18, 385, 139, 7, 140, 283, 284, 285, 2, 286, 252, 253, 254, 255, 256, 257, 266, 267, 268, 269, 270, 271, 272, 273, 89, 90, 86, 87, 88, 106, 107, 108, 109, 25, 23, 24, 110, 111, 112, 17, 113, 101, 36, 114, 115, 116, 117, 118, 41, 119, 120, 121, 122, 38, 39, 123, 124, 125, 126, 127, 128, 129, 130, 131, 132, 133, 134, 135, 136, 137, 37, 138, 42, 43, 141, 6, 8, 142, 143, 144, 145, 146, 147, 148, 149, 150, 151, 152, 153, 154, 155, 21, 156, 59, 60, 157, 158, 159, 160, 30, 161, 162, 163, 164, 165, 166, 167, 168, 169, 170, 64, 171, 172, 173, 174, 175, 176, 177, 178, 179, 180, 181, 182, 183, 65, 184, 185, 186, 187, 188, 189, 190, 191, 192, 68, 69, 70, 71, 72, 193, 194, 195, 196, 67, 197, 198, 199, 200, 201, 202, 203, 204, 205, 206, 207, 208, 66, 213, 214, 215, 216, 386, 387, 388, 389, 390, 391, 392, 45, 393, 49, 50, 51, 52, 246, 247, 394, 395, 396, 397, 27, 398, 399, 400, 401, 347, 348, 349, 350, 351, 313, 314, 315, 402, 403, 404, 405, 406, 407, 408, 409, 410, 411, 412, 413, 414, 415, 416, 417, 418, 436, 437, 438, 439, 440, 441, 442, 443, 422, 423, 424, 425, 426, 427, 428, 429, 430, 431, 432, 433, 434, 435, 419, 420, 421] (by decide +kernel) (by decide +kernel)) (goodIn_sub (fun _ h => List.mem_append_right _ h) (by decide +kernel))) (goodIn_sub (fun _ h => List.mem_append_left _ (List.mem_append_left _ (List.mem_append_right _ h))) (by decide +kernel))
set_option maxRecDepth 20000 in
theorem gL_law_X4_changedBy : GoodIn wsL_law (wsV RL 75 RX4 yX4_changedBy wsX4_changedBy) := goodIn_app (goodIn_of _ (by decide +kernel)) ggL_law_X4_changedBy
theorem dL_law_0 : decode cL_law 0 = .ok (.new 9, 3) := by decide +kernel
theorem dL_law_3 : decode cL_law 3 = .ok (.dup, 1) := by decide +kernel
theorem dL_law_4 : decode cL_law 4 = .ok (.invokespecial 11, 3) := by decide +kernel
theorem dL_law_7 : decode cL_law 7 = .ok (.astore_n 1, 1) := by decide +kernel
theorem dL_law_8 : decode cL_law 8 = .ok (.iconst 2, 1) := by decide +kernel
theorem dL_law_9 : decode cL_law 9 = .ok (.aload_n 0, 1) := by decide +kernel
theorem dL_law_10 : decode cL_law 10 = .ok (.iconst 0, 1) := by decide +kernel
theorem dL_law_11 : decode cL_law 11 = .ok (.invokestatic 12, 3) := by decide +kernel
theorem dL_law_14 : decode cL_law 14 = .ok (.iconst 4, 1) := by decide +kernel
theorem dL_law_15 : decode cL_law 15 = .ok (.invokestatic 18, 3) := by decide +kernel
theorem dL_law_18 : decode cL_law 18 = .ok (.iadd, 1) := by decide +kernel
theorem dL_law_19 : decode cL_law 19 = .ok (.istore_n 2, 1) := by decide +kernel
theorem dL_law_20 : decode cL_law 20 = .ok (.iload_n 2, 1) := by decide +kernel
theorem dL_law_21 : decode cL_law 21 = .ok (.newarray .boolean, 2) := by decide +kernel
theorem dL_law_23 : decode cL_law 23 = .ok (.astore_n 3, 1) := by decide +kernel
theorem dL_law_24 : decode cL_law 24 = .ok (.iconst 0, 1) := by decide +kernel
theorem dL_law_25 : decode cL_law 25 = .ok (.istore 4, 2) := by decide +kernel
theorem dL_law_27 : decode cL_law 27 = .ok (.iload 4, 2) := by decide +kernel
theorem dL_law_29 : decode cL_law 29 = .ok (.iload_n 2, 1) := by decide +kernel
theorem dL_law_30 : decode cL_law 30 = .ok (.if_icmp .ge 61, 3) := by decide +kernel
theorem dL_law_33 : decode cL_law 33 = .ok (.aload_n 3, 1) := by decide +kernel
theorem dL_law_34 : decode cL_law 34 = .ok (.iload 4, 2) := by decide +kernel
theorem dL_law_36 : decode cL_law 36 = .ok (.aload_n 0, 1) := by decide +kernel
theorem dL_law_37 : decode cL_law 37 = .ok (.iload 4, 2) := by decide +kernel
theorem dL_law_39 : decode cL_law 39 = .ok (.invokestatic 12, 3) := by decide +kernel
theorem dL_law_42 : decode cL_law 42 = .ok (.iconst 3, 1) := by decide +kernel
theorem dL_law_43 : decode cL_law 43 = .ok (.invokestatic 18, 3) := by decide +kernel
theorem dL_law_46 : decode cL_law 46 = .ok (.ifCond .le 7, 3) := by decide +kernel
theorem dL_law_49 : decode cL_law 49 = .ok (.iconst 1, 1) := by decide +kernel
theorem dL_law_50 : decode cL_law 50 = .ok (.goto 4, 3) := by decide +kernel
theorem dL_law_53 : decode cL_law 53 = .ok (.iconst 0, 1) := by decide +kernel
theorem dL_law_54 : decode cL_law 54 = .ok (.bastore, 1) := by decide +kernel
theorem dL_law_55 : decode cL_law 55 = .ok (.aload_n 1, 1) := by decide +kernel
theorem dL_law_56 : decode cL_law 56 = .ok (.aload_n 3, 1) := by decide +kernel
theorem dL_law_57 : decode cL_law 57 = .ok (.iload 4, 2) := by decide +kernel
theorem dL_law_59 : decode cL_law 59 = .ok (.baload, 1) := by decide +kernel
theorem dL_law_60 : decode cL_law 60 = .ok (.iconst 1, 1) := by decide +kernel
theorem dL_law_61 : decode cL_law 61 = .ok (.aload_n 0, 1) := by decide +kernel
theorem dL_law_62 : decode cL_law 62 = .ok (.iload 4, 2) := by decide +kernel
theorem dL_law_64 : decode cL_law 64 = .ok (.invokestatic 12, 3) := by decide +kernel
theorem dL_law_67 : decode cL_law 67 = .ok (.iconst 3, 1) := by decide +kernel
theorem dL_law_68 : decode cL_law 68 = .ok (.ishr, 1) := by decide +kernel
theorem dL_law_69 : decode cL_law 69 = .ok (.bipush 12, 2) := by decide +kernel
theorem dL_law_71 : decode cL_law 71 = .ok (.invokestatic 18, 3) := by decide +kernel
theorem dL_law_74 : decode cL_law 74 = .ok (.iadd, 1) := by decide +kernel
theorem dL_law_75 : decode cL_law 75 = .ok (.invokevirtual 22, 3) := by decide +kernel
theorem dL_law_78 : decode cL_law 78 = .ok (.iload 4, 2) := by decide +kernel
theorem dL_law_80 : decode cL_law 80 = .ok (.if_icmp .eq 5, 3) := by decide +kernel
theorem dL_law_83 : decode cL_law 83 = .ok (.iconst 0, 1) := by decide +kernel
theorem dL_law_84 : decode cL_law 84 = .ok (.ireturn, 1) := by decide +kernel
theorem dL_law_85 : decode cL_law 85 = .ok (.iinc 4 1, 3) := by decide +kernel
theorem dL_law_88 : decode cL_law 88 = .ok (.goto (-61), 3) := by decide +kernel
theorem dL_law_91 : decode cL_law 91 = .ok (.bipush 30, 2) := by decide +kernel
theorem dL_law_93 : decode cL_law 93 = .ok (.newarray .int, 2) := by decide +kernel
theorem dL_law_95 : decode cL_law 95 = .ok (.astore 4, 2) := by decide +kernel
theorem dL_law_97 : decode cL_law 97 = .ok (.bipush 30, 2) := by decide +kernel
theorem dL_law_99 : decode cL_law 99 = .ok (.newarray .boolean, 2) := by decide +kernel
theorem dL_law_101 : decode cL_law 101 = .ok (.astore 5, 2) := by decide +kernel
theorem dL_law_103 : decode cL_law 103 = .ok (.iconst 0, 1) := by decide +kernel
theorem dL_law_104 : decode cL_law 104 = .ok (.istore 6, 2) := by decide +kernel
theorem dL_law_106 : decode cL_law 106 = .ok (.iload 6, 2) := by decide +kernel
theorem dL_law_108 : decode cL_law 108 = .ok (.bipush 60, 2) := by decide +kernel
theorem dL_law_110 : decode cL_law 110 = .ok (.if_icmp .ge 543, 3) := by decide +kernel
theorem dL_law_113 : decode cL_law 113 = .ok (.aload_n 0, 1) := by decide +kernel
theorem dL_law_114 : decode cL_law 114 = .ok (.iload 6, 2) := by decide +kernel
theorem dL_law_116 : decode cL_law 116 = .ok (.bipush 16, 2) := by decide +kernel
theorem dL_law_118 : decode cL_law 118 = .ok (.irem, 1) := by decide +kernel
theorem dL_law_119 : decode cL_law 119 = .ok (.invokestatic 12, 3) := by decide +kernel
theorem dL_law_122 : decode cL_law 122 = .ok (.iload 6, 2) := by decide +kernel
theorem dL_law_124 : decode cL_law 124 = .ok (.bipush 16, 2) := by decide +kernel
theorem dL_law_126 : decode cL_law 126 = .ok (.idiv, 1) := by decide +kernel
theorem dL_law_127 : decode cL_law 127 = .ok (.iconst 2, 1) := by decide +kernel
theorem dL_law_128 : decode cL_law 128 = .ok (.imul, 1) := by decide +kernel
theorem dL_law_129 : decode cL_law 129 = .ok (.ishr, 1) := by decide +kernel
theorem dL_law_130 : decode cL_law 130 = .ok (.bipush 7, 2) := by decide +kernel
theorem dL_law_132 : decode cL_law 132 = .ok (.iload 6, 2) := by decide +kernel
theorem dL_law_134 : decode cL_law 134 = .ok (.imul, 1) := by decide +kernel
theorem dL_law_135 : decode cL_law 135 = .ok (.iadd, 1) := by decide +kernel
theorem dL_law_136 : decode cL_law 136 = .ok (.istore 7, 2) := by decide +kernel
theorem dL_law_138 : decode cL_law 138 = .ok (.aload_n 1, 1) := by decide +kernel
theorem dL_law_139 : decode cL_law 139 = .ok (.iconst 1, 1) := by decide +kernel
theorem dL_law_140 : decode cL_law 140 = .ok (.invokevirtual 26, 3) := by decide +kernel
theorem dL_law_143 : decode cL_law 143 = .ok (.istore 8, 2) := by decide +kernel
theorem dL_law_145 : decode cL_law 145 = .ok (.iload 8, 2) := by decide +kernel
theorem dL_law_147 : decode cL_law 147 = .ok (.ifCond .ne 7, 3) := by decide +kernel
theorem dL_law_150 : decode cL_law 150 = .ok (.iconst (-1), 1) := by decide +kernel
theorem dL_law_151 : decode cL_law 151 = .ok (.goto 12, 3) := by decide +kernel
theorem dL_law_154 : decode cL_law 154 = .ok (.iload 7, 2) := by decide +kernel
theorem dL_law_156 : decode cL_law 156 = .ok (.iconst 3, 1) := by decide +kernel
theorem dL_law_157 : decode cL_law 157 = .ok (.ishr, 1) := by decide +kernel
theorem dL_law_158 : decode cL_law 158 = .ok (.iload 8, 2) := by decide +kernel
theorem dL_law_160 : decode cL_law 160 = .ok (.invokestatic 18, 3) := by decide +kernel
theorem dL_law_163 : decode cL_law 163 = .ok (.istore 9, 2) := by decide +kernel
theorem dL_law_165 : decode cL_law 165 = .ok (.iload 7, 2) := by decide +kernel
theorem dL_law_167 : decode cL_law 167 = .ok (.iconst 5, 1) := by decide +kernel
theorem dL_law_168 : decode cL_law 168 = .ok (.ishr, 1) := by decide +kernel
theorem dL_law_169 : decode cL_law 169 = .ok (.iload_n 2, 1) := by decide +kernel
theorem dL_law_170 : decode cL_law 170 = .ok (.invokestatic 18, 3) := by decide +kernel
theorem dL_law_173 : decode cL_law 173 = .ok (.istore 10, 2) := by decide +kernel
theorem dL_law_175 : decode cL_law 175 = .ok (.iload 8, 2) := by decide +kernel
theorem dL_law_177 : decode cL_law 177 = .ok (.iconst 3, 1) := by decide +kernel
theorem dL_law_178 : decode cL_law 178 = .ok (.if_icmp .ge 7, 3) := by decide +kernel
theorem dL_law_181 : decode cL_law 181 = .ok (.iconst 0, 1) := by decide +kernel
theorem dL_law_182 : decode cL_law 182 = .ok (.goto 10, 3) := by decide +kernel
theorem dL_law_185 : decode cL_law 185 = .ok (.iload 7, 2) := by decide +kernel
theorem dL_law_187 : decode cL_law 187 = .ok (.bipush 6, 2) := by decide +kernel
theorem dL_law_189 : decode cL_law 189 = .ok (.invokestatic 18, 3) := by decide +kernel
theorem dL_law_192 : decode cL_law 192 = .ok (.tableswitch 180 0 3 #[32, 50, 80, 126], 32) := by decide +kernel
theorem dL_law_224 : decode cL_law 224 = .ok (.iload 8, 2) := by decide +kernel
theorem dL_law_226 : decode cL_law 226 = .ok (.bipush 30, 2) := by decide +kernel
theorem dL_law_228 : decode cL_law 228 = .ok (.if_icmp .ge 223, 3) := by decide +kernel
theorem dL_law_231 : decode cL_law 231 = .ok (.aload_n 1, 1) := by decide +kernel
theorem dL_law_232 : decode cL_law 232 = .ok (.invokevirtual 30, 3) := by decide +kernel
theorem dL_law_235 : decode cL_law 235 = .ok (.iload 8, 2) := by decide +kernel
theorem dL_law_237 : decode cL_law 237 = .ok (.if_icmp .eq 214, 3) := by decide +kernel
theorem dL_law_240 : decode cL_law 240 = .ok (.iconst 0, 1) := by decide +kernel
theorem dL_law_241 : decode cL_law 241 = .ok (.ireturn, 1) := by decide +kernel
theorem dL_law_242 : decode cL_law 242 = .ok (.aload 4, 2) := by decide +kernel
theorem dL_law_244 : decode cL_law 244 = .ok (.iload 9, 2) := by decide +kernel
theorem dL_law_246 : decode cL_law 246 = .ok (.iload 7, 2) := by decide +kernel
theorem dL_law_248 : decode cL_law 248 = .ok (.iconst 4, 1) := by decide +kernel
theorem dL_law_249 : decode cL_law 249 = .ok (.ishr, 1) := by decide +kernel
theorem dL_law_250 : decode cL_law 250 = .ok (.bipush 6, 2) := by decide +kernel
theorem dL_law_252 : decode cL_law 252 = .ok (.invokestatic 18, 3) := by decide +kernel
theorem dL_law_255 : decode cL_law 255 = .ok (.iastore, 1) := by decide +kernel
theorem dL_law_256 : decode cL_law 256 = .ok (.aload_n 1, 1) := by decide +kernel
theorem dL_law_257 : decode cL_law 257 = .ok (.iload 9, 2) := by decide +kernel
theorem dL_law_259 : decode cL_law 259 = .ok (.aload 4, 2) := by decide +kernel
theorem dL_law_261 : decode cL_law 261 = .ok (.iload 9, 2) := by decide +kernel
theorem dL_law_263 : decode cL_law 263 = .ok (.iaload, 1) := by decide +kernel
theorem dL_law_264 : decode cL_law 264 = .ok (.invokevirtual 34, 3) := by decide +kernel
theorem dL_law_267 : decode cL_law 267 = .ok (.ifCond .ge 184, 3) := by decide +kernel
theorem dL_law_270 : decode cL_law 270 = .ok (.iconst 0, 1) := by decide +kernel
theorem dL_law_271 : decode cL_law 271 = .ok (.ireturn, 1) := by decide +kernel
theorem dL_law_272 : decode cL_law 272 = .ok (.iload 7, 2) := by decide +kernel
theorem dL_law_274 : decode cL_law 274 = .ok (.iconst 4, 1) := by decide +kernel
theorem dL_law_275 : decode cL_law 275 = .ok (.ishr, 1) := by decide +kernel
theorem dL_law_276 : decode cL_law 276 = .ok (.iconst 2, 1) := by decide +kernel
theorem dL_law_277 : decode cL_law 277 = .ok (.invokestatic 18, 3) := by decide +kernel
theorem dL_law_280 : decode cL_law 280 = .ok (.ifCond .ne 7, 3) := by decide +kernel
theorem dL_law_283 : decode cL_law 283 = .ok (.iconst 1, 1) := by decide +kernel
theorem dL_law_284 : decode cL_law 284 = .ok (.goto 4, 3) := by decide +kernel
theorem dL_law_287 : decode cL_law 287 = .ok (.iconst 0, 1) := by decide +kernel
theorem dL_law_288 : decode cL_law 288 = .ok (.istore 11, 2) := by decide +kernel
theorem dL_law_290 : decode cL_law 290 = .ok (.aload_n 1, 1) := by decide +kernel
theorem dL_law_291 : decode cL_law 291 = .ok (.iload 9, 2) := by decide +kernel
theorem dL_law_293 : decode cL_law 293 = .ok (.iload 11, 2) := by decide +kernel
theorem dL_law_295 : decode cL_law 295 = .ok (.invokevirtual 37, 3) := by decide +kernel
theorem dL_law_298 : decode cL_law 298 = .ok (.aload 5, 2) := by decide +kernel
theorem dL_law_300 : decode cL_law 300 = .ok (.iload 9, 2) := by decide +kernel
theorem dL_law_302 : decode cL_law 302 = .ok (.baload, 1) := by decide +kernel
theorem dL_law_303 : decode cL_law 303 = .ok (.if_icmp .eq 5, 3) := by decide +kernel
theorem dL_law_306 : decode cL_law 306 = .ok (.iconst 0, 1) := by decide +kernel
theorem dL_law_307 : decode cL_law 307 = .ok (.ireturn, 1) := by decide +kernel
theorem dL_law_308 : decode cL_law 308 = .ok (.aload 5, 2) := by decide +kernel
theorem dL_law_310 : decode cL_law 310 = .ok (.iload 9, 2) := by decide +kernel
theorem dL_law_312 : decode cL_law 312 = .ok (.iload 11, 2) := by decide +kernel
theorem dL_law_314 : decode cL_law 314 = .ok (.bastore, 1) := by decide +kernel
theorem dL_law_315 : decode cL_law 315 = .ok (.goto 136, 3) := by decide +kernel
theorem dL_law_318 : decode cL_law 318 = .ok (.aload_n 3, 1) := by decide +kernel
theorem dL_law_319 : decode cL_law 319 = .ok (.iload 10, 2) := by decide +kernel
theorem dL_law_321 : decode cL_law 321 = .ok (.baload, 1) := by decide +kernel
theorem dL_law_322 : decode cL_law 322 = .ok (.ifCond .eq 129, 3) := by decide +kernel
theorem dL_law_325 : decode cL_law 325 = .ok (.iload 10, 2) := by decide +kernel
theorem dL_law_327 : decode cL_law 327 = .ok (.iconst 1, 1) := by decide +kernel
theorem dL_law_328 : decode cL_law 328 = .ok (.iadd, 1) := by decide +kernel
theorem dL_law_329 : decode cL_law 329 = .ok (.iload_n 2, 1) := by decide +kernel
theorem dL_law_330 : decode cL_law 330 = .ok (.if_icmp .ge 121, 3) := by decide +kernel
theorem dL_law_333 : decode cL_law 333 = .ok (.aload_n 1, 1) := by decide +kernel
theorem dL_law_334 : decode cL_law 334 = .ok (.iload 9, 2) := by decide +kernel
theorem dL_law_336 : decode cL_law 336 = .ok (.iload 10, 2) := by decide +kernel
theorem dL_law_338 : decode cL_law 338 = .ok (.iload 7, 2) := by decide +kernel
theorem dL_law_340 : decode cL_law 340 = .ok (.bipush 6, 2) := by decide +kernel
theorem dL_law_342 : decode cL_law 342 = .ok (.ishr, 1) := by decide +kernel
theorem dL_law_343 : decode cL_law 343 = .ok (.iconst 2, 1) := by decide +kernel
theorem dL_law_344 : decode cL_law 344 = .ok (.invokestatic 18, 3) := by decide +kernel
theorem dL_law_347 : decode cL_law 347 = .ok (.ifCond .ne 7, 3) := by decide +kernel
theorem dL_law_350 : decode cL_law 350 = .ok (.iconst 1, 1) := by decide +kernel
theorem dL_law_351 : decode cL_law 351 = .ok (.goto 4, 3) := by decide +kernel
theorem dL_law_354 : decode cL_law 354 = .ok (.iconst 0, 1) := by decide +kernel
theorem dL_law_355 : decode cL_law 355 = .ok (.invokevirtual 41, 3) := by decide +kernel
theorem dL_law_358 : decode cL_law 358 = .ok (.ifCond .eq 93, 3) := by decide +kernel
theorem dL_law_361 : decode cL_law 361 = .ok (.aload_n 3, 1) := by decide +kernel
theorem dL_law_362 : decode cL_law 362 = .ok (.iload 10, 2) := by decide +kernel
theorem dL_law_364 : decode cL_law 364 = .ok (.iconst 1, 1) := by decide +kernel
theorem dL_law_365 : decode cL_law 365 = .ok (.iadd, 1) := by decide +kernel
theorem dL_law_366 : decode cL_law 366 = .ok (.baload, 1) := by decide +kernel
theorem dL_law_367 : decode cL_law 367 = .ok (.ifCond .ne 84, 3) := by decide +kernel
theorem dL_law_370 : decode cL_law 370 = .ok (.iconst 0, 1) := by decide +kernel
theorem dL_law_371 : decode cL_law 371 = .ok (.ireturn, 1) := by decide +kernel
theorem dL_law_372 : decode cL_law 372 = .ok (.iload 7, 2) := by decide +kernel
theorem dL_law_374 : decode cL_law 374 = .ok (.iconst 4, 1) := by decide +kernel
theorem dL_law_375 : decode cL_law 375 = .ok (.ishr, 1) := by decide +kernel
theorem dL_law_376 : decode cL_law 376 = .ok (.bipush 90, 2) := by decide +kernel
theorem dL_law_378 : decode cL_law 378 = .ok (.invokestatic 18, 3) := by decide +kernel
theorem dL_law_381 : decode cL_law 381 = .ok (.istore 12, 2) := by decide +kernel
theorem dL_law_383 : decode cL_law 383 = .ok (.aload_n 3, 1) := by decide +kernel
theorem dL_law_384 : decode cL_law 384 = .ok (.iload 10, 2) := by decide +kernel
theorem dL_law_386 : decode cL_law 386 = .ok (.baload, 1) := by decide +kernel
theorem dL_law_387 : decode cL_law 387 = .ok (.ifCond .eq 34, 3) := by decide +kernel
theorem dL_law_390 : decode cL_law 390 = .ok (.aload_n 1, 1) := by decide +kernel
theorem dL_law_391 : decode cL_law 391 = .ok (.iload 9, 2) := by decide +kernel
theorem dL_law_393 : decode cL_law 393 = .ok (.iload 10, 2) := by decide +kernel
theorem dL_law_395 : decode cL_law 395 = .ok (.iload 12, 2) := by decide +kernel
theorem dL_law_397 : decode cL_law 397 = .ok (.iload 12, 2) := by decide +kernel
theorem dL_law_399 : decode cL_law 399 = .ok (.iload 7, 2) := by decide +kernel
theorem dL_law_401 : decode cL_law 401 = .ok (.bipush 6, 2) := by decide +kernel
theorem dL_law_403 : decode cL_law 403 = .ok (.ishr, 1) := by decide +kernel
theorem dL_law_404 : decode cL_law 404 = .ok (.bipush 13, 2) := by decide +kernel
theorem dL_law_406 : decode cL_law 406 = .ok (.invokestatic 18, 3) := by decide +kernel
theorem dL_law_409 : decode cL_law 409 = .ok (.invokestatic 45, 3) := by decide +kernel
theorem dL_law_412 : decode cL_law 412 = .ok (.invokevirtual 50, 3) := by decide +kernel
theorem dL_law_415 : decode cL_law 415 = .ok (.ifCond .ge 36, 3) := by decide +kernel
theorem dL_law_418 : decode cL_law 418 = .ok (.goto 31, 3) := by decide +kernel
theorem dL_law_421 : decode cL_law 421 = .ok (.aload_n 1, 1) := by decide +kernel
theorem dL_law_422 : decode cL_law 422 = .ok (.iload 9, 2) := by decide +kernel
theorem dL_law_424 : decode cL_law 424 = .ok (.iload 10, 2) := by decide +kernel
theorem dL_law_426 : decode cL_law 426 = .ok (.iload 7, 2) := by decide +kernel
theorem dL_law_428 : decode cL_law 428 = .ok (.iconst 4, 1) := by decide +kernel
theorem dL_law_429 : decode cL_law 429 = .ok (.ishr, 1) := by decide +kernel
theorem dL_law_430 : decode cL_law 430 = .ok (.sipush 3000, 3) := by decide +kernel
theorem dL_law_433 : decode cL_law 433 = .ok (.invokestatic 18, 3) := by decide +kernel
theorem dL_law_436 : decode cL_law 436 = .ok (.sipush 1000, 3) := by decide +kernel
theorem dL_law_439 : decode cL_law 439 = .ok (.isub, 1) := by decide +kernel
theorem dL_law_440 : decode cL_law 440 = .ok (.invokevirtual 54, 3) := by decide +kernel
theorem dL_law_443 : decode cL_law 443 = .ok (.sipush (-9999), 3) := by decide +kernel
theorem dL_law_446 : decode cL_law 446 = .ok (.if_icmp .ge 5, 3) := by decide +kernel
theorem dL_law_449 : decode cL_law 449 = .ok (.iconst 0, 1) := by decide +kernel
theorem dL_law_450 : decode cL_law 450 = .ok (.ireturn, 1) := by decide +kernel
theorem dL_law_451 : decode cL_law 451 = .ok (.iload 6, 2) := by decide +kernel
theorem dL_law_453 : decode cL_law 453 = .ok (.bipush 6, 2) := by decide +kernel
theorem dL_law_455 : decode cL_law 455 = .ok (.irem, 1) := by decide +kernel
theorem dL_law_456 : decode cL_law 456 = .ok (.ifCond .le 6, 3) := by decide +kernel
theorem dL_law_459 : decode cL_law 459 = .ok (.goto 188, 3) := by decide +kernel
theorem dL_law_462 : decode cL_law 462 = .ok (.bipush 10, 2) := by decide +kernel
theorem dL_law_464 : decode cL_law 464 = .ok (.iload 7, 2) := by decide +kernel
theorem dL_law_466 : decode cL_law 466 = .ok (.iconst 2, 1) := by decide +kernel
theorem dL_law_467 : decode cL_law 467 = .ok (.ishr, 1) := by decide +kernel
theorem dL_law_468 : decode cL_law 468 = .ok (.bipush 51, 2) := by decide +kernel
theorem dL_law_470 : decode cL_law 470 = .ok (.invokestatic 18, 3) := by decide +kernel
theorem dL_law_473 : decode cL_law 473 = .ok (.iadd, 1) := by decide +kernel
theorem dL_law_474 : decode cL_law 474 = .ok (.istore 11, 2) := by decide +kernel
theorem dL_law_476 : decode cL_law 476 = .ok (.bipush 10, 2) := by decide +kernel
theorem dL_law_478 : decode cL_law 478 = .ok (.iload 7, 2) := by decide +kernel
theorem dL_law_480 : decode cL_law 480 = .ok (.bipush 6, 2) := by decide +kernel
theorem dL_law_482 : decode cL_law 482 = .ok (.ishr, 1) := by decide +kernel
theorem dL_law_483 : decode cL_law 483 = .ok (.bipush 21, 2) := by decide +kernel
theorem dL_law_485 : decode cL_law 485 = .ok (.invokestatic 18, 3) := by decide +kernel
theorem dL_law_488 : decode cL_law 488 = .ok (.iadd, 1) := by decide +kernel
theorem dL_law_489 : decode cL_law 489 = .ok (.istore 12, 2) := by decide +kernel
theorem dL_law_491 : decode cL_law 491 = .ok (.aload_n 1, 1) := by decide +kernel
theorem dL_law_492 : decode cL_law 492 = .ok (.iload 11, 2) := by decide +kernel
theorem dL_law_494 : decode cL_law 494 = .ok (.iload 12, 2) := by decide +kernel
theorem dL_law_496 : decode cL_law 496 = .ok (.invokevirtual 58, 3) := by decide +kernel
theorem dL_law_499 : decode cL_law 499 = .ok (.istore 13, 2) := by decide +kernel
theorem dL_law_501 : decode cL_law 501 = .ok (.aload_n 1, 1) := by decide +kernel
theorem dL_law_502 : decode cL_law 502 = .ok (.iload 11, 2) := by decide +kernel
theorem dL_law_504 : decode cL_law 504 = .ok (.iload 12, 2) := by decide +kernel
theorem dL_law_506 : decode cL_law 506 = .ok (.iconst 0, 1) := by decide +kernel
theorem dL_law_507 : decode cL_law 507 = .ok (.invokevirtual 61, 3) := by decide +kernel
theorem dL_law_510 : decode cL_law 510 = .ok (.istore 14, 2) := by decide +kernel
theorem dL_law_512 : decode cL_law 512 = .ok (.aload_n 1, 1) := by decide +kernel
theorem dL_law_513 : decode cL_law 513 = .ok (.iload 11, 2) := by decide +kernel
theorem dL_law_515 : decode cL_law 515 = .ok (.iload 12, 2) := by decide +kernel
theorem dL_law_517 : decode cL_law 517 = .ok (.iconst 1, 1) := by decide +kernel
theorem dL_law_518 : decode cL_law 518 = .ok (.invokevirtual 61, 3) := by decide +kernel
theorem dL_law_521 : decode cL_law 521 = .ok (.istore 15, 2) := by decide +kernel
theorem dL_law_523 : decode cL_law 523 = .ok (.iload 14, 2) := by decide +kernel
theorem dL_law_525 : decode cL_law 525 = .ok (.ifCond .lt 19, 3) := by decide +kernel
theorem dL_law_528 : decode cL_law 528 = .ok (.iload 15, 2) := by decide +kernel
theorem dL_law_530 : decode cL_law 530 = .ok (.ifCond .lt 10, 3) := by decide +kernel
theorem dL_law_533 : decode cL_law 533 = .ok (.iload 14, 2) := by decide +kernel
theorem dL_law_535 : decode cL_law 535 = .ok (.iload 15, 2) := by decide +kernel
theorem dL_law_537 : decode cL_law 537 = .ok (.if_icmp .gt 7, 3) := by decide +kernel
theorem dL_law_540 : decode cL_law 540 = .ok (.iconst 1, 1) := by decide +kernel
theorem dL_law_541 : decode cL_law 541 = .ok (.goto 4, 3) := by decide +kernel
theorem dL_law_544 : decode cL_law 544 = .ok (.iconst 0, 1) := by decide +kernel
theorem dL_law_545 : decode cL_law 545 = .ok (.istore 16, 2) := by decide +kernel
theorem dL_law_547 : decode cL_law 547 = .ok (.iload 13, 2) := by decide +kernel
theorem dL_law_549 : decode cL_law 549 = .ok (.aload_n 1, 1) := by decide +kernel
theorem dL_law_550 : decode cL_law 550 = .ok (.iconst 2, 1) := by decide +kernel
theorem dL_law_551 : decode cL_law 551 = .ok (.invokevirtual 26, 3) := by decide +kernel
theorem dL_law_554 : decode cL_law 554 = .ok (.if_icmp .ne 47, 3) := by decide +kernel
theorem dL_law_557 : decode cL_law 557 = .ok (.iload 13, 2) := by decide +kernel
theorem dL_law_559 : decode cL_law 559 = .ok (.iload 16, 2) := by decide +kernel
theorem dL_law_561 : decode cL_law 561 = .ok (.ifCond .eq 8, 3) := by decide +kernel
theorem dL_law_564 : decode cL_law 564 = .ok (.iload 14, 2) := by decide +kernel
theorem dL_law_566 : decode cL_law 566 = .ok (.goto 5, 3) := by decide +kernel
theorem dL_law_569 : decode cL_law 569 = .ok (.iload 15, 2) := by decide +kernel
theorem dL_law_571 : decode cL_law 571 = .ok (.if_icmp .ne 30, 3) := by decide +kernel
theorem dL_law_574 : decode cL_law 574 = .ok (.aload_n 1, 1) := by decide +kernel
theorem dL_law_575 : decode cL_law 575 = .ok (.iconst 3, 1) := by decide +kernel
theorem dL_law_576 : decode cL_law 576 = .ok (.invokevirtual 26, 3) := by decide +kernel
theorem dL_law_579 : decode cL_law 579 = .ok (.iload 13, 2) := by decide +kernel
theorem dL_law_581 : decode cL_law 581 = .ok (.ifCond .ge 7, 3) := by decide +kernel
theorem dL_law_584 : decode cL_law 584 = .ok (.iconst (-1), 1) := by decide +kernel
theorem dL_law_585 : decode cL_law 585 = .ok (.goto 13, 3) := by decide +kernel
theorem dL_law_588 : decode cL_law 588 = .ok (.iload 16, 2) := by decide +kernel
theorem dL_law_590 : decode cL_law 590 = .ok (.ifCond .eq 7, 3) := by decide +kernel
theorem dL_law_593 : decode cL_law 593 = .ok (.iconst 0, 1) := by decide +kernel
theorem dL_law_594 : decode cL_law 594 = .ok (.goto 4, 3) := by decide +kernel
theorem dL_law_597 : decode cL_law 597 = .ok (.iconst 1, 1) := by decide +kernel
theorem dL_law_598 : decode cL_law 598 = .ok (.if_icmp .eq 5, 3) := by decide +kernel
theorem dL_law_601 : decode cL_law 601 = .ok (.iconst 0, 1) := by decide +kernel
theorem dL_law_602 : decode cL_law 602 = .ok (.ireturn, 1) := by decide +kernel
theorem dL_law_603 : decode cL_law 603 = .ok (.iload 13, 2) := by decide +kernel
theorem dL_law_605 : decode cL_law 605 = .ok (.ifCond .lt 42, 3) := by decide +kernel
theorem dL_law_608 : decode cL_law 608 = .ok (.aload_n 1, 1) := by decide +kernel
theorem dL_law_609 : decode cL_law 609 = .ok (.iload 16, 2) := by decide +kernel
theorem dL_law_611 : decode cL_law 611 = .ok (.ifCond .eq 8, 3) := by decide +kernel
theorem dL_law_614 : decode cL_law 614 = .ok (.iload 11, 2) := by decide +kernel
theorem dL_law_616 : decode cL_law 616 = .ok (.goto 5, 3) := by decide +kernel
theorem dL_law_619 : decode cL_law 619 = .ok (.iload 12, 2) := by decide +kernel
theorem dL_law_621 : decode cL_law 621 = .ok (.iload 16, 2) := by decide +kernel
theorem dL_law_623 : decode cL_law 623 = .ok (.ifCond .eq 8, 3) := by decide +kernel
theorem dL_law_626 : decode cL_law 626 = .ok (.iload 12, 2) := by decide +kernel
theorem dL_law_628 : decode cL_law 628 = .ok (.goto 5, 3) := by decide +kernel
theorem dL_law_631 : decode cL_law 631 = .ok (.iload 11, 2) := by decide +kernel
theorem dL_law_633 : decode cL_law 633 = .ok (.iconst 3, 1) := by decide +kernel
theorem dL_law_634 : decode cL_law 634 = .ok (.isub, 1) := by decide +kernel
theorem dL_law_635 : decode cL_law 635 = .ok (.aload 4, 2) := by decide +kernel
theorem dL_law_637 : decode cL_law 637 = .ok (.aload 5, 2) := by decide +kernel
theorem dL_law_639 : decode cL_law 639 = .ok (.invokestatic 65, 3) := by decide +kernel
theorem dL_law_642 : decode cL_law 642 = .ok (.ifCond .ne 5, 3) := by decide +kernel
theorem dL_law_645 : decode cL_law 645 = .ok (.iconst 0, 1) := by decide +kernel
theorem dL_law_646 : decode cL_law 646 = .ok (.ireturn, 1) := by decide +kernel
theorem dL_law_647 : decode cL_law 647 = .ok (.iinc 6 1, 3) := by decide +kernel
theorem dL_law_650 : decode cL_law 650 = .ok (.goto (-544), 3) := by decide +kernel
theorem dL_law_653 : decode cL_law 653 = .ok (.aload_n 1, 1) := by decide +kernel
theorem dL_law_654 : decode cL_law 654 = .ok (.invokevirtual 69, 3) := by decide +kernel
theorem dL_law_657 : decode cL_law 657 = .ok (.lstore 6, 2) := by decide +kernel
theorem dL_law_659 : decode cL_law 659 = .ok (.iconst 0, 1) := by decide +kernel
theorem dL_law_660 : decode cL_law 660 = .ok (.istore 8, 2) := by decide +kernel
theorem dL_law_662 : decode cL_law 662 = .ok (.iload 8, 2) := by decide +kernel
theorem dL_law_664 : decode cL_law 664 = .ok (.aload_n 1, 1) := by decide +kernel
theorem dL_law_665 : decode cL_law 665 = .ok (.iconst 1, 1) := by decide +kernel
theorem dL_law_666 : decode cL_law 666 = .ok (.invokevirtual 26, 3) := by decide +kernel
theorem dL_law_669 : decode cL_law 669 = .ok (.if_icmp .ge 53, 3) := by decide +kernel
theorem dL_law_672 : decode cL_law 672 = .ok (.iconst 0, 1) := by decide +kernel
theorem dL_law_673 : decode cL_law 673 = .ok (.istore 9, 2) := by decide +kernel
theorem dL_law_675 : decode cL_law 675 = .ok (.iload 9, 2) := by decide +kernel
theorem dL_law_677 : decode cL_law 677 = .ok (.iload_n 2, 1) := by decide +kernel
theorem dL_law_678 : decode cL_law 678 = .ok (.if_icmp .ge 38, 3) := by decide +kernel
theorem dL_law_681 : decode cL_law 681 = .ok (.aload_n 3, 1) := by decide +kernel
theorem dL_law_682 : decode cL_law 682 = .ok (.iload 9, 2) := by decide +kernel
theorem dL_law_684 : decode cL_law 684 = .ok (.baload, 1) := by decide +kernel
theorem dL_law_685 : decode cL_law 685 = .ok (.ifCond .ne 25, 3) := by decide +kernel
theorem dL_law_688 : decode cL_law 688 = .ok (.aload_n 1, 1) := by decide +kernel
theorem dL_law_689 : decode cL_law 689 = .ok (.iload 8, 2) := by decide +kernel
theorem dL_law_691 : decode cL_law 691 = .ok (.iload 9, 2) := by decide +kernel
theorem dL_law_693 : decode cL_law 693 = .ok (.aload_n 1, 1) := by decide +kernel
theorem dL_law_694 : decode cL_law 694 = .ok (.iload 8, 2) := by decide +kernel
theorem dL_law_696 : decode cL_law 696 = .ok (.iload 9, 2) := by decide +kernel
theorem dL_law_698 : decode cL_law 698 = .ok (.iconst 0, 1) := by decide +kernel
theorem dL_law_699 : decode cL_law 699 = .ok (.invokevirtual 73, 3) := by decide +kernel
theorem dL_law_702 : decode cL_law 702 = .ok (.invokevirtual 75, 3) := by decide +kernel
theorem dL_law_705 : decode cL_law 705 = .ok (.ifCond .eq 5, 3) := by decide +kernel
theorem dL_law_708 : decode cL_law 708 = .ok (.iconst 0, 1) := by decide +kernel
theorem dL_law_709 : decode cL_law 709 = .ok (.ireturn, 1) := by decide +kernel
theorem dL_law_710 : decode cL_law 710 = .ok (.iinc 9 1, 3) := by decide +kernel
theorem dL_law_713 : decode cL_law 713 = .ok (.goto (-38), 3) := by decide +kernel
theorem dL_law_716 : decode cL_law 716 = .ok (.iinc 8 1, 3) := by decide +kernel
theorem dL_law_719 : decode cL_law 719 = .ok (.goto (-57), 3) := by decide +kernel
theorem dL_law_722 : decode cL_law 722 = .ok (.aload_n 1, 1) := by decide +kernel
theorem dL_law_723 : decode cL_law 723 = .ok (.invokevirtual 69, 3) := by decide +kernel
theorem dL_law_726 : decode cL_law 726 = .ok (.lload 6, 2) := by decide +kernel
theorem dL_law_728 : decode cL_law 728 = .ok (.lcmp, 1) := by decide +kernel
theorem dL_law_729 : decode cL_law 729 = .ok (.ifCond .ne 7, 3) := by decide +kernel
theorem dL_law_732 : decode cL_law 732 = .ok (.iconst 1, 1) := by decide +kernel
theorem dL_law_733 : decode cL_law 733 = .ok (.goto 4, 3) := by decide +kernel
theorem dL_law_736 : decode cL_law 736 = .ok (.iconst 0, 1) := by decide +kernel
theorem dL_law_737 : decode cL_law 737 = .ok (.ireturn, 1) := by decide +kernel
set_option maxRecDepth 20000 in
theorem ggL_isLaid_X4_many : GoodIn wsL_isLaid wsX4_many := goodIn_ca (goodIn_r _ [9, 10, 11, 8, 12, 13, 14, 15, 16, 17, 18, 19, 20, 21, 22, 23, 24, 25, 26, 27, 28, 29, 30, 31, 32, 33, 34, 35, 36, 37, 38, 39, 40, 41, 42, 43, 44, 45, 46, 47, 48, 49, 3, 50, 51, 52, 53, 54, 55, 56, 57, 58, 59, 2, 4, 60, 61, 62, 63, 64, 65, 66, 67, 68, 69, 70, 71, 72, 73, 74, 75, 76, 77, 78, 79, 80, 81, 82, 83, 84, 85, 86, 87, 88, 89, 90, 91, 92, 93, 94, 95, 96, 97, 98, 99, 100, 101, 102, 103, 104, 105, 106, 107, 108, 109, 110, 111, 112, 113, 114, 115, 116, 117, 118, 119, 120, 121, 122, 123, 124, 125, 126, 127, 128, 129, 130, 131, 132, 133, 134, 135, 136, 137, 138, 139, 140, 141, 142, 143, 144, 145, 146, 147, 148, 149, 150, 151, 152, 153, 154, 155, 156, 157, 158, 159, 160, 161, 162, 163, 164, 165, 166, 167, 168, 169, 241, 242, 243, 244, 245, 246, 247, 248, 249, 250, 251, 252, 253, 254, 255, 256, 257, 258, 259, 260, 261, 262, 263, 264, 265, 266, 267, 268, 269, 270, 271, 272, 273, 274, 275, 276, 277, 278, 279, 280, 281, 282] (by decide +kernel) (by decide +kernel)) (goodIn_sub (fun _ h => List.mem_cons_of_mem _ (List.mem_append_left _ (List.mem_append_right _ h))) (by decide +kernel))
set_option maxRecDepth 20000 in
theorem gL_isLaid_X4_many : GoodIn wsL_isLaid (wsV RL 26 RX4 yX4_many wsX4_many) := goodIn_app (goodIn_of _ (by decide +kernel)) ggL_isLaid_X4_many
set_option maxRecDepth 20000 in
theorem ggL_isLaid_X4_ofColumn : GoodIn wsL_isLaid wsX4_ofColumn := goodIn_ca (goodIn_ca (goodIn_r _ [173, 174, 175, 176, 8, 177, 178, 179, 20, 10, 11, 12, 13, 14, 15, 16, 17, 18, 19, 21, 22, 23, 24, 25, 26, 27, 28, 29, 30, 31, 32, 33, 34, 35, 36, 37, 38, 39, 40, 41, 42, 43, 44, 45, 46, 47, 48, 49, 3, 50, 51, 52, 53, 54, 55, 56, 57, 58, 59, 2, 4, 60, 61, 62, 63, 64, 65, 66, 67, 68, 69, 70, 71, 72, 73, 74, 75, 76, 77, 78, 79, 80, 81, 82, 83, 84, 85, 86, 87, 88, 89, 90, 91, 92, 93, 94, 95, 96, 97, 98, 99, 100, 101, 102, 103, 104, 105, 106, 107, 108, 109, 110, 111, 112, 113, 114, 115, 116, 117, 118, 119, 120, 121, 122, 123, 124, 125, 126, 127, 128, 129, 130, 131, 132, 133, 134, 135, 136, 137, 138, 139, 140, 141, 142, 143, 144, 180, 181, 182, 183, 149, 150, 151, 152, 184, 185, 186, 187, 241, 242, 243, 244, 245, 246, 247, 248, 249, 250, 251, 252, 253, 254, 255, 256, 257, 258, 259, 260, 261, 262, 263, 264, 265, 266, 267, 268, 269, 270, 271, 272, 273, 274, 275, 276, 277, 278, 279, 280, 281, 282] (by decide +kernel) (by decide +kernel)) (goodIn_sub (fun _ h => List.mem_cons_of_mem _ (List.mem_append_right _ h)) (by decide +kernel))) (goodIn_sub (fun _ h => List.mem_cons_of_mem _ (List.mem_append_left _ (List.mem_append_right _ h))) (by decide +kernel))
set_option maxRecDepth 20000 in
theorem gL_isLaid_X4_ofColumn : GoodIn wsL_isLaid (wsV RL 78 RX4 yX4_ofColumn wsX4_ofColumn) := goodIn_app (goodIn_of _ (by decide +kernel)) ggL_isLaid_X4_ofColumn
set_option maxRecDepth 20000 in
theorem ggL_isLaid_X4_ofPage : GoodIn wsL_isLaid wsX4_ofPage := goodIn_ca (goodIn_ca (goodIn_r _ [191, 15, 16, 17, 8, 18, 19, 20, 21, 22, 23, 24, 25, 26, 27, 28, 29, 30, 31, 32, 33, 34, 35, 36, 37, 38, 39, 40, 41, 42, 43, 44, 45, 46, 47, 48, 49, 3, 50, 51, 52, 53, 54, 55, 56, 57, 58, 59, 2, 4, 60, 61, 62, 63, 64, 65, 66, 67, 68, 69, 70, 71, 72, 73, 74, 75, 76, 77, 78, 79, 80, 81, 82, 83, 84, 85, 86, 87, 88, 89, 90, 91, 92, 93, 94, 95, 96, 97, 98, 99, 100, 101, 102, 103, 104, 105, 106, 107, 108, 109, 110, 111, 112, 113, 114, 115, 116, 117, 118, 119, 120, 121, 122, 123, 124, 125, 126, 127, 128, 129, 130, 131, 132, 133, 134, 135, 136, 137, 138, 139, 140, 141, 142, 143, 144, 192, 193, 194, 195, 178, 179, 149, 150, 151, 152, 10, 11, 12, 13, 14, 196, 197, 198, 199, 200, 201, 202, 203, 204, 205, 206, 241, 242, 243, 244, 245, 246, 247, 248, 249, 250, 251, 252, 253, 254, 255, 256, 257, 258, 259, 260, 261, 262, 263, 264, 265, 266, 267, 268, 269, 270, 271, 272, 273, 274, 275, 276, 277, 278, 279, 280, 281, 282] (by decide +kernel) (by decide +kernel)) (goodIn_sub (fun _ h => List.mem_cons_of_mem _ (List.mem_append_right _ h)) (by decide +kernel))) (goodIn_sub (fun _ h => List.mem_cons_of_mem _ (List.mem_append_left _ (List.mem_append_right _ h))) (by decide +kernel))
set_option maxRecDepth 20000 in
theorem gL_isLaid_X4_ofPage : GoodIn wsL_isLaid (wsV RL 81 RX4 yX4_ofPage wsX4_ofPage) := goodIn_app (goodIn_of _ (by decide +kernel)) ggL_isLaid_X4_ofPage
set_option maxRecDepth 20000 in
theorem ggL_isLaid_X4_ofRow : GoodIn wsL_isLaid wsX4_ofRow := goodIn_ca (goodIn_ca (goodIn_r _ [210, 211, 212, 213, 8, 214, 178, 179, 20, 10, 11, 12, 13, 14, 15, 16, 17, 18, 19, 21, 22, 23, 24, 25, 26, 27, 28, 29, 30, 31, 32, 33, 34, 35, 36, 37, 38, 39, 40, 41, 42, 43, 44, 45, 46, 47, 48, 49, 3, 50, 51, 52, 53, 54, 55, 56, 57, 58, 59, 2, 4, 60, 61, 62, 63, 64, 65, 66, 67, 68, 69, 70, 71, 72, 73, 74, 75, 76, 77, 78, 79, 80, 81, 82, 83, 84, 85, 86, 87, 88, 89, 90, 91, 92, 93, 94, 95, 96, 97, 98, 99, 100, 101, 102, 103, 104, 105, 106, 107, 108, 109, 110, 111, 112, 113, 114, 115, 116, 117, 118, 119, 120, 121, 122, 123, 124, 125, 126, 127, 128, 129, 130, 131, 132, 133, 134, 135, 136, 137, 138, 139, 140, 141, 142, 143, 144, 215, 216, 217, 218, 149, 150, 151, 152, 241, 242, 243, 244, 245, 246, 247, 248, 249, 250, 251, 252, 253, 254, 255, 256, 257, 258, 259, 260, 261, 262, 263, 264, 265, 266, 267, 268, 269, 270, 271, 272, 273, 274, 275, 276, 277, 278, 279, 280, 281, 282] (by decide +kernel) (by decide +kernel)) (goodIn_sub (fun _ h => List.mem_cons_of_mem _ (List.mem_append_right _ h)) (by decide +kernel))) (goodIn_sub (fun _ h => List.mem_cons_of_mem _ (List.mem_append_left _ (List.mem_append_right _ h))) (by decide +kernel))
set_option maxRecDepth 20000 in
theorem gL_isLaid_X4_ofRow : GoodIn wsL_isLaid (wsV RL 84 RX4 yX4_ofRow wsX4_ofRow) := goodIn_app (goodIn_of _ (by decide +kernel)) ggL_isLaid_X4_ofRow
set_option maxRecDepth 20000 in
theorem ggL_isLaid_X4_carried : GoodIn wsL_isLaid wsX4_carried := goodIn_ca (goodIn_r _ [222, 21, 20, 15, 16, 17, 8, 18, 19, 22, 23, 24, 25, 26, 27, 28, 29, 30, 31, 32, 33, 34, 35, 36, 37, 38, 39, 40, 41, 42, 43, 44, 45, 46, 47, 48, 49, 3, 50, 51, 52, 53, 54, 55, 56, 57, 58, 59, 2, 4, 60, 61, 62, 63, 64, 65, 66, 67, 68, 69, 70, 71, 72, 73, 74, 75, 76, 77, 78, 79, 80, 81, 82, 83, 84, 85, 86, 87, 88, 89, 90, 91, 92, 93, 94, 95, 96, 97, 98, 99, 100, 101, 102, 103, 104, 105, 106, 107, 108, 109, 110, 111, 112, 113, 114, 115, 116, 117, 118, 119, 120, 121, 122, 123, 124, 125, 126, 127, 128, 129, 130, 131, 132, 133, 134, 135, 136, 137, 138, 139, 140, 141, 142, 143, 144, 192, 193, 194, 195, 178, 179, 149, 150, 151, 152, 174, 175, 176, 177, 223, 224, 225, 226, 227, 185, 186, 187, 241, 242, 243, 244, 245, 246, 247, 248, 249, 250, 251, 252, 253, 254, 255, 256, 257, 258, 259, 260, 261, 262, 263, 264, 265, 266, 267, 268, 269, 270, 271, 272, 273, 274, 275, 276, 277, 278, 279, 280, 281, 282] (by decide +kernel) (by decide +kernel)) (goodIn_sub (fun _ h => List.mem_cons_of_mem _ (List.mem_append_right _ h)) (by decide +kernel))
set_option maxRecDepth 20000 in
theorem gL_isLaid_X4_carried : GoodIn wsL_isLaid (wsV RL 87 RX4 yX4_carried wsX4_carried) := goodIn_app (goodIn_of _ (by decide +kernel)) ggL_isLaid_X4_carried
set_option maxRecDepth 20000 in
theorem ggL_isLaid_X4_cell : GoodIn wsL_isLaid wsX4_cell := goodIn_ca (goodIn_ca (goodIn_r _ [231, 211, 212, 213, 8, 214, 178, 179, 20, 174, 175, 176, 177, 10, 11, 12, 13, 14, 15, 16, 17, 18, 19, 21, 22, 23, 24, 25, 26, 27, 28, 29, 30, 31, 32, 33, 34, 35, 36, 37, 38, 39, 40, 41, 42, 43, 44, 45, 46, 47, 48, 49, 3, 50, 51, 52, 53, 54, 55, 56, 57, 58, 59, 2, 4, 60, 61, 62, 63, 64, 65, 66, 67, 68, 69, 70, 71, 72, 73, 74, 75, 76, 77, 78, 79, 80, 81, 82, 83, 84, 85, 86, 87, 88, 89, 90, 91, 92, 93, 94, 95, 96, 97, 98, 99, 100, 101, 102, 103, 104, 105, 106, 107, 108, 109, 110, 111, 112, 113, 114, 115, 116, 117, 118, 119, 120, 121, 122, 123, 124, 125, 126, 127, 128, 129, 130, 131, 132, 133, 134, 135, 136, 137, 138, 139, 140, 141, 142, 143, 144, 232, 233, 234, 235, 149, 150, 151, 152, 236, 184, 185, 186, 187, 241, 242, 243, 244, 245, 246, 247, 248, 249, 250, 251, 252, 253, 254, 255, 256, 257, 258, 259, 260, 261, 262, 263, 264, 265, 266, 267, 268, 269, 270, 271, 272, 273, 274, 275, 276, 277, 278, 279, 280, 281, 282] (by decide +kernel) (by decide +kernel)) (goodIn_sub (fun _ h => List.mem_cons_of_mem _ (List.mem_append_right _ h)) (by decide +kernel))) (goodIn_sub (fun _ h => List.mem_cons_of_mem _ (List.mem_append_left _ (List.mem_append_right _ h))) (by decide +kernel))
set_option maxRecDepth 20000 in
theorem gL_isLaid_X4_cell : GoodIn wsL_isLaid (wsV RL 73 RX4 yX4_cell wsX4_cell) := goodIn_app (goodIn_of _ (by decide +kernel)) ggL_isLaid_X4_cell
set_option maxRecDepth 20000 in
theorem ggL_isLaid_L_isTogether : GoodIn wsL_isLaid wsL_isTogether := goodIn_ca (goodIn_ca (goodIn_r _ [240, 207, 208, 209, 8, 210, 211, 212, 213, 214, 178, 179, 20, 10, 11, 12, 13, 14, 15, 16, 17, 18, 19, 21, 22, 23, 24, 25, 26, 27, 28, 29, 30, 31, 32, 33, 34, 35, 36, 37, 38, 39, 40, 41, 42, 43, 44, 45, 46, 47, 48, 49, 3, 50, 51, 52, 53, 54, 55, 56, 57, 58, 59, 2, 4, 60, 61, 62, 63, 64, 65, 66, 67, 68, 69, 70, 71, 72, 73, 74, 75, 76, 77, 78, 79, 80, 81, 82, 83, 84, 85, 86, 87, 88, 89, 90, 91, 92, 93, 94, 95, 96, 97, 98, 99, 100, 101, 102, 103, 104, 105, 106, 107, 108, 109, 110, 111, 112, 113, 114, 115, 116, 117, 118, 119, 120, 121, 122, 123, 124, 125, 126, 127, 128, 129, 130, 131, 132, 133, 134, 135, 136, 137, 138, 139, 140, 141, 142, 143, 144, 215, 216, 217, 218, 149, 150, 151, 152, 188, 189, 190, 191, 192, 193, 194, 195, 196, 197, 198, 199, 200, 201, 202, 203, 204, 205, 206, 241, 242, 243, 244, 245, 246, 247, 248, 249, 250, 251, 252, 253, 254, 255, 256, 257, 258, 259, 260, 261, 262, 263, 264, 265, 266, 267, 268, 269, 270, 271, 272, 273, 274, 275, 276, 277, 278, 279, 280, 281, 282] (by decide +kernel) (by decide +kernel)) (goodIn_sub (fun _ h => List.mem_cons_of_mem _ (List.mem_append_right _ h)) (by decide +kernel))) (goodIn_sub (fun _ h => List.mem_cons_of_mem _ (List.mem_append_left _ (List.mem_append_right _ h))) (by decide +kernel))
set_option maxRecDepth 20000 in
theorem gL_isLaid_L_isTogether : GoodIn wsL_isLaid (va_wsS RL 93 yL_isTogether wsL_isTogether) := goodIn_app (goodIn_of _ (by decide +kernel)) ggL_isLaid_L_isTogether
theorem dL_isLaid_0 : decode cL_isLaid 0 = .ok (.aload_n 0, 1) := by decide +kernel
theorem dL_isLaid_1 : decode cL_isLaid 1 = .ok (.iconst 0, 1) := by decide +kernel
theorem dL_isLaid_2 : decode cL_isLaid 2 = .ok (.invokevirtual 26, 3) := by decide +kernel
theorem dL_isLaid_5 : decode cL_isLaid 5 = .ok (.istore 5, 2) := by decide +kernel
theorem dL_isLaid_7 : decode cL_isLaid 7 = .ok (.aload_n 0, 1) := by decide +kernel
theorem dL_isLaid_8 : decode cL_isLaid 8 = .ok (.iconst 1, 1) := by decide +kernel
theorem dL_isLaid_9 : decode cL_isLaid 9 = .ok (.invokevirtual 26, 3) := by decide +kernel
theorem dL_isLaid_12 : decode cL_isLaid 12 = .ok (.istore 6, 2) := by decide +kernel
theorem dL_isLaid_14 : decode cL_isLaid 14 = .ok (.aload_n 0, 1) := by decide +kernel
theorem dL_isLaid_15 : decode cL_isLaid 15 = .ok (.iconst 2, 1) := by decide +kernel
theorem dL_isLaid_16 : decode cL_isLaid 16 = .ok (.invokevirtual 26, 3) := by decide +kernel
theorem dL_isLaid_19 : decode cL_isLaid 19 = .ok (.istore 7, 2) := by decide +kernel
theorem dL_isLaid_21 : decode cL_isLaid 21 = .ok (.iload 5, 2) := by decide +kernel
theorem dL_isLaid_23 : decode cL_isLaid 23 = .ok (.iconst 1, 1) := by decide +kernel
theorem dL_isLaid_24 : decode cL_isLaid 24 = .ok (.isub, 1) := by decide +kernel
theorem dL_isLaid_25 : decode cL_isLaid 25 = .ok (.istore 8, 2) := by decide +kernel
theorem dL_isLaid_27 : decode cL_isLaid 27 = .ok (.iconst 0, 1) := by decide +kernel
theorem dL_isLaid_28 : decode cL_isLaid 28 = .ok (.istore 9, 2) := by decide +kernel
theorem dL_isLaid_30 : decode cL_isLaid 30 = .ok (.iload 9, 2) := by decide +kernel
theorem dL_isLaid_32 : decode cL_isLaid 32 = .ok (.iload 5, 2) := by decide +kernel
theorem dL_isLaid_34 : decode cL_isLaid 34 = .ok (.if_icmp .ge 51, 3) := by decide +kernel
theorem dL_isLaid_37 : decode cL_isLaid 37 = .ok (.aload_n 0, 1) := by decide +kernel
theorem dL_isLaid_38 : decode cL_isLaid 38 = .ok (.iload 9, 2) := by decide +kernel
theorem dL_isLaid_40 : decode cL_isLaid 40 = .ok (.iconst 3, 1) := by decide +kernel
theorem dL_isLaid_41 : decode cL_isLaid 41 = .ok (.invokevirtual 78, 3) := by decide +kernel
theorem dL_isLaid_44 : decode cL_isLaid 44 = .ok (.istore 10, 2) := by decide +kernel
theorem dL_isLaid_46 : decode cL_isLaid 46 = .ok (.iload 10, 2) := by decide +kernel
theorem dL_isLaid_48 : decode cL_isLaid 48 = .ok (.aload_n 0, 1) := by decide +kernel
theorem dL_isLaid_49 : decode cL_isLaid 49 = .ok (.iload 9, 2) := by decide +kernel
theorem dL_isLaid_51 : decode cL_isLaid 51 = .ok (.iconst 1, 1) := by decide +kernel
theorem dL_isLaid_52 : decode cL_isLaid 52 = .ok (.invokevirtual 78, 3) := by decide +kernel
theorem dL_isLaid_55 : decode cL_isLaid 55 = .ok (.if_icmp .lt 15, 3) := by decide +kernel
theorem dL_isLaid_58 : decode cL_isLaid 58 = .ok (.iload 10, 2) := by decide +kernel
theorem dL_isLaid_60 : decode cL_isLaid 60 = .ok (.aload_n 0, 1) := by decide +kernel
theorem dL_isLaid_61 : decode cL_isLaid 61 = .ok (.iload 9, 2) := by decide +kernel
theorem dL_isLaid_63 : decode cL_isLaid 63 = .ok (.iconst 2, 1) := by decide +kernel
theorem dL_isLaid_64 : decode cL_isLaid 64 = .ok (.invokevirtual 78, 3) := by decide +kernel
theorem dL_isLaid_67 : decode cL_isLaid 67 = .ok (.if_icmp .le 5, 3) := by decide +kernel
theorem dL_isLaid_70 : decode cL_isLaid 70 = .ok (.iconst 0, 1) := by decide +kernel
theorem dL_isLaid_71 : decode cL_isLaid 71 = .ok (.ireturn, 1) := by decide +kernel
theorem dL_isLaid_72 : decode cL_isLaid 72 = .ok (.iload 8, 2) := by decide +kernel
theorem dL_isLaid_74 : decode cL_isLaid 74 = .ok (.iload 10, 2) := by decide +kernel
theorem dL_isLaid_76 : decode cL_isLaid 76 = .ok (.iadd, 1) := by decide +kernel
theorem dL_isLaid_77 : decode cL_isLaid 77 = .ok (.istore 8, 2) := by decide +kernel
theorem dL_isLaid_79 : decode cL_isLaid 79 = .ok (.iinc 9 1, 3) := by decide +kernel
theorem dL_isLaid_82 : decode cL_isLaid 82 = .ok (.goto (-52), 3) := by decide +kernel
theorem dL_isLaid_85 : decode cL_isLaid 85 = .ok (.iload 8, 2) := by decide +kernel
theorem dL_isLaid_87 : decode cL_isLaid 87 = .ok (.aload_n 0, 1) := by decide +kernel
theorem dL_isLaid_88 : decode cL_isLaid 88 = .ok (.iconst 4, 1) := by decide +kernel
theorem dL_isLaid_89 : decode cL_isLaid 89 = .ok (.invokevirtual 26, 3) := by decide +kernel
theorem dL_isLaid_92 : decode cL_isLaid 92 = .ok (.if_icmp .ne 9, 3) := by decide +kernel
theorem dL_isLaid_95 : decode cL_isLaid 95 = .ok (.iload 8, 2) := by decide +kernel
theorem dL_isLaid_97 : decode cL_isLaid 97 = .ok (.iload_n 1, 1) := by decide +kernel
theorem dL_isLaid_98 : decode cL_isLaid 98 = .ok (.if_icmp .le 5, 3) := by decide +kernel
theorem dL_isLaid_101 : decode cL_isLaid 101 = .ok (.iconst 0, 1) := by decide +kernel
theorem dL_isLaid_102 : decode cL_isLaid 102 = .ok (.ireturn, 1) := by decide +kernel
theorem dL_isLaid_103 : decode cL_isLaid 103 = .ok (.iconst 0, 1) := by decide +kernel
theorem dL_isLaid_104 : decode cL_isLaid 104 = .ok (.istore 9, 2) := by decide +kernel
theorem dL_isLaid_106 : decode cL_isLaid 106 = .ok (.iconst 0, 1) := by decide +kernel
theorem dL_isLaid_107 : decode cL_isLaid 107 = .ok (.istore 10, 2) := by decide +kernel
theorem dL_isLaid_109 : decode cL_isLaid 109 = .ok (.iconst 0, 1) := by decide +kernel
theorem dL_isLaid_110 : decode cL_isLaid 110 = .ok (.istore 11, 2) := by decide +kernel
theorem dL_isLaid_112 : decode cL_isLaid 112 = .ok (.iconst 0, 1) := by decide +kernel
theorem dL_isLaid_113 : decode cL_isLaid 113 = .ok (.istore 12, 2) := by decide +kernel
theorem dL_isLaid_115 : decode cL_isLaid 115 = .ok (.iload 12, 2) := by decide +kernel
theorem dL_isLaid_117 : decode cL_isLaid 117 = .ok (.iload 7, 2) := by decide +kernel
theorem dL_isLaid_119 : decode cL_isLaid 119 = .ok (.if_icmp .ge 260, 3) := by decide +kernel
theorem dL_isLaid_122 : decode cL_isLaid 122 = .ok (.aload_n 0, 1) := by decide +kernel
theorem dL_isLaid_123 : decode cL_isLaid 123 = .ok (.iload 12, 2) := by decide +kernel
theorem dL_isLaid_125 : decode cL_isLaid 125 = .ok (.iconst 1, 1) := by decide +kernel
theorem dL_isLaid_126 : decode cL_isLaid 126 = .ok (.invokevirtual 81, 3) := by decide +kernel
theorem dL_isLaid_129 : decode cL_isLaid 129 = .ok (.istore 13, 2) := by decide +kernel
theorem dL_isLaid_131 : decode cL_isLaid 131 = .ok (.aload_n 0, 1) := by decide +kernel
theorem dL_isLaid_132 : decode cL_isLaid 132 = .ok (.iload 12, 2) := by decide +kernel
theorem dL_isLaid_134 : decode cL_isLaid 134 = .ok (.iconst 3, 1) := by decide +kernel
theorem dL_isLaid_135 : decode cL_isLaid 135 = .ok (.invokevirtual 81, 3) := by decide +kernel
theorem dL_isLaid_138 : decode cL_isLaid 138 = .ok (.istore 14, 2) := by decide +kernel
theorem dL_isLaid_140 : decode cL_isLaid 140 = .ok (.iload 13, 2) := by decide +kernel
theorem dL_isLaid_142 : decode cL_isLaid 142 = .ok (.ifCond .le 15, 3) := by decide +kernel
theorem dL_isLaid_145 : decode cL_isLaid 145 = .ok (.aload_n 0, 1) := by decide +kernel
theorem dL_isLaid_146 : decode cL_isLaid 146 = .ok (.iload 12, 2) := by decide +kernel
theorem dL_isLaid_148 : decode cL_isLaid 148 = .ok (.iconst 0, 1) := by decide +kernel
theorem dL_isLaid_149 : decode cL_isLaid 149 = .ok (.invokevirtual 81, 3) := by decide +kernel
theorem dL_isLaid_152 : decode cL_isLaid 152 = .ok (.iload 9, 2) := by decide +kernel
theorem dL_isLaid_154 : decode cL_isLaid 154 = .ok (.if_icmp .ne 21, 3) := by decide +kernel
theorem dL_isLaid_157 : decode cL_isLaid 157 = .ok (.iload 13, 2) := by decide +kernel
theorem dL_isLaid_159 : decode cL_isLaid 159 = .ok (.aload_n 0, 1) := by decide +kernel
theorem dL_isLaid_160 : decode cL_isLaid 160 = .ok (.iload 12, 2) := by decide +kernel
theorem dL_isLaid_162 : decode cL_isLaid 162 = .ok (.iconst 2, 1) := by decide +kernel
theorem dL_isLaid_163 : decode cL_isLaid 163 = .ok (.invokevirtual 81, 3) := by decide +kernel
theorem dL_isLaid_166 : decode cL_isLaid 166 = .ok (.iadd, 1) := by decide +kernel
theorem dL_isLaid_167 : decode cL_isLaid 167 = .ok (.ifCond .eq 8, 3) := by decide +kernel
theorem dL_isLaid_170 : decode cL_isLaid 170 = .ok (.iload 14, 2) := by decide +kernel
theorem dL_isLaid_172 : decode cL_isLaid 172 = .ok (.ifCond .ge 5, 3) := by decide +kernel
theorem dL_isLaid_175 : decode cL_isLaid 175 = .ok (.iconst 0, 1) := by decide +kernel
theorem dL_isLaid_176 : decode cL_isLaid 176 = .ok (.ireturn, 1) := by decide +kernel
theorem dL_isLaid_177 : decode cL_isLaid 177 = .ok (.iload 9, 2) := by decide +kernel
theorem dL_isLaid_179 : decode cL_isLaid 179 = .ok (.istore 15, 2) := by decide +kernel
theorem dL_isLaid_181 : decode cL_isLaid 181 = .ok (.iload 15, 2) := by decide +kernel
theorem dL_isLaid_183 : decode cL_isLaid 183 = .ok (.iload 9, 2) := by decide +kernel
theorem dL_isLaid_185 : decode cL_isLaid 185 = .ok (.iload 13, 2) := by decide +kernel
theorem dL_isLaid_187 : decode cL_isLaid 187 = .ok (.iadd, 1) := by decide +kernel
theorem dL_isLaid_188 : decode cL_isLaid 188 = .ok (.if_icmp .ge 58, 3) := by decide +kernel
theorem dL_isLaid_191 : decode cL_isLaid 191 = .ok (.aload_n 0, 1) := by decide +kernel
theorem dL_isLaid_192 : decode cL_isLaid 192 = .ok (.iload 15, 2) := by decide +kernel
theorem dL_isLaid_194 : decode cL_isLaid 194 = .ok (.iconst 1, 1) := by decide +kernel
theorem dL_isLaid_195 : decode cL_isLaid 195 = .ok (.invokevirtual 84, 3) := by decide +kernel
theorem dL_isLaid_198 : decode cL_isLaid 198 = .ok (.iload 12, 2) := by decide +kernel
theorem dL_isLaid_200 : decode cL_isLaid 200 = .ok (.if_icmp .ne 14, 3) := by decide +kernel
theorem dL_isLaid_203 : decode cL_isLaid 203 = .ok (.aload_n 0, 1) := by decide +kernel
theorem dL_isLaid_204 : decode cL_isLaid 204 = .ok (.iload 15, 2) := by decide +kernel
theorem dL_isLaid_206 : decode cL_isLaid 206 = .ok (.iconst 0, 1) := by decide +kernel
theorem dL_isLaid_207 : decode cL_isLaid 207 = .ok (.invokevirtual 84, 3) := by decide +kernel
theorem dL_isLaid_210 : decode cL_isLaid 210 = .ok (.iconst 1, 1) := by decide +kernel
theorem dL_isLaid_211 : decode cL_isLaid 211 = .ok (.if_icmp .ge 5, 3) := by decide +kernel
theorem dL_isLaid_214 : decode cL_isLaid 214 = .ok (.iconst 0, 1) := by decide +kernel
theorem dL_isLaid_215 : decode cL_isLaid 215 = .ok (.ireturn, 1) := by decide +kernel
theorem dL_isLaid_216 : decode cL_isLaid 216 = .ok (.iload 14, 2) := by decide +kernel
theorem dL_isLaid_218 : decode cL_isLaid 218 = .ok (.aload_n 0, 1) := by decide +kernel
theorem dL_isLaid_219 : decode cL_isLaid 219 = .ok (.iload 15, 2) := by decide +kernel
theorem dL_isLaid_221 : decode cL_isLaid 221 = .ok (.iconst 0, 1) := by decide +kernel
theorem dL_isLaid_222 : decode cL_isLaid 222 = .ok (.invokevirtual 84, 3) := by decide +kernel
theorem dL_isLaid_225 : decode cL_isLaid 225 = .ok (.iadd, 1) := by decide +kernel
theorem dL_isLaid_226 : decode cL_isLaid 226 = .ok (.istore 14, 2) := by decide +kernel
theorem dL_isLaid_228 : decode cL_isLaid 228 = .ok (.iload 10, 2) := by decide +kernel
theorem dL_isLaid_230 : decode cL_isLaid 230 = .ok (.aload_n 0, 1) := by decide +kernel
theorem dL_isLaid_231 : decode cL_isLaid 231 = .ok (.iload 15, 2) := by decide +kernel
theorem dL_isLaid_233 : decode cL_isLaid 233 = .ok (.iconst 0, 1) := by decide +kernel
theorem dL_isLaid_234 : decode cL_isLaid 234 = .ok (.invokevirtual 84, 3) := by decide +kernel
theorem dL_isLaid_237 : decode cL_isLaid 237 = .ok (.iadd, 1) := by decide +kernel
theorem dL_isLaid_238 : decode cL_isLaid 238 = .ok (.istore 10, 2) := by decide +kernel
theorem dL_isLaid_240 : decode cL_isLaid 240 = .ok (.iinc 15 1, 3) := by decide +kernel
theorem dL_isLaid_243 : decode cL_isLaid 243 = .ok (.goto (-62), 3) := by decide +kernel
theorem dL_isLaid_246 : decode cL_isLaid 246 = .ok (.iload 9, 2) := by decide +kernel
theorem dL_isLaid_248 : decode cL_isLaid 248 = .ok (.iload 13, 2) := by decide +kernel
theorem dL_isLaid_250 : decode cL_isLaid 250 = .ok (.iadd, 1) := by decide +kernel
theorem dL_isLaid_251 : decode cL_isLaid 251 = .ok (.istore 9, 2) := by decide +kernel
theorem dL_isLaid_253 : decode cL_isLaid 253 = .ok (.iconst 0, 1) := by decide +kernel
theorem dL_isLaid_254 : decode cL_isLaid 254 = .ok (.istore 15, 2) := by decide +kernel
theorem dL_isLaid_256 : decode cL_isLaid 256 = .ok (.iconst 0, 1) := by decide +kernel
theorem dL_isLaid_257 : decode cL_isLaid 257 = .ok (.istore 16, 2) := by decide +kernel
theorem dL_isLaid_259 : decode cL_isLaid 259 = .ok (.iload 16, 2) := by decide +kernel
theorem dL_isLaid_261 : decode cL_isLaid 261 = .ok (.iload 6, 2) := by decide +kernel
theorem dL_isLaid_263 : decode cL_isLaid 263 = .ok (.if_icmp .ge 43, 3) := by decide +kernel
theorem dL_isLaid_266 : decode cL_isLaid 266 = .ok (.aload_n 3, 1) := by decide +kernel
theorem dL_isLaid_267 : decode cL_isLaid 267 = .ok (.iload 16, 2) := by decide +kernel
theorem dL_isLaid_269 : decode cL_isLaid 269 = .ok (.iaload, 1) := by decide +kernel
theorem dL_isLaid_270 : decode cL_isLaid 270 = .ok (.ifCond .eq 30, 3) := by decide +kernel
theorem dL_isLaid_273 : decode cL_isLaid 273 = .ok (.aload_n 0, 1) := by decide +kernel
theorem dL_isLaid_274 : decode cL_isLaid 274 = .ok (.iload 16, 2) := by decide +kernel
theorem dL_isLaid_276 : decode cL_isLaid 276 = .ok (.iconst 2, 1) := by decide +kernel
theorem dL_isLaid_277 : decode cL_isLaid 277 = .ok (.invokevirtual 84, 3) := by decide +kernel
theorem dL_isLaid_280 : decode cL_isLaid 280 = .ok (.iload 12, 2) := by decide +kernel
theorem dL_isLaid_282 : decode cL_isLaid 282 = .ok (.if_icmp .eq 6, 3) := by decide +kernel
theorem dL_isLaid_285 : decode cL_isLaid 285 = .ok (.goto 15, 3) := by decide +kernel
theorem dL_isLaid_288 : decode cL_isLaid 288 = .ok (.iload 14, 2) := by decide +kernel
theorem dL_isLaid_290 : decode cL_isLaid 290 = .ok (.aload_n 3, 1) := by decide +kernel
theorem dL_isLaid_291 : decode cL_isLaid 291 = .ok (.iload 16, 2) := by decide +kernel
theorem dL_isLaid_293 : decode cL_isLaid 293 = .ok (.iaload, 1) := by decide +kernel
theorem dL_isLaid_294 : decode cL_isLaid 294 = .ok (.iadd, 1) := by decide +kernel
theorem dL_isLaid_295 : decode cL_isLaid 295 = .ok (.istore 14, 2) := by decide +kernel
theorem dL_isLaid_297 : decode cL_isLaid 297 = .ok (.iinc 15 1, 3) := by decide +kernel
theorem dL_isLaid_300 : decode cL_isLaid 300 = .ok (.iinc 16 1, 3) := by decide +kernel
theorem dL_isLaid_303 : decode cL_isLaid 303 = .ok (.goto (-44), 3) := by decide +kernel
theorem dL_isLaid_306 : decode cL_isLaid 306 = .ok (.iload 11, 2) := by decide +kernel
theorem dL_isLaid_308 : decode cL_isLaid 308 = .ok (.iload 15, 2) := by decide +kernel
theorem dL_isLaid_310 : decode cL_isLaid 310 = .ok (.iadd, 1) := by decide +kernel
theorem dL_isLaid_311 : decode cL_isLaid 311 = .ok (.istore 11, 2) := by decide +kernel
theorem dL_isLaid_313 : decode cL_isLaid 313 = .ok (.iload 14, 2) := by decide +kernel
theorem dL_isLaid_315 : decode cL_isLaid 315 = .ok (.iload_n 2, 1) := by decide +kernel
theorem dL_isLaid_316 : decode cL_isLaid 316 = .ok (.if_icmp .ne 15, 3) := by decide +kernel
theorem dL_isLaid_319 : decode cL_isLaid 319 = .ok (.iload 15, 2) := by decide +kernel
theorem dL_isLaid_321 : decode cL_isLaid 321 = .ok (.aload_n 0, 1) := by decide +kernel
theorem dL_isLaid_322 : decode cL_isLaid 322 = .ok (.iload 12, 2) := by decide +kernel
theorem dL_isLaid_324 : decode cL_isLaid 324 = .ok (.iconst 2, 1) := by decide +kernel
theorem dL_isLaid_325 : decode cL_isLaid 325 = .ok (.invokevirtual 81, 3) := by decide +kernel
theorem dL_isLaid_328 : decode cL_isLaid 328 = .ok (.if_icmp .eq 5, 3) := by decide +kernel
theorem dL_isLaid_331 : decode cL_isLaid 331 = .ok (.iconst 0, 1) := by decide +kernel
theorem dL_isLaid_332 : decode cL_isLaid 332 = .ok (.ireturn, 1) := by decide +kernel
theorem dL_isLaid_333 : decode cL_isLaid 333 = .ok (.iconst 0, 1) := by decide +kernel
theorem dL_isLaid_334 : decode cL_isLaid 334 = .ok (.istore 16, 2) := by decide +kernel
theorem dL_isLaid_336 : decode cL_isLaid 336 = .ok (.iload 16, 2) := by decide +kernel
theorem dL_isLaid_338 : decode cL_isLaid 338 = .ok (.iload 5, 2) := by decide +kernel
theorem dL_isLaid_340 : decode cL_isLaid 340 = .ok (.if_icmp .ge 33, 3) := by decide +kernel
theorem dL_isLaid_343 : decode cL_isLaid 343 = .ok (.aload_n 0, 1) := by decide +kernel
theorem dL_isLaid_344 : decode cL_isLaid 344 = .ok (.iload 12, 2) := by decide +kernel
theorem dL_isLaid_346 : decode cL_isLaid 346 = .ok (.iload 16, 2) := by decide +kernel
theorem dL_isLaid_348 : decode cL_isLaid 348 = .ok (.invokevirtual 87, 3) := by decide +kernel
theorem dL_isLaid_351 : decode cL_isLaid 351 = .ok (.aload_n 0, 1) := by decide +kernel
theorem dL_isLaid_352 : decode cL_isLaid 352 = .ok (.iload 9, 2) := by decide +kernel
theorem dL_isLaid_354 : decode cL_isLaid 354 = .ok (.iconst 1, 1) := by decide +kernel
theorem dL_isLaid_355 : decode cL_isLaid 355 = .ok (.isub, 1) := by decide +kernel
theorem dL_isLaid_356 : decode cL_isLaid 356 = .ok (.iload 16, 2) := by decide +kernel
theorem dL_isLaid_358 : decode cL_isLaid 358 = .ok (.iconst 3, 1) := by decide +kernel
theorem dL_isLaid_359 : decode cL_isLaid 359 = .ok (.invokevirtual 73, 3) := by decide +kernel
theorem dL_isLaid_362 : decode cL_isLaid 362 = .ok (.if_icmp .eq 5, 3) := by decide +kernel
theorem dL_isLaid_365 : decode cL_isLaid 365 = .ok (.iconst 0, 1) := by decide +kernel
theorem dL_isLaid_366 : decode cL_isLaid 366 = .ok (.ireturn, 1) := by decide +kernel
theorem dL_isLaid_367 : decode cL_isLaid 367 = .ok (.iinc 16 1, 3) := by decide +kernel
theorem dL_isLaid_370 : decode cL_isLaid 370 = .ok (.goto (-34), 3) := by decide +kernel
theorem dL_isLaid_373 : decode cL_isLaid 373 = .ok (.iinc 12 1, 3) := by decide +kernel
theorem dL_isLaid_376 : decode cL_isLaid 376 = .ok (.goto (-261), 3) := by decide +kernel
theorem dL_isLaid_379 : decode cL_isLaid 379 = .ok (.iconst 0, 1) := by decide +kernel
theorem dL_isLaid_380 : decode cL_isLaid 380 = .ok (.istore 12, 2) := by decide +kernel
theorem dL_isLaid_382 : decode cL_isLaid 382 = .ok (.iconst 0, 1) := by decide +kernel
theorem dL_isLaid_383 : decode cL_isLaid 383 = .ok (.istore 13, 2) := by decide +kernel
theorem dL_isLaid_385 : decode cL_isLaid 385 = .ok (.iload 13, 2) := by decide +kernel
theorem dL_isLaid_387 : decode cL_isLaid 387 = .ok (.iload 6, 2) := by decide +kernel
theorem dL_isLaid_389 : decode cL_isLaid 389 = .ok (.if_icmp .ge 97, 3) := by decide +kernel
theorem dL_isLaid_392 : decode cL_isLaid 392 = .ok (.aload_n 0, 1) := by decide +kernel
theorem dL_isLaid_393 : decode cL_isLaid 393 = .ok (.iload 13, 2) := by decide +kernel
theorem dL_isLaid_395 : decode cL_isLaid 395 = .ok (.iconst 2, 1) := by decide +kernel
theorem dL_isLaid_396 : decode cL_isLaid 396 = .ok (.invokevirtual 84, 3) := by decide +kernel
theorem dL_isLaid_399 : decode cL_isLaid 399 = .ok (.istore 14, 2) := by decide +kernel
theorem dL_isLaid_401 : decode cL_isLaid 401 = .ok (.aload_n 3, 1) := by decide +kernel
theorem dL_isLaid_402 : decode cL_isLaid 402 = .ok (.iload 13, 2) := by decide +kernel
theorem dL_isLaid_404 : decode cL_isLaid 404 = .ok (.iaload, 1) := by decide +kernel
theorem dL_isLaid_405 : decode cL_isLaid 405 = .ok (.ifCond .ne 7, 3) := by decide +kernel
theorem dL_isLaid_408 : decode cL_isLaid 408 = .ok (.iconst 1, 1) := by decide +kernel
theorem dL_isLaid_409 : decode cL_isLaid 409 = .ok (.goto 4, 3) := by decide +kernel
theorem dL_isLaid_412 : decode cL_isLaid 412 = .ok (.iconst 0, 1) := by decide +kernel
theorem dL_isLaid_413 : decode cL_isLaid 413 = .ok (.iload 14, 2) := by decide +kernel
theorem dL_isLaid_415 : decode cL_isLaid 415 = .ok (.ifCond .ge 7, 3) := by decide +kernel
theorem dL_isLaid_418 : decode cL_isLaid 418 = .ok (.iconst 1, 1) := by decide +kernel
theorem dL_isLaid_419 : decode cL_isLaid 419 = .ok (.goto 4, 3) := by decide +kernel
theorem dL_isLaid_422 : decode cL_isLaid 422 = .ok (.iconst 0, 1) := by decide +kernel
theorem dL_isLaid_423 : decode cL_isLaid 423 = .ok (.if_icmp .ne 29, 3) := by decide +kernel
theorem dL_isLaid_426 : decode cL_isLaid 426 = .ok (.aload_n 3, 1) := by decide +kernel
theorem dL_isLaid_427 : decode cL_isLaid 427 = .ok (.iload 13, 2) := by decide +kernel
theorem dL_isLaid_429 : decode cL_isLaid 429 = .ok (.iaload, 1) := by decide +kernel
theorem dL_isLaid_430 : decode cL_isLaid 430 = .ok (.ifCond .le 24, 3) := by decide +kernel
theorem dL_isLaid_433 : decode cL_isLaid 433 = .ok (.iload 14, 2) := by decide +kernel
theorem dL_isLaid_435 : decode cL_isLaid 435 = .ok (.aload_n 0, 1) := by decide +kernel
theorem dL_isLaid_436 : decode cL_isLaid 436 = .ok (.iload 13, 2) := by decide +kernel
theorem dL_isLaid_438 : decode cL_isLaid 438 = .ok (.iconst 1, 1) := by decide +kernel
theorem dL_isLaid_439 : decode cL_isLaid 439 = .ok (.invokevirtual 84, 3) := by decide +kernel
theorem dL_isLaid_442 : decode cL_isLaid 442 = .ok (.if_icmp .lt 10, 3) := by decide +kernel
theorem dL_isLaid_445 : decode cL_isLaid 445 = .ok (.iload 14, 2) := by decide +kernel
theorem dL_isLaid_447 : decode cL_isLaid 447 = .ok (.iload 12, 2) := by decide +kernel
theorem dL_isLaid_449 : decode cL_isLaid 449 = .ok (.if_icmp .ge 5, 3) := by decide +kernel
theorem dL_isLaid_452 : decode cL_isLaid 452 = .ok (.iconst 0, 1) := by decide +kernel
theorem dL_isLaid_453 : decode cL_isLaid 453 = .ok (.ireturn, 1) := by decide +kernel
theorem dL_isLaid_454 : decode cL_isLaid 454 = .ok (.iload 12, 2) := by decide +kernel
theorem dL_isLaid_456 : decode cL_isLaid 456 = .ok (.iload 14, 2) := by decide +kernel
theorem dL_isLaid_458 : decode cL_isLaid 458 = .ok (.invokestatic 90, 3) := by decide +kernel
theorem dL_isLaid_461 : decode cL_isLaid 461 = .ok (.istore 12, 2) := by decide +kernel
theorem dL_isLaid_463 : decode cL_isLaid 463 = .ok (.aload_n 0, 1) := by decide +kernel
theorem dL_isLaid_464 : decode cL_isLaid 464 = .ok (.iload 13, 2) := by decide +kernel
theorem dL_isLaid_466 : decode cL_isLaid 466 = .ok (.iload 6, 2) := by decide +kernel
theorem dL_isLaid_468 : decode cL_isLaid 468 = .ok (.iload_n 2, 1) := by decide +kernel
theorem dL_isLaid_469 : decode cL_isLaid 469 = .ok (.aload_n 3, 1) := by decide +kernel
theorem dL_isLaid_470 : decode cL_isLaid 470 = .ok (.aload 4, 2) := by decide +kernel
theorem dL_isLaid_472 : decode cL_isLaid 472 = .ok (.invokestatic 93, 3) := by decide +kernel
theorem dL_isLaid_475 : decode cL_isLaid 475 = .ok (.ifCond .ne 5, 3) := by decide +kernel
theorem dL_isLaid_478 : decode cL_isLaid 478 = .ok (.iconst 0, 1) := by decide +kernel
theorem dL_isLaid_479 : decode cL_isLaid 479 = .ok (.ireturn, 1) := by decide +kernel
theorem dL_isLaid_480 : decode cL_isLaid 480 = .ok (.iinc 13 1, 3) := by decide +kernel
theorem dL_isLaid_483 : decode cL_isLaid 483 = .ok (.goto (-98), 3) := by decide +kernel
theorem dL_isLaid_486 : decode cL_isLaid 486 = .ok (.iconst 0, 1) := by decide +kernel
theorem dL_isLaid_487 : decode cL_isLaid 487 = .ok (.istore 13, 2) := by decide +kernel
theorem dL_isLaid_489 : decode cL_isLaid 489 = .ok (.iload 13, 2) := by decide +kernel
theorem dL_isLaid_491 : decode cL_isLaid 491 = .ok (.iload 6, 2) := by decide +kernel
theorem dL_isLaid_493 : decode cL_isLaid 493 = .ok (.if_icmp .ge 26, 3) := by decide +kernel
theorem dL_isLaid_496 : decode cL_isLaid 496 = .ok (.iload 11, 2) := by decide +kernel
theorem dL_isLaid_498 : decode cL_isLaid 498 = .ok (.aload_n 3, 1) := by decide +kernel
theorem dL_isLaid_499 : decode cL_isLaid 499 = .ok (.iload 13, 2) := by decide +kernel
theorem dL_isLaid_501 : decode cL_isLaid 501 = .ok (.iaload, 1) := by decide +kernel
theorem dL_isLaid_502 : decode cL_isLaid 502 = .ok (.ifCond .le 7, 3) := by decide +kernel
theorem dL_isLaid_505 : decode cL_isLaid 505 = .ok (.iconst 1, 1) := by decide +kernel
theorem dL_isLaid_506 : decode cL_isLaid 506 = .ok (.goto 4, 3) := by decide +kernel
theorem dL_isLaid_509 : decode cL_isLaid 509 = .ok (.iconst 0, 1) := by decide +kernel
theorem dL_isLaid_510 : decode cL_isLaid 510 = .ok (.isub, 1) := by decide +kernel
theorem dL_isLaid_511 : decode cL_isLaid 511 = .ok (.istore 11, 2) := by decide +kernel
theorem dL_isLaid_513 : decode cL_isLaid 513 = .ok (.iinc 13 1, 3) := by decide +kernel
theorem dL_isLaid_516 : decode cL_isLaid 516 = .ok (.goto (-27), 3) := by decide +kernel
theorem dL_isLaid_519 : decode cL_isLaid 519 = .ok (.iload 9, 2) := by decide +kernel
theorem dL_isLaid_521 : decode cL_isLaid 521 = .ok (.iload 6, 2) := by decide +kernel
theorem dL_isLaid_523 : decode cL_isLaid 523 = .ok (.if_icmp .ne 22, 3) := by decide +kernel
theorem dL_isLaid_526 : decode cL_isLaid 526 = .ok (.iload 10, 2) := by decide +kernel
theorem dL_isLaid_528 : decode cL_isLaid 528 = .ok (.aload_n 0, 1) := by decide +kernel
theorem dL_isLaid_529 : decode cL_isLaid 529 = .ok (.iconst 5, 1) := by decide +kernel
theorem dL_isLaid_530 : decode cL_isLaid 530 = .ok (.invokevirtual 26, 3) := by decide +kernel
theorem dL_isLaid_533 : decode cL_isLaid 533 = .ok (.if_icmp .ne 12, 3) := by decide +kernel
theorem dL_isLaid_536 : decode cL_isLaid 536 = .ok (.iload 11, 2) := by decide +kernel
theorem dL_isLaid_538 : decode cL_isLaid 538 = .ok (.ifCond .ne 7, 3) := by decide +kernel
theorem dL_isLaid_541 : decode cL_isLaid 541 = .ok (.iconst 1, 1) := by decide +kernel
theorem dL_isLaid_542 : decode cL_isLaid 542 = .ok (.goto 4, 3) := by decide +kernel
theorem dL_isLaid_545 : decode cL_isLaid 545 = .ok (.iconst 0, 1) := by decide +kernel
theorem dL_isLaid_546 : decode cL_isLaid 546 = .ok (.ireturn, 1) := by decide +kernel
set_option maxRecDepth 20000 in
theorem ggL_isTogether_X4_ofRow : GoodIn wsL_isTogether wsX4_ofRow := goodIn_ca (goodIn_ca (goodIn_r _ [5, 6, 7, 8, 4, 9, 10, 11, 12, 13, 14, 15, 16, 17, 18, 19, 20, 21, 22, 23, 24, 25, 26, 27, 28, 29, 30, 31, 32, 33, 34, 35, 36, 37, 38, 39, 40, 41, 42, 43, 44, 45, 46, 47, 48, 49, 50, 51, 52, 53, 54, 55, 56, 57, 58, 59, 60, 61, 62, 63, 64, 65, 66, 67, 68, 69, 70, 71, 72, 73, 74, 75, 76, 77, 78, 79, 80, 81, 82, 83, 84, 85, 86, 87, 88, 89, 90, 91, 92, 93, 94, 95, 96, 97, 98, 99, 100, 101, 102, 103, 104, 105, 106, 107, 108, 109, 110, 111, 112, 113, 114, 115, 116, 117, 118, 119, 120, 121, 122, 123, 124, 125, 126, 127, 128, 129, 130, 131, 132, 133, 134, 135, 136, 137, 138, 139, 140, 141, 142, 143, 144, 145, 146, 147, 148, 149, 150, 151, 152, 153, 154, 155, 156, 157, 177, 178, 179, 180, 181, 182, 183, 184, 185, 186, 187, 188, 189, 190, 191, 192, 193, 194, 195, 196, 197, 198, 199, 200, 201, 202, 203, 204, 205, 206, 207, 208, 209, 210, 211, 212, 213, 214, 215, 216, 217, 218] (by decide +kernel) (by decide +kernel)) (goodIn_sub (fun _ h => List.mem_cons_of_mem _ (List.mem_append_left _ (List.mem_append_right _ h))) (by decide +kernel))) (goodIn_sub (fun _ h => List.mem_cons_of_mem _ (List.mem_append_right _ h)) (by decide +kernel))
set_option maxRecDepth 20000 in
theorem gL_isTogether_X4_ofRow : GoodIn wsL_isTogether (wsV RL 84 RX4 yX4_ofRow wsX4_ofRow) := goodIn_app (goodIn_of _ (by decide +kernel)) ggL_isTogether_X4_ofRow
set_option maxRecDepth 20000 in
theorem ggL_isTogether_X4_ofPage : GoodIn wsL_isTogether wsX4_ofPage := goodIn_ca (goodIn_ca (goodIn_r _ [161, 18, 19, 20, 4, 21, 22, 12, 23, 24, 25, 26, 27, 28, 29, 30, 31, 32, 33, 34, 35, 36, 37, 38, 39, 40, 41, 42, 43, 44, 45, 46, 47, 48, 49, 50, 51, 52, 53, 54, 55, 56, 57, 58, 59, 60, 61, 62, 63, 64, 65, 66, 67, 68, 69, 70, 71, 72, 73, 74, 75, 76, 77, 78, 79, 80, 81, 82, 83, 84, 85, 86, 87, 88, 89, 90, 91, 92, 93, 94, 95, 96, 97, 98, 99, 100, 101, 102, 103, 104, 105, 106, 107, 108, 109, 110, 111, 112, 113, 114, 115, 116, 117, 118, 119, 120, 121, 122, 123, 124, 125, 126, 127, 128, 129, 130, 131, 132, 133, 134, 135, 136, 137, 138, 139, 140, 141, 142, 143, 144, 145, 146, 147, 148, 149, 162, 163, 164, 165, 10, 11, 154, 155, 156, 157, 13, 14, 15, 16, 17, 166, 167, 168, 169, 170, 171, 172, 173, 174, 175, 176, 177, 178, 179, 180, 181, 182, 183, 184, 185, 186, 187, 188, 189, 190, 191, 192, 193, 194, 195, 196, 197, 198, 199, 200, 201, 202, 203, 204, 205, 206, 207, 208, 209, 210, 211, 212, 213, 214, 215, 216, 217, 218] (by decide +kernel) (by decide +kernel)) (goodIn_sub (fun _ h => List.mem_cons_of_mem _ (List.mem_append_left _ (List.mem_append_right _ h))) (by decide +kernel))) (goodIn_sub (fun _ h => List.mem_cons_of_mem _ (List.mem_append_right _ h)) (by decide +kernel))
set_option maxRecDepth 20000 in
theorem gL_isTogether_X4_ofPage : GoodIn wsL_isTogether (wsV RL 81 RX4 yX4_ofPage wsX4_ofPage) := goodIn_app (goodIn_of _ (by decide +kernel)) ggL_isTogether_X4_ofPage
theorem dL_isTogether_0 : decode cL_isTogether 0 = .ok (.iload_n 1, 1) := by decide +kernel
theorem dL_isTogether_1 : decode cL_isTogether 1 = .ok (.ifCond .le 14, 3) := by decide +kernel
theorem dL_isTogether_4 : decode cL_isTogether 4 = .ok (.aload 5, 2) := by decide +kernel
theorem dL_isTogether_6 : decode cL_isTogether 6 = .ok (.iload_n 1, 1) := by decide +kernel
theorem dL_isTogether_7 : decode cL_isTogether 7 = .ok (.iconst 1, 1) := by decide +kernel
theorem dL_isTogether_8 : decode cL_isTogether 8 = .ok (.isub, 1) := by decide +kernel
theorem dL_isTogether_9 : decode cL_isTogether 9 = .ok (.baload, 1) := by decide +kernel
theorem dL_isTogether_10 : decode cL_isTogether 10 = .ok (.ifCond .eq 5, 3) := by decide +kernel
theorem dL_isTogether_13 : decode cL_isTogether 13 = .ok (.iconst 1, 1) := by decide +kernel
theorem dL_isTogether_14 : decode cL_isTogether 14 = .ok (.ireturn, 1) := by decide +kernel
theorem dL_isTogether_15 : decode cL_isTogether 15 = .ok (.aload_n 0, 1) := by decide +kernel
theorem dL_isTogether_16 : decode cL_isTogether 16 = .ok (.iload_n 1, 1) := by decide +kernel
theorem dL_isTogether_17 : decode cL_isTogether 17 = .ok (.iconst 0, 1) := by decide +kernel
theorem dL_isTogether_18 : decode cL_isTogether 18 = .ok (.invokevirtual 84, 3) := by decide +kernel
theorem dL_isTogether_21 : decode cL_isTogether 21 = .ok (.istore 6, 2) := by decide +kernel
theorem dL_isTogether_23 : decode cL_isTogether 23 = .ok (.iload_n 1, 1) := by decide +kernel
theorem dL_isTogether_24 : decode cL_isTogether 24 = .ok (.istore 7, 2) := by decide +kernel
theorem dL_isTogether_26 : decode cL_isTogether 26 = .ok (.iconst 0, 1) := by decide +kernel
theorem dL_isTogether_27 : decode cL_isTogether 27 = .ok (.istore 8, 2) := by decide +kernel
theorem dL_isTogether_29 : decode cL_isTogether 29 = .ok (.iload 7, 2) := by decide +kernel
theorem dL_isTogether_31 : decode cL_isTogether 31 = .ok (.iconst 1, 1) := by decide +kernel
theorem dL_isTogether_32 : decode cL_isTogether 32 = .ok (.iadd, 1) := by decide +kernel
theorem dL_isTogether_33 : decode cL_isTogether 33 = .ok (.iload_n 2, 1) := by decide +kernel
theorem dL_isTogether_34 : decode cL_isTogether 34 = .ok (.if_icmp .ge 47, 3) := by decide +kernel
theorem dL_isTogether_37 : decode cL_isTogether 37 = .ok (.aload 5, 2) := by decide +kernel
theorem dL_isTogether_39 : decode cL_isTogether 39 = .ok (.iload 7, 2) := by decide +kernel
theorem dL_isTogether_41 : decode cL_isTogether 41 = .ok (.baload, 1) := by decide +kernel
theorem dL_isTogether_42 : decode cL_isTogether 42 = .ok (.ifCond .eq 39, 3) := by decide +kernel
theorem dL_isTogether_45 : decode cL_isTogether 45 = .ok (.iload 8, 2) := by decide +kernel
theorem dL_isTogether_47 : decode cL_isTogether 47 = .ok (.aload 4, 2) := by decide +kernel
theorem dL_isTogether_49 : decode cL_isTogether 49 = .ok (.iload 7, 2) := by decide +kernel
theorem dL_isTogether_51 : decode cL_isTogether 51 = .ok (.iaload, 1) := by decide +kernel
theorem dL_isTogether_52 : decode cL_isTogether 52 = .ok (.ifCond .le 7, 3) := by decide +kernel
theorem dL_isTogether_55 : decode cL_isTogether 55 = .ok (.iconst 1, 1) := by decide +kernel
theorem dL_isTogether_56 : decode cL_isTogether 56 = .ok (.goto 4, 3) := by decide +kernel
theorem dL_isTogether_59 : decode cL_isTogether 59 = .ok (.iconst 0, 1) := by decide +kernel
theorem dL_isTogether_60 : decode cL_isTogether 60 = .ok (.ior, 1) := by decide +kernel
theorem dL_isTogether_61 : decode cL_isTogether 61 = .ok (.istore 8, 2) := by decide +kernel
theorem dL_isTogether_63 : decode cL_isTogether 63 = .ok (.iinc 7 1, 3) := by decide +kernel
theorem dL_isTogether_66 : decode cL_isTogether 66 = .ok (.iload 6, 2) := by decide +kernel
theorem dL_isTogether_68 : decode cL_isTogether 68 = .ok (.aload_n 0, 1) := by decide +kernel
theorem dL_isTogether_69 : decode cL_isTogether 69 = .ok (.iload 7, 2) := by decide +kernel
theorem dL_isTogether_71 : decode cL_isTogether 71 = .ok (.iconst 0, 1) := by decide +kernel
theorem dL_isTogether_72 : decode cL_isTogether 72 = .ok (.invokevirtual 84, 3) := by decide +kernel
theorem dL_isTogether_75 : decode cL_isTogether 75 = .ok (.iadd, 1) := by decide +kernel
theorem dL_isTogether_76 : decode cL_isTogether 76 = .ok (.istore 6, 2) := by decide +kernel
theorem dL_isTogether_78 : decode cL_isTogether 78 = .ok (.goto (-49), 3) := by decide +kernel
theorem dL_isTogether_81 : decode cL_isTogether 81 = .ok (.aload_n 0, 1) := by decide +kernel
theorem dL_isTogether_82 : decode cL_isTogether 82 = .ok (.iload_n 1, 1) := by decide +kernel
theorem dL_isTogether_83 : decode cL_isTogether 83 = .ok (.iconst 1, 1) := by decide +kernel
theorem dL_isTogether_84 : decode cL_isTogether 84 = .ok (.invokevirtual 84, 3) := by decide +kernel
theorem dL_isTogether_87 : decode cL_isTogether 87 = .ok (.istore 9, 2) := by decide +kernel
theorem dL_isTogether_89 : decode cL_isTogether 89 = .ok (.aload_n 0, 1) := by decide +kernel
theorem dL_isTogether_90 : decode cL_isTogether 90 = .ok (.iload 7, 2) := by decide +kernel
theorem dL_isTogether_92 : decode cL_isTogether 92 = .ok (.iconst 1, 1) := by decide +kernel
theorem dL_isTogether_93 : decode cL_isTogether 93 = .ok (.invokevirtual 84, 3) := by decide +kernel
theorem dL_isTogether_96 : decode cL_isTogether 96 = .ok (.iload 9, 2) := by decide +kernel
theorem dL_isTogether_98 : decode cL_isTogether 98 = .ok (.if_icmp .eq 25, 3) := by decide +kernel
theorem dL_isTogether_101 : decode cL_isTogether 101 = .ok (.iload 6, 2) := by decide +kernel
theorem dL_isTogether_103 : decode cL_isTogether 103 = .ok (.iload_n 3, 1) := by decide +kernel
theorem dL_isTogether_104 : decode cL_isTogether 104 = .ok (.if_icmp .gt 19, 3) := by decide +kernel
theorem dL_isTogether_107 : decode cL_isTogether 107 = .ok (.iload 8, 2) := by decide +kernel
theorem dL_isTogether_109 : decode cL_isTogether 109 = .ok (.ifCond .ne 14, 3) := by decide +kernel
theorem dL_isTogether_112 : decode cL_isTogether 112 = .ok (.aload_n 0, 1) := by decide +kernel
theorem dL_isTogether_113 : decode cL_isTogether 113 = .ok (.iload 9, 2) := by decide +kernel
theorem dL_isTogether_115 : decode cL_isTogether 115 = .ok (.iconst 0, 1) := by decide +kernel
theorem dL_isTogether_116 : decode cL_isTogether 116 = .ok (.invokevirtual 81, 3) := by decide +kernel
theorem dL_isTogether_119 : decode cL_isTogether 119 = .ok (.iload_n 1, 1) := by decide +kernel
theorem dL_isTogether_120 : decode cL_isTogether 120 = .ok (.if_icmp .ne 7, 3) := by decide +kernel
theorem dL_isTogether_123 : decode cL_isTogether 123 = .ok (.iconst 1, 1) := by decide +kernel
theorem dL_isTogether_124 : decode cL_isTogether 124 = .ok (.goto 4, 3) := by decide +kernel
theorem dL_isTogether_127 : decode cL_isTogether 127 = .ok (.iconst 0, 1) := by decide +kernel
theorem dL_isTogether_128 : decode cL_isTogether 128 = .ok (.ireturn, 1) := by decide +kernel
abbrev vwCl : List vw_C := [(RX0, TX0, 14), (RX1, TX1, 8), (RX2, TX2, 3), (RX3, TX3, 9), (RX4, TX4, 8)]
