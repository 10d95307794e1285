def RX0 : String := "ReportWriter$Group"
def TX0 : u_T := fun k => match k with
  | 0 => ("ReportWriter$Group", "number", "I", true)
  | 1 => ("ReportWriter$Group", "kind", "I", true)
  | 2 => ("ReportWriter$Group", "level", "I", true)
  | 3 => ("ReportWriter$Group", "start", "I", false)
  | 4 => ("ReportWriter$Group", "relative", "Z", false)
  | 5 => ("ReportWriter$Group", "lineCount", "I", false)
  | 6 => ("ReportWriter$Group", "behindStart", "[I", true)
  | 7 => ("ReportWriter$Group", "suppressed", "Z", false)
  | 8 => ("ReportWriter$Group", "indicated", "Z", false)
  | _ => ("ReportWriter$Group", "latestStretch", "I", false)
def tyX0 : Nat → FieldType := fun k => match k with
  | 0 => .int
  | 1 => .int
  | 2 => .int
  | 3 => .int
  | 4 => .boolean
  | 5 => .int
  | 6 => .array .int
  | 7 => .boolean
  | 8 => .boolean
  | _ => .int
theorem nmX0 : ∀ a, a < 10 → ∀ b, b < 10 → a ≠ b → (TX0 a).2.1 ≠ (TX0 b).2.1 := by decide +kernel
theorem tyX0_ok : ∀ k, k < 10 → parseFieldDescriptor (TX0 k).2.2.1 = some (tyX0 k) := by decide +kernel
abbrev cX0_init : ByteArray := prog_2_method_1_code
def yX0_init : MethodName := ⟨RX0, "<init>", "(III)V"⟩
abbrev cX0_addLine : ByteArray := prog_2_method_2_code
def yX0_addLine : MethodName := ⟨RX0, "addLine", "(IZ)V"⟩
abbrev cX0_height : ByteArray := prog_2_method_3_code
def yX0_height : MethodName := ⟨RX0, "height", "()I"⟩
abbrev cX0_takesItsTurn : ByteArray := prog_2_method_4_code
def yX0_takesItsTurn : MethodName := ⟨RX0, "takesItsTurn", "()Z"⟩
def RX1 : String := "ReportWriter$Printed"
def TX1 : u_T := fun k => match k with
  | 0 => ("ReportWriter$Printed", "sheets", "Ljava/util/ArrayList;", true)
  | _ => ("ReportWriter$Printed", "count", "I", false)
def tyX1 : Nat → FieldType := fun k => match k with
  | 0 => .object "java/util/ArrayList"
  | _ => .int
theorem nmX1 : ∀ a, a < 2 → ∀ b, b < 2 → a ≠ b → (TX1 a).2.1 ≠ (TX1 b).2.1 := by decide +kernel
theorem tyX1_ok : ∀ k, k < 2 → parseFieldDescriptor (TX1 k).2.2.1 = some (tyX1 k) := by decide +kernel
abbrev cX1_init : ByteArray := prog_3_method_1_code
def yX1_init : MethodName := ⟨RX1, "<init>", "()V"⟩
abbrev cX1_clear : ByteArray := prog_3_method_2_code
def yX1_clear : MethodName := ⟨RX1, "clear", "()V"⟩
abbrev cX1_add : ByteArray := prog_3_method_3_code
def yX1_add : MethodName := ⟨RX1, "add", "(IIIII)V"⟩
abbrev cX1_has : ByteArray := prog_3_method_4_code
def yX1_has : MethodName := ⟨RX1, "has", "(II)Z"⟩
abbrev cX1_cell : ByteArray := prog_3_method_5_code
def yX1_cell : MethodName := ⟨RX1, "cell", "(II)I"⟩
def RX2 : String := "ReportWriter$Sheet"
def TX2 : u_T := fun k => match k with
  | _ => ("ReportWriter$Sheet", "cells", "[I", true)
def tyX2 : Nat → FieldType := fun k => match k with
  | _ => .array .int
theorem nmX2 : ∀ a, a < 1 → ∀ b, b < 1 → a ≠ b → (TX2 a).2.1 ≠ (TX2 b).2.1 := by decide +kernel
theorem tyX2_ok : ∀ k, k < 1 → parseFieldDescriptor (TX2 k).2.2.1 = some (tyX2 k) := by decide +kernel
abbrev cX2_init : ByteArray := prog_4_method_1_code
def yX2_init : MethodName := ⟨RX2, "<init>", "()V"⟩
def RX3 : String := "ReportWriter$Sum"
def TX3 : u_T := fun k => match k with
  | 0 => ("ReportWriter$Sum", "group", "I", true)
  | 1 => ("ReportWriter$Sum", "level", "I", true)
  | 2 => ("ReportWriter$Sum", "of", "I", true)
  | 3 => ("ReportWriter$Sum", "reset", "I", true)
  | _ => ("ReportWriter$Sum", "total", "J", false)
def tyX3 : Nat → FieldType := fun k => match k with
  | 0 => .int
  | 1 => .int
  | 2 => .int
  | 3 => .int
  | _ => .long
theorem nmX3 : ∀ a, a < 5 → ∀ b, b < 5 → a ≠ b → (TX3 a).2.1 ≠ (TX3 b).2.1 := by decide +kernel
theorem tyX3_ok : ∀ k, k < 5 → parseFieldDescriptor (TX3 k).2.2.1 = some (tyX3 k) := by decide +kernel
abbrev cX3_init : ByteArray := prog_5_method_1_code
def yX3_init : MethodName := ⟨RX3, "<init>", "(IIII)V"⟩
def RX4 : String := "ReportWriter"
def TX4 : u_T := fun k => match k with
  | 0 => ("ReportWriter", "page", "I", true)
  | 1 => ("ReportWriter", "first", "I", true)
  | 2 => ("ReportWriter", "foot", "I", true)
  | 3 => ("ReportWriter", "groups", "Ljava/util/ArrayList;", true)
  | 4 => ("ReportWriter", "sums", "Ljava/util/ArrayList;", true)
  | 5 => ("ReportWriter", "controls", "I", false)
  | 6 => ("ReportWriter", "values", "[I", true)
  | 7 => ("ReportWriter", "valuesBefore", "[I", true)
  | 8 => ("ReportWriter", "printed", "LReportWriter$Printed;", true)
  | 9 => ("ReportWriter", "initiated", "Z", false)
  | 10 => ("ReportWriter", "pageCounter", "I", false)
  | 11 => ("ReportWriter", "latestLine", "I", false)
  | 12 => ("ReportWriter", "latestBodyLine", "I", false)
  | 13 => ("ReportWriter", "generatings", "I", false)
  | 14 => ("ReportWriter", "breaks", "I", false)
  | _ => ("ReportWriter", "stretch", "I", false)
def tyX4 : Nat → FieldType := fun k => match k with
  | 0 => .int
  | 1 => .int
  | 2 => .int
  | 3 => .object "java/util/ArrayList"
  | 4 => .object "java/util/ArrayList"
  | 5 => .int
  | 6 => .array .int
  | 7 => .array .int
  | 8 => .object "ReportWriter$Printed"
  | 9 => .boolean
  | 10 => .int
  | 11 => .int
  | 12 => .int
  | 13 => .int
  | 14 => .int
  | _ => .int
theorem nmX4 : ∀ a, a < 16 → ∀ b, b < 16 → a ≠ b → (TX4 a).2.1 ≠ (TX4 b).2.1 := by decide +kernel
theorem tyX4_ok : ∀ k, k < 16 → parseFieldDescriptor (TX4 k).2.2.1 = some (tyX4 k) := by decide +kernel
abbrev cX4_init : ByteArray := prog_1_method_1_code
def yX4_init : MethodName := ⟨RX4, "<init>", "(III)V"⟩
abbrev cX4_group : ByteArray := prog_1_method_2_code
def yX4_group : MethodName := ⟨RX4, "group", "(II)I"⟩
abbrev cX4_line : ByteArray := prog_1_method_3_code
def yX4_line : MethodName := ⟨RX4, "line", "(IIZ)I"⟩
abbrev cX4_sum : ByteArray := prog_1_method_4_code
def yX4_sum : MethodName := ⟨RX4, "sum", "(III)I"⟩
abbrev cX4_control : ByteArray := prog_1_method_5_code
def yX4_control : MethodName := ⟨RX4, "control", "(I)I"⟩
abbrev cX4_set : ByteArray := prog_1_method_6_code
def yX4_set : MethodName := ⟨RX4, "set", "(II)I"⟩
abbrev cX4_initiate : ByteArray := prog_1_method_7_code
def yX4_initiate : MethodName := ⟨RX4, "initiate", "()I"⟩
abbrev cX4_generate : ByteArray := prog_1_method_8_code
def yX4_generate : MethodName := ⟨RX4, "generate", "(IJ)I"⟩
abbrev cX4_terminate : ByteArray := prog_1_method_9_code
def yX4_terminate : MethodName := ⟨RX4, "terminate", "()I"⟩
abbrev cX4_at : ByteArray := prog_1_method_10_code
def yX4_at : MethodName := ⟨RX4, "at", "(II)I"⟩
abbrev cX4_lines : ByteArray := prog_1_method_11_code
def yX4_lines : MethodName := ⟨RX4, "lines", "()I"⟩
abbrev cX4_total : ByteArray := prog_1_method_12_code
def yX4_total : MethodName := ⟨RX4, "total", "(I)J"⟩
abbrev cX4_counter : ByteArray := prog_1_method_13_code
def yX4_counter : MethodName := ⟨RX4, "counter", "(I)I"⟩
abbrev cX4_suppress : ByteArray := prog_1_method_14_code
def yX4_suppress : MethodName := ⟨RX4, "suppress", "(I)I"⟩
abbrev cX4_indicate : ByteArray := prog_1_method_15_code
def yX4_indicate : MethodName := ⟨RX4, "indicate", "(I)I"⟩
abbrev cX4_held : ByteArray := prog_1_method_16_code
def yX4_held : MethodName := ⟨RX4, "held", "(III)I"⟩
abbrev cX4_isOfBody : ByteArray := prog_1_method_17_code
def yX4_isOfBody : MethodName := ⟨RX4, "isOfBody", "(I)Z"⟩
abbrev cX4_isKindOfLevel : ByteArray := prog_1_method_18_code
def yX4_isKindOfLevel : MethodName := ⟨RX4, "isKindOfLevel", "(II)Z"⟩
abbrev cX4_groupNumbered : ByteArray := prog_1_method_19_code
def yX4_groupNumbered : MethodName := ⟨RX4, "groupNumbered", "(I)LReportWriter$Group;"⟩
abbrev cX4_groupOf : ByteArray := prog_1_method_20_code
def yX4_groupOf : MethodName := ⟨RX4, "groupOf", "(II)LReportWriter$Group;"⟩
abbrev cX4_sumNumbered : ByteArray := prog_1_method_21_code
def yX4_sumNumbered : MethodName := ⟨RX4, "sumNumbered", "(I)LReportWriter$Sum;"⟩
abbrev cX4_firstSumOf : ByteArray := prog_1_method_22_code
def yX4_firstSumOf : MethodName := ⟨RX4, "firstSumOf", "(I)LReportWriter$Sum;"⟩
abbrev cX4_isSummable : ByteArray := prog_1_method_23_code
def yX4_isSummable : MethodName := ⟨RX4, "isSummable", "(II)Z"⟩
abbrev cX4_topmostLine : ByteArray := prog_1_method_24_code
def yX4_topmostLine : MethodName := ⟨RX4, "topmostLine", "(I)I"⟩
abbrev cX4_lowestLine : ByteArray := prog_1_method_25_code
def yX4_lowestLine : MethodName := ⟨RX4, "lowestLine", "(I)I"⟩
abbrev cX4_startOnNewPage : ByteArray := prog_1_method_26_code
def yX4_startOnNewPage : MethodName := ⟨RX4, "startOnNewPage", "(IIZ)I"⟩
abbrev cX4_startInBody : ByteArray := prog_1_method_27_code
def yX4_startInBody : MethodName := ⟨RX4, "startInBody", "(LReportWriter$Group;)I"⟩
abbrev cX4_fitsWithLine : ByteArray := prog_1_method_28_code
def yX4_fitsWithLine : MethodName := ⟨RX4, "fitsWithLine", "(LReportWriter$Group;IZ)Z"⟩
abbrev cX4_printInBody : ByteArray := prog_1_method_29_code
def yX4_printInBody : MethodName := ⟨RX4, "printInBody", "(LReportWriter$Group;J)V"⟩
abbrev cX4_beginPage : ByteArray := prog_1_method_30_code
def yX4_beginPage : MethodName := ⟨RX4, "beginPage", "()V"⟩
abbrev cX4_endPage : ByteArray := prog_1_method_31_code
def yX4_endPage : MethodName := ⟨RX4, "endPage", "()V"⟩
abbrev cX4_countPage : ByteArray := prog_1_method_32_code
def yX4_countPage : MethodName := ⟨RX4, "countPage", "()V"⟩
abbrev cX4_printOutsideBody : ByteArray := prog_1_method_33_code
def yX4_printOutsideBody : MethodName := ⟨RX4, "printOutsideBody", "(LReportWriter$Group;)V"⟩
abbrev cX4_printOnOwnPage : ByteArray := prog_1_method_34_code
def yX4_printOnOwnPage : MethodName := ⟨RX4, "printOnOwnPage", "(LReportWriter$Group;)V"⟩
abbrev cX4_printFrom : ByteArray := prog_1_method_35_code
def yX4_printFrom : MethodName := ⟨RX4, "printFrom", "(ILReportWriter$Group;J)V"⟩
abbrev cX4_changedLevel : ByteArray := prog_1_method_36_code
def yX4_changedLevel : MethodName := ⟨RX4, "changedLevel", "()I"⟩
abbrev cX4_printControlHeads : ByteArray := prog_1_method_37_code
def yX4_printControlHeads : MethodName := ⟨RX4, "printControlHeads", "(I)V"⟩
abbrev cX4_printControlFoots : ByteArray := prog_1_method_38_code
def yX4_printControlFoots : MethodName := ⟨RX4, "printControlFoots", "(I)V"⟩
abbrev cX4_addToSums : ByteArray := prog_1_method_39_code
def yX4_addToSums : MethodName := ⟨RX4, "addToSums", "(IJ)V"⟩
abbrev cX4_rollSums : ByteArray := prog_1_method_40_code
def yX4_rollSums : MethodName := ⟨RX4, "rollSums", "(I)V"⟩
abbrev cX4_resetSums : ByteArray := prog_1_method_41_code
def yX4_resetSums : MethodName := ⟨RX4, "resetSums", "(I)V"⟩
def RX5 : String := "ReportWriterModel"
def TX5 : u_T := fun k => match k with
  | 0 => ("ReportWriterModel", "code", "I", false)
  | 1 => ("ReportWriterModel", "page", "I", true)
  | 2 => ("ReportWriterModel", "first", "I", true)
  | 3 => ("ReportWriterModel", "foot", "I", true)
  | 4 => ("ReportWriterModel", "controls", "I", false)
  | 5 => ("ReportWriterModel", "groups", "I", false)
  | 6 => ("ReportWriterModel", "sums", "I", false)
  | 7 => ("ReportWriterModel", "values", "[I", true)
  | 8 => ("ReportWriterModel", "before", "[I", true)
  | 9 => ("ReportWriterModel", "kinds", "[I", true)
  | 10 => ("ReportWriterModel", "levels", "[I", true)
  | 11 => ("ReportWriterModel", "many", "[I", true)
  | 12 => ("ReportWriterModel", "numbers", "[I", true)
  | 13 => ("ReportWriterModel", "absolute", "[Z", true)
  | 14 => ("ReportWriterModel", "suppressed", "[Z", true)
  | 15 => ("ReportWriterModel", "indicated", "[Z", true)
  | 16 => ("ReportWriterModel", "seen", "[Z", true)
  | 17 => ("ReportWriterModel", "sumGroups", "[I", true)
  | 18 => ("ReportWriterModel", "ofs", "[I", true)
  | 19 => ("ReportWriterModel", "resets", "[I", true)
  | 20 => ("ReportWriterModel", "totals", "[J", true)
  | 21 => ("ReportWriterModel", "initiated", "Z", false)
  | 22 => ("ReportWriterModel", "generated", "I", false)
  | 23 => ("ReportWriterModel", "breaks", "I", false)
  | 24 => ("ReportWriterModel", "pages", "I", false)
  | 25 => ("ReportWriterModel", "latest", "I", false)
  | 26 => ("ReportWriterModel", "body", "I", false)
  | 27 => ("ReportWriterModel", "printed", "[I", true)
  | _ => ("ReportWriterModel", "lines", "I", false)
def tyX5 : Nat → FieldType := fun k => match k with
  | 0 => .int
  | 1 => .int
  | 2 => .int
  | 3 => .int
  | 4 => .int
  | 5 => .int
  | 6 => .int
  | 7 => .array .int
  | 8 => .array .int
  | 9 => .array .int
  | 10 => .array .int
  | 11 => .array .int
  | 12 => .array .int
  | 13 => .array .boolean
  | 14 => .array .boolean
  | 15 => .array .boolean
  | 16 => .array .boolean
  | 17 => .array .int
  | 18 => .array .int
  | 19 => .array .int
  | 20 => .array .long
  | 21 => .boolean
  | 22 => .int
  | 23 => .int
  | 24 => .int
  | 25 => .int
  | 26 => .int
  | 27 => .array .int
  | _ => .int
theorem nmX5 : ∀ a, a < 29 → ∀ b, b < 29 → a ≠ b → (TX5 a).2.1 ≠ (TX5 b).2.1 := by decide +kernel
theorem tyX5_ok : ∀ k, k < 29 → parseFieldDescriptor (TX5 k).2.2.1 = some (tyX5 k) := by decide +kernel
abbrev cX5_init : ByteArray := prog_7_method_1_code
def yX5_init : MethodName := ⟨RX5, "<init>", "(III)V"⟩
abbrev cX5_held : ByteArray := prog_7_method_2_code
def yX5_held : MethodName := ⟨RX5, "held", "(III)I"⟩
abbrev cX5_thrown : ByteArray := prog_7_method_3_code
def yX5_thrown : MethodName := ⟨RX5, "thrown", "()I"⟩
abbrev cX5_isGroup : ByteArray := prog_7_method_4_code
def yX5_isGroup : MethodName := ⟨RX5, "isGroup", "(I)Z"⟩
abbrev cX5_isDetail : ByteArray := prog_7_method_5_code
def yX5_isDetail : MethodName := ⟨RX5, "isDetail", "(I)Z"⟩
abbrev cX5_find : ByteArray := prog_7_method_6_code
def yX5_find : MethodName := ⟨RX5, "find", "(II)I"⟩
abbrev cX5_group : ByteArray := prog_7_method_7_code
def yX5_group : MethodName := ⟨RX5, "group", "(II)I"⟩
abbrev cX5_fits : ByteArray := prog_7_method_8_code
def yX5_fits : MethodName := ⟨RX5, "fits", "(IIZ)Z"⟩
abbrev cX5_line : ByteArray := prog_7_method_9_code
def yX5_line : MethodName := ⟨RX5, "line", "(IIZ)I"⟩
abbrev cX5_isOf : ByteArray := prog_7_method_10_code
def yX5_isOf : MethodName := ⟨RX5, "isOf", "(II)Z"⟩
abbrev cX5_sum : ByteArray := prog_7_method_11_code
def yX5_sum : MethodName := ⟨RX5, "sum", "(III)I"⟩
abbrev cX5_control : ByteArray := prog_7_method_12_code
def yX5_control : MethodName := ⟨RX5, "control", "(I)I"⟩
abbrev cX5_set : ByteArray := prog_7_method_13_code
def yX5_set : MethodName := ⟨RX5, "set", "(II)I"⟩
abbrev cX5_suppress : ByteArray := prog_7_method_14_code
def yX5_suppress : MethodName := ⟨RX5, "suppress", "(I)I"⟩
abbrev cX5_indicate : ByteArray := prog_7_method_15_code
def yX5_indicate : MethodName := ⟨RX5, "indicate", "(I)I"⟩
abbrev cX5_put : ByteArray := prog_7_method_16_code
def yX5_put : MethodName := ⟨RX5, "put", "(IIII)V"⟩
abbrev cX5_isOn : ByteArray := prog_7_method_17_code
def yX5_isOn : MethodName := ⟨RX5, "isOn", "(I)Z"⟩
abbrev cX5_putAll : ByteArray := prog_7_method_18_code
def yX5_putAll : MethodName := ⟨RX5, "putAll", "(III)V"⟩
abbrev cX5_putFrom : ByteArray := prog_7_method_19_code
def yX5_putFrom : MethodName := ⟨RX5, "putFrom", "(III)V"⟩
abbrev cX5_alone : ByteArray := prog_7_method_20_code
def yX5_alone : MethodName := ⟨RX5, "alone", "(I)V"⟩
abbrev cX5_begin : ByteArray := prog_7_method_21_code
def yX5_begin : MethodName := ⟨RX5, "begin", "()V"⟩
abbrev cX5_over : ByteArray := prog_7_method_22_code
def yX5_over : MethodName := ⟨RX5, "over", "()V"⟩
abbrev cX5_fresh : ByteArray := prog_7_method_23_code
def yX5_fresh : MethodName := ⟨RX5, "fresh", "()V"⟩
abbrev cX5_top : ByteArray := prog_7_method_24_code
def yX5_top : MethodName := ⟨RX5, "top", "(I)I"⟩
abbrev cX5_inBody : ByteArray := prog_7_method_25_code
def yX5_inBody : MethodName := ⟨RX5, "inBody", "(II)V"⟩
abbrev cX5_head : ByteArray := prog_7_method_26_code
def yX5_head : MethodName := ⟨RX5, "head", "(I)V"⟩
abbrev cX5_firstSum : ByteArray := prog_7_method_27_code
def yX5_firstSum : MethodName := ⟨RX5, "firstSum", "(I)I"⟩
abbrev cX5_foot : ByteArray := prog_7_method_28_code
def yX5_foot : MethodName := ⟨RX5, "foot", "(I)V"⟩
abbrev cX5_keep : ByteArray := prog_7_method_29_code
def yX5_keep : MethodName := ⟨RX5, "keep", "()V"⟩
abbrev cX5_initiate : ByteArray := prog_7_method_30_code
def yX5_initiate : MethodName := ⟨RX5, "initiate", "()I"⟩
abbrev cX5_changed : ByteArray := prog_7_method_31_code
def yX5_changed : MethodName := ⟨RX5, "changed", "()I"⟩
abbrev cX5_generate : ByteArray := prog_7_method_32_code
def yX5_generate : MethodName := ⟨RX5, "generate", "(IJ)I"⟩
abbrev cX5_terminate : ByteArray := prog_7_method_33_code
def yX5_terminate : MethodName := ⟨RX5, "terminate", "()I"⟩
abbrev cX5_at : ByteArray := prog_7_method_34_code
def yX5_at : MethodName := ⟨RX5, "at", "(II)I"⟩
abbrev cX5_lines : ByteArray := prog_7_method_35_code
def yX5_lines : MethodName := ⟨RX5, "lines", "()I"⟩
abbrev cX5_total : ByteArray := prog_7_method_36_code
def yX5_total : MethodName := ⟨RX5, "total", "(I)J"⟩
abbrev cX5_counter : ByteArray := prog_7_method_37_code
def yX5_counter : MethodName := ⟨RX5, "counter", "(I)I"⟩
def RJx145de : String := "java/io/Serializable"
def TJx145de : u_T := fun k => match k with
  | _ => ("", "", "", false)
def tyJx145de : Nat → FieldType := fun k => match k with
  | _ => .int
theorem nmJx145de : ∀ a, a < 0 → ∀ b, b < 0 → a ≠ b → (TJx145de a).2.1 ≠ (TJx145de b).2.1 := by decide +kernel
theorem tyJx145de_ok : ∀ k, k < 0 → parseFieldDescriptor (TJx145de k).2.2.1 = some (tyJx145de k) := by decide +kernel
def RJx00060 : String := "java/lang/ArrayIndexOutOfBoundsException"
def TJx00060 : u_T := fun k => match k with
  | 0 => ("java/lang/Throwable", "cause", "Ljava/lang/Throwable;", false)
  | 1 => ("java/lang/Throwable", "stackTrace", "[Ljava/lang/StackTraceElement;", false)
  | 2 => ("java/lang/Throwable", "suppressedExceptions", "Ljava/util/List;", false)
  | 3 => ("java/lang/Throwable", "detailMessage", "Ljava/lang/String;", false)
  | 4 => ("java/lang/Throwable", "backtrace", "Ljava/lang/Object;", false)
  | _ => ("java/lang/Throwable", "depth", "I", false)
def tyJx00060 : Nat → FieldType := fun k => match k with
  | 0 => .object "java/lang/Throwable"
  | 1 => .array (.object "java/lang/StackTraceElement")
  | 2 => .object "java/util/List"
  | 3 => .object "java/lang/String"
  | 4 => .object "java/lang/Object"
  | _ => .int
theorem nmJx00060 : ∀ a, a < 6 → ∀ b, b < 6 → a ≠ b → (TJx00060 a).2.1 ≠ (TJx00060 b).2.1 := by decide +kernel
theorem tyJx00060_ok : ∀ k, k < 6 → parseFieldDescriptor (TJx00060 k).2.2.1 = some (tyJx00060 k) := by decide +kernel
abbrev cJx00060_init_a7421 : ByteArray := prog_9_method_2_code
def yJx00060_init_a7421 : MethodName := ⟨RJx00060, "<init>", "(Ljava/lang/String;)V"⟩
def RJx8e188 : String := "java/lang/Cloneable"
def TJx8e188 : u_T := fun k => match k with
  | _ => ("", "", "", false)
def tyJx8e188 : Nat → FieldType := fun k => match k with
  | _ => .int
theorem nmJx8e188 : ∀ a, a < 0 → ∀ b, b < 0 → a ≠ b → (TJx8e188 a).2.1 ≠ (TJx8e188 b).2.1 := by decide +kernel
theorem tyJx8e188_ok : ∀ k, k < 0 → parseFieldDescriptor (TJx8e188 k).2.2.1 = some (tyJx8e188 k) := by decide +kernel
def RJxab1ab : String := "java/lang/Iterable"
def TJxab1ab : u_T := fun k => match k with
  | _ => ("", "", "", false)
def tyJxab1ab : Nat → FieldType := fun k => match k with
  | _ => .int
theorem nmJxab1ab : ∀ a, a < 0 → ∀ b, b < 0 → a ≠ b → (TJxab1ab a).2.1 ≠ (TJxab1ab b).2.1 := by decide +kernel
theorem tyJxab1ab_ok : ∀ k, k < 0 → parseFieldDescriptor (TJxab1ab k).2.2.1 = some (tyJxab1ab k) := by decide +kernel
def RJ9 : String := "java/lang/Math"
def TJ9 : u_T := fun k => match k with
  | _ => ("", "", "", false)
def tyJ9 : Nat → FieldType := fun k => match k with
  | _ => .int
theorem nmJ9 : ∀ a, a < 0 → ∀ b, b < 0 → a ≠ b → (TJ9 a).2.1 ≠ (TJ9 b).2.1 := by decide +kernel
theorem tyJ9_ok : ∀ k, k < 0 → parseFieldDescriptor (TJ9 k).2.2.1 = some (tyJ9 k) := by decide +kernel
abbrev cJ9_max_7cf53 : ByteArray := prog_14_method_65_code
def yJ9_max_7cf53 : MethodName := ⟨RJ9, "max", "(II)I"⟩
abbrev cJ9_min_7cf53 : ByteArray := prog_14_method_69_code
def yJ9_min_7cf53 : MethodName := ⟨RJ9, "min", "(II)I"⟩
def RJ0 : String := "java/lang/String"
def TJ0 : u_T := fun k => match k with
  | _ => ("", "", "", false)
def tyJ0 : Nat → FieldType := fun k => match k with
  | _ => .int
theorem nmJ0 : ∀ a, a < 0 → ∀ b, b < 0 → a ≠ b → (TJ0 a).2.1 ≠ (TJ0 b).2.1 := by decide +kernel
theorem tyJ0_ok : ∀ k, k < 0 → parseFieldDescriptor (TJ0 k).2.2.1 = some (tyJ0 k) := by decide +kernel
def RJ10 : String := "java/lang/System"
def TJ10 : u_T := fun k => match k with
  | _ => ("", "", "", false)
def tyJ10 : Nat → FieldType := fun k => match k with
  | _ => .int
theorem nmJ10 : ∀ a, a < 0 → ∀ b, b < 0 → a ≠ b → (TJ10 a).2.1 ≠ (TJ10 b).2.1 := by decide +kernel
theorem tyJ10_ok : ∀ k, k < 0 → parseFieldDescriptor (TJ10 k).2.2.1 = some (tyJ10 k) := by decide +kernel
def RJxa1e45 : String := "java/util/AbstractCollection"
def TJxa1e45 : u_T := fun k => match k with
  | _ => ("", "", "", false)
def tyJxa1e45 : Nat → FieldType := fun k => match k with
  | _ => .int
theorem nmJxa1e45 : ∀ a, a < 0 → ∀ b, b < 0 → a ≠ b → (TJxa1e45 a).2.1 ≠ (TJxa1e45 b).2.1 := by decide +kernel
theorem tyJxa1e45_ok : ∀ k, k < 0 → parseFieldDescriptor (TJxa1e45 k).2.2.1 = some (tyJxa1e45 k) := by decide +kernel
abbrev cJxa1e45_init_da8c8 : ByteArray := prog_19_method_1_code
def yJxa1e45_init_da8c8 : MethodName := ⟨RJxa1e45, "<init>", "()V"⟩
def RJxc12de : String := "java/util/AbstractList"
def TJxc12de : u_T := fun k => match k with
  | _ => ("", "", "", false)
def tyJxc12de : Nat → FieldType := fun k => match k with
  | _ => .int
theorem nmJxc12de : ∀ a, a < 0 → ∀ b, b < 0 → a ≠ b → (TJxc12de a).2.1 ≠ (TJxc12de b).2.1 := by decide +kernel
theorem tyJxc12de_ok : ∀ k, k < 0 → parseFieldDescriptor (TJxc12de k).2.2.1 = some (tyJxc12de k) := by decide +kernel
abbrev cJxc12de_init_da8c8 : ByteArray := prog_20_method_1_code
def yJxc12de_init_da8c8 : MethodName := ⟨RJxc12de, "<init>", "()V"⟩
def RJx4a65c : String := "java/util/ArrayList"
def TJx4a65c : u_T := fun k => match k with
  | 0 => ("java/util/AbstractList", "modCount", "I", false)
  | 1 => ("java/util/ArrayList", "elementData", "[Ljava/lang/Object;", false)
  | _ => ("java/util/ArrayList", "size", "I", false)
def tyJx4a65c : Nat → FieldType := fun k => match k with
  | 0 => .int
  | 1 => .array (.object "java/lang/Object")
  | _ => .int
theorem nmJx4a65c : ∀ a, a < 3 → ∀ b, b < 3 → a ≠ b → (TJx4a65c a).2.1 ≠ (TJx4a65c b).2.1 := by decide +kernel
theorem tyJx4a65c_ok : ∀ k, k < 3 → parseFieldDescriptor (TJx4a65c k).2.2.1 = some (tyJx4a65c k) := by decide +kernel
abbrev cJx4a65c_init_da8c8 : ByteArray := prog_21_method_2_code
def yJx4a65c_init_da8c8 : MethodName := ⟨RJx4a65c, "<init>", "()V"⟩
abbrev cJx4a65c_grow_92f84 : ByteArray := prog_21_method_6_code
def yJx4a65c_grow_92f84 : MethodName := ⟨RJx4a65c, "grow", "(I)[Ljava/lang/Object;"⟩
abbrev cJx4a65c_grow_d5877 : ByteArray := prog_21_method_7_code
def yJx4a65c_grow_d5877 : MethodName := ⟨RJx4a65c, "grow", "()[Ljava/lang/Object;"⟩
abbrev cJx4a65c_size_8abf5 : ByteArray := prog_21_method_8_code
def yJx4a65c_size_8abf5 : MethodName := ⟨RJx4a65c, "size", "()I"⟩
abbrev cJx4a65c_elementData_915e3 : ByteArray := prog_21_method_18_code
def yJx4a65c_elementData_915e3 : MethodName := ⟨RJx4a65c, "elementData", "(I)Ljava/lang/Object;"⟩
abbrev cJx4a65c_get_915e3 : ByteArray := prog_21_method_20_code
def yJx4a65c_get_915e3 : MethodName := ⟨RJx4a65c, "get", "(I)Ljava/lang/Object;"⟩
abbrev cJx4a65c_add_72be8 : ByteArray := prog_21_method_24_code
def yJx4a65c_add_72be8 : MethodName := ⟨RJx4a65c, "add", "(Ljava/lang/Object;[Ljava/lang/Object;I)V"⟩
abbrev cJx4a65c_add_9ea2d : ByteArray := prog_21_method_25_code
def yJx4a65c_add_9ea2d : MethodName := ⟨RJx4a65c, "add", "(Ljava/lang/Object;)Z"⟩
def RJ7 : String := "java/util/Arrays"
def TJ7 : u_T := fun k => match k with
  | _ => ("", "", "", false)
def tyJ7 : Nat → FieldType := fun k => match k with
  | _ => .int
theorem nmJ7 : ∀ a, a < 0 → ∀ b, b < 0 → a ≠ b → (TJ7 a).2.1 ≠ (TJ7 b).2.1 := by decide +kernel
theorem tyJ7_ok : ∀ k, k < 0 → parseFieldDescriptor (TJ7 k).2.2.1 = some (tyJ7 k) := by decide +kernel
abbrev cJ7_copyOf_1904c : ByteArray := prog_22_method_119_code
def yJ7_copyOf_1904c : MethodName := ⟨RJ7, "copyOf", "([Ljava/lang/Object;I)[Ljava/lang/Object;"⟩
abbrev cJ7_copyOf_6403c : ByteArray := prog_22_method_120_code
def yJ7_copyOf_6403c : MethodName := ⟨RJ7, "copyOf", "([Ljava/lang/Object;ILjava/lang/Class;)[Ljava/lang/Object;"⟩
def RJx5ef63 : String := "java/util/Collection"
def TJx5ef63 : u_T := fun k => match k with
  | _ => ("", "", "", false)
def tyJx5ef63 : Nat → FieldType := fun k => match k with
  | _ => .int
theorem nmJx5ef63 : ∀ a, a < 0 → ∀ b, b < 0 → a ≠ b → (TJx5ef63 a).2.1 ≠ (TJx5ef63 b).2.1 := by decide +kernel
theorem tyJx5ef63_ok : ∀ k, k < 0 → parseFieldDescriptor (TJx5ef63 k).2.2.1 = some (tyJx5ef63 k) := by decide +kernel
def RJxbd725 : String := "java/util/List"
def TJxbd725 : u_T := fun k => match k with
  | _ => ("", "", "", false)
def tyJxbd725 : Nat → FieldType := fun k => match k with
  | _ => .int
theorem nmJxbd725 : ∀ a, a < 0 → ∀ b, b < 0 → a ≠ b → (TJxbd725 a).2.1 ≠ (TJxbd725 b).2.1 := by decide +kernel
theorem tyJxbd725_ok : ∀ k, k < 0 → parseFieldDescriptor (TJxbd725 k).2.2.1 = some (tyJxbd725 k) := by decide +kernel
def RJ15 : String := "java/util/Objects"
def TJ15 : u_T := fun k => match k with
  | _ => ("", "", "", false)
def tyJ15 : Nat → FieldType := fun k => match k with
  | _ => .int
theorem nmJ15 : ∀ a, a < 0 → ∀ b, b < 0 → a ≠ b → (TJ15 a).2.1 ≠ (TJ15 b).2.1 := by decide +kernel
theorem tyJ15_ok : ∀ k, k < 0 → parseFieldDescriptor (TJ15 k).2.2.1 = some (tyJ15 k) := by decide +kernel
abbrev cJ15_checkIndex_7cf53 : ByteArray := prog_25_method_17_code
def yJ15_checkIndex_7cf53 : MethodName := ⟨RJ15, "checkIndex", "(II)I"⟩
def RJxf0a74 : String := "java/util/RandomAccess"
def TJxf0a74 : u_T := fun k => match k with
  | _ => ("", "", "", false)
def tyJxf0a74 : Nat → FieldType := fun k => match k with
  | _ => .int
theorem nmJxf0a74 : ∀ a, a < 0 → ∀ b, b < 0 → a ≠ b → (TJxf0a74 a).2.1 ≠ (TJxf0a74 b).2.1 := by decide +kernel
theorem tyJxf0a74_ok : ∀ k, k < 0 → parseFieldDescriptor (TJxf0a74 k).2.2.1 = some (tyJxf0a74 k) := by decide +kernel
def RJxa66e6 : String := "java/util/SequencedCollection"
def TJxa66e6 : u_T := fun k => match k with
  | _ => ("", "", "", false)
def tyJxa66e6 : Nat → FieldType := fun k => match k with
  | _ => .int
theorem nmJxa66e6 : ∀ a, a < 0 → ∀ b, b < 0 → a ≠ b → (TJxa66e6 a).2.1 ≠ (TJxa66e6 b).2.1 := by decide +kernel
theorem tyJxa66e6_ok : ∀ k, k < 0 → parseFieldDescriptor (TJxa66e6 k).2.2.1 = some (tyJxa66e6 k) := by decide +kernel
def RJ8 : String := "jdk/internal/util/ArraysSupport"
def TJ8 : u_T := fun k => match k with
  | _ => ("", "", "", false)
def tyJ8 : Nat → FieldType := fun k => match k with
  | _ => .int
theorem nmJ8 : ∀ a, a < 0 → ∀ b, b < 0 → a ≠ b → (TJ8 a).2.1 ≠ (TJ8 b).2.1 := by decide +kernel
theorem tyJ8_ok : ∀ k, k < 0 → parseFieldDescriptor (TJ8 k).2.2.1 = some (tyJ8 k) := by decide +kernel
abbrev cJ8_newLength_cabcc : ByteArray := prog_28_method_27_code
def yJ8_newLength_cabcc : MethodName := ⟨RJ8, "newLength", "(III)I"⟩
abbrev cJ8_hugeLength_7cf53 : ByteArray := prog_28_method_28_code
def yJ8_hugeLength_7cf53 : MethodName := ⟨RJ8, "hugeLength", "(II)I"⟩
def RJ3 : String := "jdk/internal/util/Preconditions"
def TJ3 : u_T := fun k => match k with
  | _ => ("", "", "", false)
def tyJ3 : Nat → FieldType := fun k => match k with
  | _ => .int
theorem nmJ3 : ∀ a, a < 0 → ∀ b, b < 0 → a ≠ b → (TJ3 a).2.1 ≠ (TJ3 b).2.1 := by decide +kernel
theorem tyJ3_ok : ∀ k, k < 0 → parseFieldDescriptor (TJ3 k).2.2.1 = some (tyJ3 k) := by decide +kernel
abbrev cJ3_checkIndex_8e157 : ByteArray := prog_29_method_11_code
def yJ3_checkIndex_8e157 : MethodName := ⟨RJ3, "checkIndex", "(IILjava/util/function/BiFunction;)I"⟩
def RL : String := "ReportWriterLaw"
abbrev cL_cell : ByteArray := method_2_code
def yL_cell : MethodName := ⟨RL, "cell", "([II)I"⟩
abbrev cL_at : ByteArray := method_3_code
def yL_at : MethodName := ⟨RL, "at", "(LReportWriter;II[J)I"⟩
abbrev cL_law : ByteArray := code
def yL_law : MethodName := ⟨RL, "law", "([I)Z"⟩
abbrev vwCl : List vw_C := [(RJx00060, TJx00060, 6), (RJx4a65c, TJx4a65c, 3), (RX0, TX0, 10), (RX1, TX1, 2), (RX2, TX2, 1), (RX3, TX3, 5), (RX4, TX4, 16), (RX5, TX5, 29)]
