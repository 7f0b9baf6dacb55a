def RX0 : String := "Archivepress$Joins"
def TX0 : u_T := fun k => match k with
  | 0 => ("Archivepress$Joins", "pairs", "[J", true)
  | 1 => ("Archivepress$Joins", "tolds", "[J", true)
  | _ => ("Archivepress$Joins", "count", "I", false)
def tyX0 : Nat → FieldType := fun k => match k with
  | 0 => .array .long
  | 1 => .array .long
  | _ => .int
abbrev wsX00 : List Cond := u_ws RX0 TX0 3
theorem nmX0 : ∀ a, a < 3 → ∀ b, b < 3 → a ≠ b → (TX0 a).2.1 ≠ (TX0 b).2.1 := by decide +kernel
theorem tyX0_ok : ∀ k, k < 3 → parseFieldDescriptor (TX0 k).2.2.1 = some (tyX0 k) := by decide +kernel
abbrev cX0_init : ByteArray := prog_2_method_1_code
def yX0_init : MethodName := ⟨RX0, "<init>", "()V"⟩
abbrev cX0_append : ByteArray := prog_2_method_2_code
def yX0_append : MethodName := ⟨RX0, "append", "(III)I"⟩
abbrev cX0_closure : ByteArray := prog_2_method_3_code
def yX0_closure : MethodName := ⟨RX0, "closure", "(J)J"⟩
abbrev cX0_addTold : ByteArray := prog_2_method_4_code
def yX0_addTold : MethodName := ⟨RX0, "addTold", "(J)J"⟩
def RX1 : String := "Archivepress$Lines"
def TX1 : u_T := fun k => match k with
  | 0 => ("Archivepress$Lines", "documentSizes", "[I", true)
  | 1 => ("Archivepress$Lines", "documents", "[I", true)
  | 2 => ("Archivepress$Lines", "indexes", "[I", true)
  | 3 => ("Archivepress$Lines", "values", "[I", true)
  | 4 => ("Archivepress$Lines", "documentCount", "I", false)
  | _ => ("Archivepress$Lines", "count", "I", false)
def tyX1 : Nat → FieldType := fun k => match k with
  | 0 => .array .int
  | 1 => .array .int
  | 2 => .array .int
  | 3 => .array .int
  | 4 => .int
  | _ => .int
abbrev wsX10 : List Cond := u_ws RX1 TX1 6
theorem nmX1 : ∀ a, a < 6 → ∀ b, b < 6 → a ≠ b → (TX1 a).2.1 ≠ (TX1 b).2.1 := by decide +kernel
theorem tyX1_ok : ∀ k, k < 6 → parseFieldDescriptor (TX1 k).2.2.1 = some (tyX1 k) := by decide +kernel
abbrev cX1_init : ByteArray := prog_3_method_1_code
def yX1_init : MethodName := ⟨RX1, "<init>", "()V"⟩
abbrev cX1_appendDocument : ByteArray := prog_3_method_2_code
def yX1_appendDocument : MethodName := ⟨RX1, "appendDocument", "()I"⟩
abbrev cX1_append : ByteArray := prog_3_method_3_code
def yX1_append : MethodName := ⟨RX1, "append", "(II)I"⟩
def RX2 : String := "Archivepress$Log"
def TX2 : u_T := fun k => match k with
  | 0 => ("Archivepress$Log", "askers", "[I", true)
  | 1 => ("Archivepress$Log", "givenLines", "[I", true)
  | _ => ("Archivepress$Log", "count", "I", false)
def tyX2 : Nat → FieldType := fun k => match k with
  | 0 => .array .int
  | 1 => .array .int
  | _ => .int
abbrev wsX20 : List Cond := u_ws RX2 TX2 3
theorem nmX2 : ∀ a, a < 3 → ∀ b, b < 3 → a ≠ b → (TX2 a).2.1 ≠ (TX2 b).2.1 := by decide +kernel
theorem tyX2_ok : ∀ k, k < 3 → parseFieldDescriptor (TX2 k).2.2.1 = some (tyX2 k) := by decide +kernel
abbrev cX2_init : ByteArray := prog_4_method_1_code
def yX2_init : MethodName := ⟨RX2, "<init>", "()V"⟩
abbrev cX2_append : ByteArray := prog_4_method_2_code
def yX2_append : MethodName := ⟨RX2, "append", "(II)V"⟩
abbrev cX2_linesGivenTo : ByteArray := prog_4_method_3_code
def yX2_linesGivenTo : MethodName := ⟨RX2, "linesGivenTo", "(I)J"⟩
def RX3 : String := "Archivepress$Requests"
def TX3 : u_T := fun k => match k with
  | 0 => ("Archivepress$Requests", "askers", "[I", true)
  | 1 => ("Archivepress$Requests", "documents", "[I", true)
  | 2 => ("Archivepress$Requests", "states", "[C", true)
  | 3 => ("Archivepress$Requests", "madeOn", "[I", true)
  | _ => ("Archivepress$Requests", "count", "I", false)
def tyX3 : Nat → FieldType := fun k => match k with
  | 0 => .array .int
  | 1 => .array .int
  | 2 => .array .char
  | 3 => .array .int
  | _ => .int
abbrev wsX30 : List Cond := u_ws RX3 TX3 5
theorem nmX3 : ∀ a, a < 5 → ∀ b, b < 5 → a ≠ b → (TX3 a).2.1 ≠ (TX3 b).2.1 := by decide +kernel
theorem tyX3_ok : ∀ k, k < 5 → parseFieldDescriptor (TX3 k).2.2.1 = some (tyX3 k) := by decide +kernel
abbrev cX3_init : ByteArray := prog_5_method_1_code
def yX3_init : MethodName := ⟨RX3, "<init>", "()V"⟩
abbrev cX3_append : ByteArray := prog_5_method_2_code
def yX3_append : MethodName := ⟨RX3, "append", "(III)I"⟩
abbrev cX3_isWaiting : ByteArray := prog_5_method_3_code
def yX3_isWaiting : MethodName := ⟨RX3, "isWaiting", "(II)Z"⟩
abbrev cX3_countInState : ByteArray := prog_5_method_4_code
def yX3_countInState : MethodName := ⟨RX3, "countInState", "(C)I"⟩
abbrev cX3_countLate : ByteArray := prog_5_method_5_code
def yX3_countLate : MethodName := ⟨RX3, "countLate", "(I)I"⟩
def RX4 : String := "Archivepress$Rules"
def TX4 : u_T := fun k => match k with
  | 0 => ("Archivepress$Rules", "firsts", "[I", true)
  | 1 => ("Archivepress$Rules", "seconds", "[I", true)
  | 2 => ("Archivepress$Rules", "lasts", "[I", true)
  | _ => ("Archivepress$Rules", "count", "I", false)
def tyX4 : Nat → FieldType := fun k => match k with
  | 0 => .array .int
  | 1 => .array .int
  | 2 => .array .int
  | _ => .int
abbrev wsX40 : List Cond := u_ws RX4 TX4 4
theorem nmX4 : ∀ a, a < 4 → ∀ b, b < 4 → a ≠ b → (TX4 a).2.1 ≠ (TX4 b).2.1 := by decide +kernel
theorem tyX4_ok : ∀ k, k < 4 → parseFieldDescriptor (TX4 k).2.2.1 = some (tyX4 k) := by decide +kernel
abbrev cX4_init : ByteArray := prog_6_method_1_code
def yX4_init : MethodName := ⟨RX4, "<init>", "()V"⟩
abbrev cX4_append : ByteArray := prog_6_method_2_code
def yX4_append : MethodName := ⟨RX4, "append", "(III)I"⟩
abbrev cX4_hide : ByteArray := prog_6_method_3_code
def yX4_hide : MethodName := ⟨RX4, "hide", "(II)Z"⟩
def RX5 : String := "Archivepress$Spans"
def TX5 : u_T := fun k => match k with
  | 0 => ("Archivepress$Spans", "documents", "[I", true)
  | 1 => ("Archivepress$Spans", "firsts", "[I", true)
  | 2 => ("Archivepress$Spans", "seconds", "[I", true)
  | 3 => ("Archivepress$Spans", "lasts", "[I", true)
  | _ => ("Archivepress$Spans", "count", "I", false)
def tyX5 : Nat → FieldType := fun k => match k with
  | 0 => .array .int
  | 1 => .array .int
  | 2 => .array .int
  | 3 => .array .int
  | _ => .int
abbrev wsX50 : List Cond := u_ws RX5 TX5 5
theorem nmX5 : ∀ a, a < 5 → ∀ b, b < 5 → a ≠ b → (TX5 a).2.1 ≠ (TX5 b).2.1 := by decide +kernel
theorem tyX5_ok : ∀ k, k < 5 → parseFieldDescriptor (TX5 k).2.2.1 = some (tyX5 k) := by decide +kernel
abbrev cX5_init : ByteArray := prog_7_method_1_code
def yX5_init : MethodName := ⟨RX5, "<init>", "()V"⟩
abbrev cX5_append : ByteArray := prog_7_method_2_code
def yX5_append : MethodName := ⟨RX5, "append", "(IIII)I"⟩
abbrev cX5_has : ByteArray := prog_7_method_3_code
def yX5_has : MethodName := ⟨RX5, "has", "(I)Z"⟩
abbrev cX5_hide : ByteArray := prog_7_method_4_code
def yX5_hide : MethodName := ⟨RX5, "hide", "(III)Z"⟩
def RX6 : String := "Archivepress"
def TX6 : u_T := fun k => match k with
  | 0 => ("Archivepress", "lineTable", "LArchivepress$Lines;", true)
  | 1 => ("Archivepress", "rules", "LArchivepress$Rules;", true)
  | 2 => ("Archivepress", "spans", "LArchivepress$Spans;", true)
  | 3 => ("Archivepress", "joins", "LArchivepress$Joins;", true)
  | 4 => ("Archivepress", "log", "LArchivepress$Log;", true)
  | 5 => ("Archivepress", "requests", "LArchivepress$Requests;", true)
  | 6 => ("Archivepress", "heldLines", "[J", true)
  | 7 => ("Archivepress", "debts", "[I", true)
  | 8 => ("Archivepress", "price", "I", false)
  | 9 => ("Archivepress", "today", "I", false)
  | _ => ("Archivepress", "feeSum", "J", false)
def tyX6 : Nat → FieldType := fun k => match k with
  | 0 => .object "Archivepress$Lines"
  | 1 => .object "Archivepress$Rules"
  | 2 => .object "Archivepress$Spans"
  | 3 => .object "Archivepress$Joins"
  | 4 => .object "Archivepress$Log"
  | 5 => .object "Archivepress$Requests"
  | 6 => .array .long
  | 7 => .array .int
  | 8 => .int
  | 9 => .int
  | _ => .long
abbrev wsX60 : List Cond := u_ws RX6 TX6 11
theorem nmX6 : ∀ a, a < 11 → ∀ b, b < 11 → a ≠ b → (TX6 a).2.1 ≠ (TX6 b).2.1 := by decide +kernel
theorem tyX6_ok : ∀ k, k < 11 → parseFieldDescriptor (TX6 k).2.2.1 = some (tyX6 k) := by decide +kernel
abbrev cX6_init : ByteArray := prog_1_method_1_code
def yX6_init : MethodName := ⟨RX6, "<init>", "()V"⟩
abbrev cX6_addDocument : ByteArray := prog_1_method_2_code
def yX6_addDocument : MethodName := ⟨RX6, "addDocument", "()I"⟩
abbrev cX6_addLine : ByteArray := prog_1_method_3_code
def yX6_addLine : MethodName := ⟨RX6, "addLine", "(II)I"⟩
abbrev cX6_rescan : ByteArray := prog_1_method_4_code
def yX6_rescan : MethodName := ⟨RX6, "rescan", "(II)I"⟩
abbrev cX6_documentOf : ByteArray := prog_1_method_5_code
def yX6_documentOf : MethodName := ⟨RX6, "documentOf", "(I)I"⟩
abbrev cX6_indexOf : ByteArray := prog_1_method_6_code
def yX6_indexOf : MethodName := ⟨RX6, "indexOf", "(I)I"⟩
abbrev cX6_lines : ByteArray := prog_1_method_7_code
def yX6_lines : MethodName := ⟨RX6, "lines", "(I)I"⟩
abbrev cX6_addRule : ByteArray := prog_1_method_8_code
def yX6_addRule : MethodName := ⟨RX6, "addRule", "(III)I"⟩
abbrev cX6_addSpan : ByteArray := prog_1_method_9_code
def yX6_addSpan : MethodName := ⟨RX6, "addSpan", "(IIII)I"⟩
abbrev cX6_lift : ByteArray := prog_1_method_10_code
def yX6_lift : MethodName := ⟨RX6, "lift", "(I)I"⟩
abbrev cX6_isHidden : ByteArray := prog_1_method_11_code
def yX6_isHidden : MethodName := ⟨RX6, "isHidden", "(I)Z"⟩
abbrev cX6_hidden : ByteArray := prog_1_method_12_code
def yX6_hidden : MethodName := ⟨RX6, "hidden", "()I"⟩
abbrev cX6_addJoin : ByteArray := prog_1_method_13_code
def yX6_addJoin : MethodName := ⟨RX6, "addJoin", "(III)I"⟩
abbrev cX6_holds : ByteArray := prog_1_method_14_code
def yX6_holds : MethodName := ⟨RX6, "holds", "(II)Z"⟩
abbrev cX6_holdsByLog : ByteArray := prog_1_method_15_code
def yX6_holdsByLog : MethodName := ⟨RX6, "holdsByLog", "(II)Z"⟩
abbrev cX6_held : ByteArray := prog_1_method_16_code
def yX6_held : MethodName := ⟨RX6, "held", "(I)I"⟩
abbrev cX6_given : ByteArray := prog_1_method_17_code
def yX6_given : MethodName := ⟨RX6, "given", "(I)I"⟩
abbrev cX6_holders : ByteArray := prog_1_method_18_code
def yX6_holders : MethodName := ⟨RX6, "holders", "(I)I"⟩
abbrev cX6_why : ByteArray := prog_1_method_19_code
def yX6_why : MethodName := ⟨RX6, "why", "(II)C"⟩
abbrev cX6_root : ByteArray := prog_1_method_20_code
def yX6_root : MethodName := ⟨RX6, "root", "(II)C"⟩
abbrev cX6_causes : ByteArray := prog_1_method_21_code
def yX6_causes : MethodName := ⟨RX6, "causes", "(II)I"⟩
abbrev cX6_request : ByteArray := prog_1_method_22_code
def yX6_request : MethodName := ⟨RX6, "request", "(II)I"⟩
abbrev cX6_state : ByteArray := prog_1_method_23_code
def yX6_state : MethodName := ⟨RX6, "state", "(I)C"⟩
abbrev cX6_answer : ByteArray := prog_1_method_24_code
def yX6_answer : MethodName := ⟨RX6, "answer", "(I)I"⟩
abbrev cX6_withdraw : ByteArray := prog_1_method_25_code
def yX6_withdraw : MethodName := ⟨RX6, "withdraw", "(I)I"⟩
abbrev cX6_setPrice : ByteArray := prog_1_method_26_code
def yX6_setPrice : MethodName := ⟨RX6, "setPrice", "(I)I"⟩
abbrev cX6_owed : ByteArray := prog_1_method_27_code
def yX6_owed : MethodName := ⟨RX6, "owed", "(I)I"⟩
abbrev cX6_pay : ByteArray := prog_1_method_28_code
def yX6_pay : MethodName := ⟨RX6, "pay", "(II)I"⟩
abbrev cX6_pass : ByteArray := prog_1_method_29_code
def yX6_pass : MethodName := ⟨RX6, "pass", "(I)I"⟩
abbrev cX6_day : ByteArray := prog_1_method_30_code
def yX6_day : MethodName := ⟨RX6, "day", "()I"⟩
abbrev cX6_late : ByteArray := prog_1_method_31_code
def yX6_late : MethodName := ⟨RX6, "late", "()I"⟩
abbrev cX6_fees : ByteArray := prog_1_method_32_code
def yX6_fees : MethodName := ⟨RX6, "fees", "()J"⟩
abbrev cX6_answeredShare : ByteArray := prog_1_method_33_code
def yX6_answeredShare : MethodName := ⟨RX6, "answeredShare", "()F"⟩
abbrev cX6_requireDocument : ByteArray := prog_1_method_34_code
def yX6_requireDocument : MethodName := ⟨RX6, "requireDocument", "(I)V"⟩
abbrev cX6_requireLine : ByteArray := prog_1_method_35_code
def yX6_requireLine : MethodName := ⟨RX6, "requireLine", "(I)V"⟩
abbrev cX6_requireRequest : ByteArray := prog_1_method_36_code
def yX6_requireRequest : MethodName := ⟨RX6, "requireRequest", "(I)V"⟩
abbrev cX6_requireWaiting : ByteArray := prog_1_method_37_code
def yX6_requireWaiting : MethodName := ⟨RX6, "requireWaiting", "(I)V"⟩
abbrev cX6_requireAsker : ByteArray := prog_1_method_38_code
def yX6_requireAsker : MethodName := ⟨RX6, "requireAsker", "(I)V"⟩
abbrev cX6_requireNotHeld : ByteArray := prog_1_method_39_code
def yX6_requireNotHeld : MethodName := ⟨RX6, "requireNotHeld", "(II)V"⟩
abbrev cX6_requireValue : ByteArray := prog_1_method_40_code
def yX6_requireValue : MethodName := ⟨RX6, "requireValue", "(I)V"⟩
abbrev cX6_requireIndex : ByteArray := prog_1_method_41_code
def yX6_requireIndex : MethodName := ⟨RX6, "requireIndex", "(I)V"⟩
abbrev cX6_requireRising : ByteArray := prog_1_method_42_code
def yX6_requireRising : MethodName := ⟨RX6, "requireRising", "(II)V"⟩
abbrev cX6_requireLastDay : ByteArray := prog_1_method_43_code
def yX6_requireLastDay : MethodName := ⟨RX6, "requireLastDay", "(I)V"⟩
abbrev cX6_isHiddenByRule : ByteArray := prog_1_method_44_code
def yX6_isHiddenByRule : MethodName := ⟨RX6, "isHiddenByRule", "(I)Z"⟩
abbrev cX6_isHiddenBySpan : ByteArray := prog_1_method_45_code
def yX6_isHiddenBySpan : MethodName := ⟨RX6, "isHiddenBySpan", "(I)Z"⟩
abbrev cX6_isHiddenToday : ByteArray := prog_1_method_46_code
def yX6_isHiddenToday : MethodName := ⟨RX6, "isHiddenToday", "(I)Z"⟩
abbrev cX6_countHidden : ByteArray := prog_1_method_47_code
def yX6_countHidden : MethodName := ⟨RX6, "countHidden", "()I"⟩
abbrev cX6_countHidingReasons : ByteArray := prog_1_method_48_code
def yX6_countHidingReasons : MethodName := ⟨RX6, "countHidingReasons", "(I)I"⟩
abbrev cX6_findProtectedLine : ByteArray := prog_1_method_49_code
def yX6_findProtectedLine : MethodName := ⟨RX6, "findProtectedLine", "(II)I"⟩
abbrev cX6_findLowestHidden : ByteArray := prog_1_method_50_code
def yX6_findLowestHidden : MethodName := ⟨RX6, "findLowestHidden", "(J)I"⟩
abbrev cX6_giveDocument : ByteArray := prog_1_method_51_code
def yX6_giveDocument : MethodName := ⟨RX6, "giveDocument", "(II)I"⟩
abbrev cX6_give : ByteArray := prog_1_method_52_code
def yX6_give : MethodName := ⟨RX6, "give", "(II)V"⟩
abbrev cX6_growAllHeld : ByteArray := prog_1_method_53_code
def yX6_growAllHeld : MethodName := ⟨RX6, "growAllHeld", "()V"⟩
abbrev cX6_bitOf : ByteArray := prog_1_method_54_code
def yX6_bitOf : MethodName := ⟨RX6, "bitOf", "(I)J"⟩
abbrev cX6_contains : ByteArray := prog_1_method_55_code
def yX6_contains : MethodName := ⟨RX6, "contains", "(JI)Z"⟩
def RX7 : String := "ArchivepressLaw$Draw"
def TX7 : u_T := fun k => match k with
  | _ => ("ArchivepressLaw$Draw", "state", "I", false)
def tyX7 : Nat → FieldType := fun k => match k with
  | _ => .int
abbrev wsX70 : List Cond := u_ws RX7 TX7 1
theorem nmX7 : ∀ a, a < 1 → ∀ b, b < 1 → a ≠ b → (TX7 a).2.1 ≠ (TX7 b).2.1 := by decide +kernel
theorem tyX7_ok : ∀ k, k < 1 → parseFieldDescriptor (TX7 k).2.2.1 = some (tyX7 k) := by decide +kernel
abbrev cX7_init : ByteArray := prog_9_method_1_code
def yX7_init : MethodName := ⟨RX7, "<init>", "(I)V"⟩
abbrev cX7_next : ByteArray := prog_9_method_2_code
def yX7_next : MethodName := ⟨RX7, "next", "(I)I"⟩
def RX8 : String := "ArchivepressModel"
def TX8 : u_T := fun k => match k with
  | _ => ("", "", "", false)
def tyX8 : Nat → FieldType := fun k => match k with
  | _ => .int
abbrev wsX80 : List Cond := u_ws RX8 TX8 0
theorem nmX8 : ∀ a, a < 0 → ∀ b, b < 0 → a ≠ b → (TX8 a).2.1 ≠ (TX8 b).2.1 := by decide +kernel
theorem tyX8_ok : ∀ k, k < 0 → parseFieldDescriptor (TX8 k).2.2.1 = some (tyX8 k) := by decide +kernel
def RJx145de : String := "java/io/Serializable"
def TJx145de : u_T := fun k => match k with
  | _ => ("", "", "", false)
def tyJx145de : Nat → FieldType := fun k => match k with
  | _ => .int
abbrev wsJx145de0 : List Cond := u_ws RJx145de TJx145de 0
theorem nmJx145de : ∀ a, a < 0 → ∀ b, b < 0 → a ≠ b → (TJx145de a).2.1 ≠ (TJx145de b).2.1 := by decide +kernel
theorem tyJx145de_ok : ∀ k, k < 0 → parseFieldDescriptor (TJx145de k).2.2.1 = some (tyJx145de k) := by decide +kernel
def RJ5 : String := "java/lang/AbstractStringBuilder"
def TJ5 : u_T := fun k => match k with
  | _ => ("", "", "", false)
def tyJ5 : Nat → FieldType := fun k => match k with
  | _ => .int
abbrev wsJ50 : List Cond := u_ws RJ5 TJ5 0
theorem nmJ5 : ∀ a, a < 0 → ∀ b, b < 0 → a ≠ b → (TJ5 a).2.1 ≠ (TJ5 b).2.1 := by decide +kernel
theorem tyJ5_ok : ∀ k, k < 0 → parseFieldDescriptor (TJ5 k).2.2.1 = some (tyJ5 k) := by decide +kernel
abbrev cJ5_init_d00df : ByteArray := prog_12_method_2_code
def yJ5_init_d00df : MethodName := ⟨RJ5, "<init>", "(I)V"⟩
abbrev cJ5_length_8abf5 : ByteArray := prog_12_method_6_code
def yJ5_length_8abf5 : MethodName := ⟨RJ5, "length", "()I"⟩
abbrev cJ5_ensureCapacityInternal_d00df : ByteArray := prog_12_method_9_code
def yJ5_ensureCapacityInternal_d00df : MethodName := ⟨RJ5, "ensureCapacityInternal", "(I)V"⟩
abbrev cJ5_newCapacity_0f7a4 : ByteArray := prog_12_method_10_code
def yJ5_newCapacity_0f7a4 : MethodName := ⟨RJ5, "newCapacity", "(I)I"⟩
abbrev cJ5_inflate_da8c8 : ByteArray := prog_12_method_11_code
def yJ5_inflate_da8c8 : MethodName := ⟨RJ5, "inflate", "()V"⟩
abbrev cJ5_charAt_5068e : ByteArray := prog_12_method_14_code
def yJ5_charAt_5068e : MethodName := ⟨RJ5, "charAt", "(I)C"⟩
abbrev cJ5_append_cf1ce : ByteArray := prog_12_method_22_code
def yJ5_append_cf1ce : MethodName := ⟨RJ5, "append", "(Ljava/lang/String;)Ljava/lang/AbstractStringBuilder;"⟩
abbrev cJ5_append_2ceeb : ByteArray := prog_12_method_24_code
def yJ5_append_2ceeb : MethodName := ⟨RJ5, "append", "(Ljava/lang/AbstractStringBuilder;)Ljava/lang/AbstractStringBuilder;"⟩
abbrev cJ5_append_8f9a3 : ByteArray := prog_12_method_25_code
def yJ5_append_8f9a3 : MethodName := ⟨RJ5, "append", "(Ljava/lang/CharSequence;)Ljava/lang/AbstractStringBuilder;"⟩
abbrev cJ5_appendNull_278bc : ByteArray := prog_12_method_26_code
def yJ5_appendNull_278bc : MethodName := ⟨RJ5, "appendNull", "()Ljava/lang/AbstractStringBuilder;"⟩
abbrev cJ5_append_e1f22 : ByteArray := prog_12_method_27_code
def yJ5_append_e1f22 : MethodName := ⟨RJ5, "append", "(Ljava/lang/CharSequence;II)Ljava/lang/AbstractStringBuilder;"⟩
abbrev cJ5_append_a1634 : ByteArray := prog_12_method_28_code
def yJ5_append_a1634 : MethodName := ⟨RJ5, "append", "([C)Ljava/lang/AbstractStringBuilder;"⟩
abbrev cJ5_append_3fe6f : ByteArray := prog_12_method_31_code
def yJ5_append_3fe6f : MethodName := ⟨RJ5, "append", "(C)Ljava/lang/AbstractStringBuilder;"⟩
abbrev cJ5_append_c97b9 : ByteArray := prog_12_method_32_code
def yJ5_append_c97b9 : MethodName := ⟨RJ5, "append", "(I)Ljava/lang/AbstractStringBuilder;"⟩
abbrev cJ5_append_66267 : ByteArray := prog_12_method_33_code
def yJ5_append_66267 : MethodName := ⟨RJ5, "append", "(J)Ljava/lang/AbstractStringBuilder;"⟩
abbrev cJ5_append_b089e : ByteArray := prog_12_method_34_code
def yJ5_append_b089e : MethodName := ⟨RJ5, "append", "(F)Ljava/lang/AbstractStringBuilder;"⟩
abbrev cJ5_getValue_6d5f1 : ByteArray := prog_12_method_64_code
def yJ5_getValue_6d5f1 : MethodName := ⟨RJ5, "getValue", "()[B"⟩
abbrev cJ5_getBytes_840e7 : ByteArray := prog_12_method_65_code
def yJ5_getBytes_840e7 : MethodName := ⟨RJ5, "getBytes", "([BIB)V"⟩
abbrev cJ5_getCoder_7d493 : ByteArray := prog_12_method_67_code
def yJ5_getCoder_7d493 : MethodName := ⟨RJ5, "getCoder", "()B"⟩
abbrev cJ5_isLatin1_aae02 : ByteArray := prog_12_method_68_code
def yJ5_isLatin1_aae02 : MethodName := ⟨RJ5, "isLatin1", "()Z"⟩
abbrev cJ5_inflateIfNeededFor_a7421 : ByteArray := prog_12_method_71_code
def yJ5_inflateIfNeededFor_a7421 : MethodName := ⟨RJ5, "inflateIfNeededFor", "(Ljava/lang/String;)V"⟩
abbrev cJ5_inflateIfNeededFor_56e69 : ByteArray := prog_12_method_72_code
def yJ5_inflateIfNeededFor_56e69 : MethodName := ⟨RJ5, "inflateIfNeededFor", "(Ljava/lang/AbstractStringBuilder;)V"⟩
abbrev cJ5_putStringAt_47b60 : ByteArray := prog_12_method_73_code
def yJ5_putStringAt_47b60 : MethodName := ⟨RJ5, "putStringAt", "(ILjava/lang/String;)V"⟩
abbrev cJ5_appendChars_0ad70 : ByteArray := prog_12_method_74_code
def yJ5_appendChars_0ad70 : MethodName := ⟨RJ5, "appendChars", "([CII)V"⟩
abbrev cJ5_appendChars_3135b : ByteArray := prog_12_method_75_code
def yJ5_appendChars_3135b : MethodName := ⟨RJ5, "appendChars", "(Ljava/lang/String;II)V"⟩
abbrev cJ5_appendChars_a91ff : ByteArray := prog_12_method_76_code
def yJ5_appendChars_a91ff : MethodName := ⟨RJ5, "appendChars", "(Ljava/lang/CharSequence;II)V"⟩
def RJx2cfe8 : String := "java/lang/Appendable"
def TJx2cfe8 : u_T := fun k => match k with
  | _ => ("", "", "", false)
def tyJx2cfe8 : Nat → FieldType := fun k => match k with
  | _ => .int
abbrev wsJx2cfe80 : List Cond := u_ws RJx2cfe8 TJx2cfe8 0
theorem nmJx2cfe8 : ∀ a, a < 0 → ∀ b, b < 0 → a ≠ b → (TJx2cfe8 a).2.1 ≠ (TJx2cfe8 b).2.1 := by decide +kernel
theorem tyJx2cfe8_ok : ∀ k, k < 0 → parseFieldDescriptor (TJx2cfe8 k).2.2.1 = some (tyJx2cfe8 k) := by decide +kernel
def RJx9f9b0 : String := "java/lang/CharSequence"
def TJx9f9b0 : u_T := fun k => match k with
  | _ => ("", "", "", false)
def tyJx9f9b0 : Nat → FieldType := fun k => match k with
  | _ => .int
abbrev wsJx9f9b00 : List Cond := u_ws RJx9f9b0 TJx9f9b0 0
theorem nmJx9f9b0 : ∀ a, a < 0 → ∀ b, b < 0 → a ≠ b → (TJx9f9b0 a).2.1 ≠ (TJx9f9b0 b).2.1 := by decide +kernel
theorem tyJx9f9b0_ok : ∀ k, k < 0 → parseFieldDescriptor (TJx9f9b0 k).2.2.1 = some (tyJx9f9b0 k) := by decide +kernel
def RJx8e188 : String := "java/lang/Cloneable"
def TJx8e188 : u_T := fun k => match k with
  | _ => ("", "", "", false)
def tyJx8e188 : Nat → FieldType := fun k => match k with
  | _ => .int
abbrev wsJx8e1880 : List Cond := u_ws RJx8e188 TJx8e188 0
theorem nmJx8e188 : ∀ a, a < 0 → ∀ b, b < 0 → a ≠ b → (TJx8e188 a).2.1 ≠ (TJx8e188 b).2.1 := by decide +kernel
theorem tyJx8e188_ok : ∀ k, k < 0 → parseFieldDescriptor (TJx8e188 k).2.2.1 = some (tyJx8e188 k) := by decide +kernel
def RJxb160c : String := "java/lang/Comparable"
def TJxb160c : u_T := fun k => match k with
  | _ => ("", "", "", false)
def tyJxb160c : Nat → FieldType := fun k => match k with
  | _ => .int
abbrev wsJxb160c0 : List Cond := u_ws RJxb160c TJxb160c 0
theorem nmJxb160c : ∀ a, a < 0 → ∀ b, b < 0 → a ≠ b → (TJxb160c a).2.1 ≠ (TJxb160c b).2.1 := by decide +kernel
theorem tyJxb160c_ok : ∀ k, k < 0 → parseFieldDescriptor (TJxb160c k).2.2.1 = some (tyJxb160c k) := by decide +kernel
def RJxf58ca : String := "java/lang/Float"
def TJxf58ca : u_T := fun k => match k with
  | _ => ("", "", "", false)
def tyJxf58ca : Nat → FieldType := fun k => match k with
  | _ => .int
abbrev wsJxf58ca0 : List Cond := u_ws RJxf58ca TJxf58ca 0
theorem nmJxf58ca : ∀ a, a < 0 → ∀ b, b < 0 → a ≠ b → (TJxf58ca a).2.1 ≠ (TJxf58ca b).2.1 := by decide +kernel
theorem tyJxf58ca_ok : ∀ k, k < 0 → parseFieldDescriptor (TJxf58ca k).2.2.1 = some (tyJxf58ca k) := by decide +kernel
def RJ6 : String := "java/lang/Integer"
def TJ6 : u_T := fun k => match k with
  | _ => ("", "", "", false)
def tyJ6 : Nat → FieldType := fun k => match k with
  | _ => .int
abbrev wsJ60 : List Cond := u_ws RJ6 TJ6 0
theorem nmJ6 : ∀ a, a < 0 → ∀ b, b < 0 → a ≠ b → (TJ6 a).2.1 ≠ (TJ6 b).2.1 := by decide +kernel
theorem tyJ6_ok : ∀ k, k < 0 → parseFieldDescriptor (TJ6 k).2.2.1 = some (tyJ6 k) := by decide +kernel
abbrev cJ6_getChars_ba4f3 : ByteArray := prog_22_method_12_code
def yJ6_getChars_ba4f3 : MethodName := ⟨RJ6, "getChars", "(II[B)I"⟩
abbrev cJ6_stringSize_0f7a4 : ByteArray := prog_22_method_13_code
def yJ6_stringSize_0f7a4 : MethodName := ⟨RJ6, "stringSize", "(I)I"⟩
abbrev cJ6_numberOfLeadingZeros_0f7a4 : ByteArray := prog_22_method_47_code
def yJ6_numberOfLeadingZeros_0f7a4 : MethodName := ⟨RJ6, "numberOfLeadingZeros", "(I)I"⟩
def RJ13 : String := "java/lang/Long"
def TJ13 : u_T := fun k => match k with
  | _ => ("", "", "", false)
def tyJ13 : Nat → FieldType := fun k => match k with
  | _ => .int
abbrev wsJ130 : List Cond := u_ws RJ13 TJ13 0
theorem nmJ13 : ∀ a, a < 0 → ∀ b, b < 0 → a ≠ b → (TJ13 a).2.1 ≠ (TJ13 b).2.1 := by decide +kernel
theorem tyJ13_ok : ∀ k, k < 0 → parseFieldDescriptor (TJ13 k).2.2.1 = some (tyJ13 k) := by decide +kernel
abbrev cJ13_getChars_11360 : ByteArray := prog_23_method_14_code
def yJ13_getChars_11360 : MethodName := ⟨RJ13, "getChars", "(JI[B)I"⟩
abbrev cJ13_stringSize_95d88 : ByteArray := prog_23_method_15_code
def yJ13_stringSize_95d88 : MethodName := ⟨RJ13, "stringSize", "(J)I"⟩
abbrev cJ13_bitCount_95d88 : ByteArray := prog_23_method_50_code
def yJ13_bitCount_95d88 : MethodName := ⟨RJ13, "bitCount", "(J)I"⟩
def RJ9 : String := "java/lang/Math"
def TJ9 : u_T := fun k => match k with
  | _ => ("", "", "", false)
def tyJ9 : Nat → FieldType := fun k => match k with
  | _ => .int
abbrev wsJ90 : List Cond := u_ws RJ9 TJ9 0
theorem nmJ9 : ∀ a, a < 0 → ∀ b, b < 0 → a ≠ b → (TJ9 a).2.1 ≠ (TJ9 b).2.1 := by decide +kernel
theorem tyJ9_ok : ∀ k, k < 0 → parseFieldDescriptor (TJ9 k).2.2.1 = some (tyJ9 k) := by decide +kernel
abbrev cJ9_multiplyHigh_f86c9 : ByteArray := prog_24_method_45_code
def yJ9_multiplyHigh_f86c9 : MethodName := ⟨RJ9, "multiplyHigh", "(JJ)J"⟩
abbrev cJ9_max_7cf53 : ByteArray := prog_24_method_65_code
def yJ9_max_7cf53 : MethodName := ⟨RJ9, "max", "(II)I"⟩
abbrev cJ9_min_7cf53 : ByteArray := prog_24_method_69_code
def yJ9_min_7cf53 : MethodName := ⟨RJ9, "min", "(II)I"⟩
def RJxd2413 : String := "java/lang/Number"
def TJxd2413 : u_T := fun k => match k with
  | _ => ("", "", "", false)
def tyJxd2413 : Nat → FieldType := fun k => match k with
  | _ => .int
abbrev wsJxd24130 : List Cond := u_ws RJxd2413 TJxd2413 0
theorem nmJxd2413 : ∀ a, a < 0 → ∀ b, b < 0 → a ≠ b → (TJxd2413 a).2.1 ≠ (TJxd2413 b).2.1 := by decide +kernel
theorem tyJxd2413_ok : ∀ k, k < 0 → parseFieldDescriptor (TJxd2413 k).2.2.1 = some (tyJxd2413 k) := by decide +kernel
def RJ0 : String := "java/lang/String"
def TJ0 : u_T := fun k => match k with
  | 0 => ("java/lang/String", "value", "[B", true)
  | 1 => ("java/lang/String", "coder", "B", true)
  | 2 => ("java/lang/String", "hash", "I", false)
  | _ => ("java/lang/String", "hashIsZero", "Z", false)
def tyJ0 : Nat → FieldType := fun k => match k with
  | 0 => .array .byte
  | 1 => .byte
  | 2 => .int
  | _ => .boolean
abbrev wsJ00 : List Cond := u_ws RJ0 TJ0 4
theorem nmJ0 : ∀ a, a < 4 → ∀ b, b < 4 → a ≠ b → (TJ0 a).2.1 ≠ (TJ0 b).2.1 := by decide +kernel
theorem tyJ0_ok : ∀ k, k < 4 → parseFieldDescriptor (TJ0 k).2.2.1 = some (tyJ0 k) := by decide +kernel
abbrev cJ0_init_81219 : ByteArray := prog_27_method_53_code
def yJ0_init_81219 : MethodName := ⟨RJ0, "<init>", "(Ljava/lang/StringBuilder;)V"⟩
abbrev cJ0_length_8abf5 : ByteArray := prog_27_method_54_code
def yJ0_length_8abf5 : MethodName := ⟨RJ0, "length", "()I"⟩
abbrev cJ0_charAt_5068e : ByteArray := prog_27_method_56_code
def yJ0_charAt_5068e : MethodName := ⟨RJ0, "charAt", "(I)C"⟩
abbrev cJ0_equals_9ea2d : ByteArray := prog_27_method_66_code
def yJ0_equals_9ea2d : MethodName := ⟨RJ0, "equals", "(Ljava/lang/Object;)Z"⟩
abbrev cJ0_getBytes_840e7 : ByteArray := prog_27_method_147_code
def yJ0_getBytes_840e7 : MethodName := ⟨RJ0, "getBytes", "([BIB)V"⟩
abbrev cJ0_init_db425 : ByteArray := prog_27_method_150_code
def yJ0_init_db425 : MethodName := ⟨RJ0, "<init>", "(Ljava/lang/AbstractStringBuilder;Ljava/lang/Void;)V"⟩
abbrev cJ0_coder_7d493 : ByteArray := prog_27_method_152_code
def yJ0_coder_7d493 : MethodName := ⟨RJ0, "coder", "()B"⟩
abbrev cJ0_value_6d5f1 : ByteArray := prog_27_method_153_code
def yJ0_value_6d5f1 : MethodName := ⟨RJ0, "value", "()[B"⟩
abbrev cJ0_isLatin1_aae02 : ByteArray := prog_27_method_154_code
def yJ0_isLatin1_aae02 : MethodName := ⟨RJ0, "isLatin1", "()Z"⟩
abbrev cJ0_checkIndex_df160 : ByteArray := prog_27_method_155_code
def yJ0_checkIndex_df160 : MethodName := ⟨RJ0, "checkIndex", "(II)V"⟩
abbrev cJ0_checkBoundsOffCount_cabcc : ByteArray := prog_27_method_157_code
def yJ0_checkBoundsOffCount_cabcc : MethodName := ⟨RJ0, "checkBoundsOffCount", "(III)I"⟩
abbrev cJ0_checkBoundsBeginEnd_23922 : ByteArray := prog_27_method_158_code
def yJ0_checkBoundsBeginEnd_23922 : MethodName := ⟨RJ0, "checkBoundsBeginEnd", "(III)V"⟩
def RJxe8eeb : String := "java/lang/StringBuffer"
def TJxe8eeb : u_T := fun k => match k with
  | _ => ("", "", "", false)
def tyJxe8eeb : Nat → FieldType := fun k => match k with
  | _ => .int
abbrev wsJxe8eeb0 : List Cond := u_ws RJxe8eeb TJxe8eeb 0
theorem nmJxe8eeb : ∀ a, a < 0 → ∀ b, b < 0 → a ≠ b → (TJxe8eeb a).2.1 ≠ (TJxe8eeb b).2.1 := by decide +kernel
theorem tyJxe8eeb_ok : ∀ k, k < 0 → parseFieldDescriptor (TJxe8eeb k).2.2.1 = some (tyJxe8eeb k) := by decide +kernel
abbrev cJxe8eeb_append_b568b : ByteArray := prog_28_method_24_code
def yJxe8eeb_append_b568b : MethodName := ⟨RJxe8eeb, "append", "([C)Ljava/lang/StringBuffer;"⟩
def RJ4 : String := "java/lang/StringBuilder"
def TJ4 : u_T := fun k => match k with
  | 0 => ("java/lang/AbstractStringBuilder", "value", "[B", false)
  | 1 => ("java/lang/AbstractStringBuilder", "coder", "B", false)
  | 2 => ("java/lang/AbstractStringBuilder", "maybeLatin1", "Z", false)
  | _ => ("java/lang/AbstractStringBuilder", "count", "I", false)
def tyJ4 : Nat → FieldType := fun k => match k with
  | 0 => .array .byte
  | 1 => .byte
  | 2 => .boolean
  | _ => .int
abbrev wsJ40 : List Cond := u_ws RJ4 TJ4 4
theorem nmJ4 : ∀ a, a < 4 → ∀ b, b < 4 → a ≠ b → (TJ4 a).2.1 ≠ (TJ4 b).2.1 := by decide +kernel
theorem tyJ4_ok : ∀ k, k < 4 → parseFieldDescriptor (TJ4 k).2.2.1 = some (tyJ4 k) := by decide +kernel
abbrev cJ4_init_da8c8 : ByteArray := prog_29_method_1_code
def yJ4_init_da8c8 : MethodName := ⟨RJ4, "<init>", "()V"⟩
abbrev cJ4_append_15ec4 : ByteArray := prog_29_method_7_code
def yJ4_append_15ec4 : MethodName := ⟨RJ4, "append", "(Ljava/lang/String;)Ljava/lang/StringBuilder;"⟩
abbrev cJ4_append_1fab5 : ByteArray := prog_29_method_9_code
def yJ4_append_1fab5 : MethodName := ⟨RJ4, "append", "(Ljava/lang/CharSequence;)Ljava/lang/StringBuilder;"⟩
abbrev cJ4_append_69d29 : ByteArray := prog_29_method_10_code
def yJ4_append_69d29 : MethodName := ⟨RJ4, "append", "(Ljava/lang/CharSequence;II)Ljava/lang/StringBuilder;"⟩
abbrev cJ4_append_37e8c : ByteArray := prog_29_method_11_code
def yJ4_append_37e8c : MethodName := ⟨RJ4, "append", "([C)Ljava/lang/StringBuilder;"⟩
abbrev cJ4_append_cf468 : ByteArray := prog_29_method_14_code
def yJ4_append_cf468 : MethodName := ⟨RJ4, "append", "(C)Ljava/lang/StringBuilder;"⟩
abbrev cJ4_append_bf812 : ByteArray := prog_29_method_15_code
def yJ4_append_bf812 : MethodName := ⟨RJ4, "append", "(I)Ljava/lang/StringBuilder;"⟩
abbrev cJ4_append_f7089 : ByteArray := prog_29_method_16_code
def yJ4_append_f7089 : MethodName := ⟨RJ4, "append", "(J)Ljava/lang/StringBuilder;"⟩
abbrev cJ4_append_9d4c8 : ByteArray := prog_29_method_17_code
def yJ4_append_9d4c8 : MethodName := ⟨RJ4, "append", "(F)Ljava/lang/StringBuilder;"⟩
abbrev cJ4_toString_0e30d : ByteArray := prog_29_method_42_code
def yJ4_toString_0e30d : MethodName := ⟨RJ4, "toString", "()Ljava/lang/String;"⟩
abbrev cJ4_append_e1f22 : ByteArray := prog_29_method_77_code
def yJ4_append_e1f22 : MethodName := ⟨RJ4, "append", "(Ljava/lang/CharSequence;II)Ljava/lang/AbstractStringBuilder;"⟩
abbrev cJ4_append_cf1ce : ByteArray := prog_29_method_80_code
def yJ4_append_cf1ce : MethodName := ⟨RJ4, "append", "(Ljava/lang/String;)Ljava/lang/AbstractStringBuilder;"⟩
abbrev cJ4_charAt_5068e : ByteArray := prog_29_method_88_code
def yJ4_charAt_5068e : MethodName := ⟨RJ4, "charAt", "(I)C"⟩
abbrev cJ4_length_8abf5 : ByteArray := prog_29_method_93_code
def yJ4_length_8abf5 : MethodName := ⟨RJ4, "length", "()I"⟩
abbrev cJ4_append_b3078 : ByteArray := prog_29_method_94_code
def yJ4_append_b3078 : MethodName := ⟨RJ4, "append", "(C)Ljava/lang/Appendable;"⟩
abbrev cJ4_append_996db : ByteArray := prog_29_method_96_code
def yJ4_append_996db : MethodName := ⟨RJ4, "append", "(Ljava/lang/CharSequence;)Ljava/lang/Appendable;"⟩
def RJ1 : String := "java/lang/StringLatin1"
def TJ1 : u_T := fun k => match k with
  | _ => ("", "", "", false)
def tyJ1 : Nat → FieldType := fun k => match k with
  | _ => .int
abbrev wsJ10 : List Cond := u_ws RJ1 TJ1 0
theorem nmJ1 : ∀ a, a < 0 → ∀ b, b < 0 → a ≠ b → (TJ1 a).2.1 ≠ (TJ1 b).2.1 := by decide +kernel
theorem tyJ1_ok : ∀ k, k < 0 → parseFieldDescriptor (TJ1 k).2.2.1 = some (tyJ1 k) := by decide +kernel
abbrev cJ1_charAt_3b067 : ByteArray := prog_30_method_2_code
def yJ1_charAt_3b067 : MethodName := ⟨RJ1, "charAt", "([BI)C"⟩
abbrev cJ1_canEncode_fc78d : ByteArray := prog_30_method_3_code
def yJ1_canEncode_fc78d : MethodName := ⟨RJ1, "canEncode", "(C)Z"⟩
abbrev cJ1_equals_b5fdf : ByteArray := prog_30_method_13_code
def yJ1_equals_b5fdf : MethodName := ⟨RJ1, "equals", "([B[B)Z"⟩
abbrev cJ1_inflate_0e8fd : ByteArray := prog_30_method_50_code
def yJ1_inflate_0e8fd : MethodName := ⟨RJ1, "inflate", "([BI[BII)V"⟩
def RJ2 : String := "java/lang/StringUTF16"
def TJ2 : u_T := fun k => match k with
  | _ => ("", "", "", false)
def tyJ2 : Nat → FieldType := fun k => match k with
  | _ => .int
abbrev wsJ20 : List Cond := u_ws RJ2 TJ2 0
theorem nmJ2 : ∀ a, a < 0 → ∀ b, b < 0 → a ≠ b → (TJ2 a).2.1 ≠ (TJ2 b).2.1 := by decide +kernel
theorem tyJ2_ok : ∀ k, k < 0 → parseFieldDescriptor (TJ2 k).2.2.1 = some (tyJ2 k) := by decide +kernel
abbrev cJ2_newBytesFor_77867 : ByteArray := prog_31_method_2_code
def yJ2_newBytesFor_77867 : MethodName := ⟨RJ2, "newBytesFor", "(I)[B"⟩
abbrev cJ2_newBytesLength_0f7a4 : ByteArray := prog_31_method_3_code
def yJ2_newBytesLength_0f7a4 : MethodName := ⟨RJ2, "newBytesLength", "(I)I"⟩
abbrev cJ2_putChar_b72d1 : ByteArray := prog_31_method_4_code
def yJ2_putChar_b72d1 : MethodName := ⟨RJ2, "putChar", "([BII)V"⟩
abbrev cJ2_getChar_3b067 : ByteArray := prog_31_method_5_code
def yJ2_getChar_3b067 : MethodName := ⟨RJ2, "getChar", "([BI)C"⟩
abbrev cJ2_length_9d52b : ByteArray := prog_31_method_6_code
def yJ2_length_9d52b : MethodName := ⟨RJ2, "length", "([B)I"⟩
abbrev cJ2_coderFromArrayLen_85cad : ByteArray := prog_31_method_15_code
def yJ2_coderFromArrayLen_85cad : MethodName := ⟨RJ2, "coderFromArrayLen", "([BI)B"⟩
abbrev cJ2_compress_39247 : ByteArray := prog_31_method_17_code
def yJ2_compress_39247 : MethodName := ⟨RJ2, "compress", "([BII)[B"⟩
abbrev cJ2_compress_5af95 : ByteArray := prog_31_method_22_code
def yJ2_compress_5af95 : MethodName := ⟨RJ2, "compress", "([BI[BII)I"⟩
abbrev cJ2_putChars_03870 : ByteArray := prog_31_method_68_code
def yJ2_putChars_03870 : MethodName := ⟨RJ2, "putChars", "([BI[CII)V"⟩
abbrev cJ2_putCharSB_b72d1 : ByteArray := prog_31_method_71_code
def yJ2_putCharSB_b72d1 : MethodName := ⟨RJ2, "putCharSB", "([BII)V"⟩
abbrev cJ2_putCharsSB_03870 : ByteArray := prog_31_method_72_code
def yJ2_putCharsSB_03870 : MethodName := ⟨RJ2, "putCharsSB", "([BI[CII)V"⟩
abbrev cJ2_putCharsSB_8fd6a : ByteArray := prog_31_method_73_code
def yJ2_putCharsSB_8fd6a : MethodName := ⟨RJ2, "putCharsSB", "([BILjava/lang/CharSequence;II)V"⟩
abbrev cJ2_getChars_46870 : ByteArray := prog_31_method_77_code
def yJ2_getChars_46870 : MethodName := ⟨RJ2, "getChars", "(III[B)I"⟩
abbrev cJ2_getChars_1ba55 : ByteArray := prog_31_method_78_code
def yJ2_getChars_1ba55 : MethodName := ⟨RJ2, "getChars", "(JII[B)I"⟩
abbrev cJ2_putCharsAt_cd4e5 : ByteArray := prog_31_method_81_code
def yJ2_putCharsAt_cd4e5 : MethodName := ⟨RJ2, "putCharsAt", "([BICCCC)I"⟩
abbrev cJ2_charAt_3b067 : ByteArray := prog_31_method_83_code
def yJ2_charAt_3b067 : MethodName := ⟨RJ2, "charAt", "([BI)C"⟩
abbrev cJ2_inflate_0e8fd : ByteArray := prog_31_method_86_code
def yJ2_inflate_0e8fd : MethodName := ⟨RJ2, "inflate", "([BI[BII)V"⟩
abbrev cJ2_getChars_ba4f3 : ByteArray := prog_31_method_89_code
def yJ2_getChars_ba4f3 : MethodName := ⟨RJ2, "getChars", "(II[B)I"⟩
abbrev cJ2_getChars_11360 : ByteArray := prog_31_method_90_code
def yJ2_getChars_11360 : MethodName := ⟨RJ2, "getChars", "(JI[B)I"⟩
abbrev cJ2_checkIndex_2214a : ByteArray := prog_31_method_91_code
def yJ2_checkIndex_2214a : MethodName := ⟨RJ2, "checkIndex", "(I[B)V"⟩
abbrev cJ2_checkBoundsBeginEnd_d044e : ByteArray := prog_31_method_93_code
def yJ2_checkBoundsBeginEnd_d044e : MethodName := ⟨RJ2, "checkBoundsBeginEnd", "(II[B)V"⟩
abbrev cJ2_checkBoundsOffCount_d044e : ByteArray := prog_31_method_94_code
def yJ2_checkBoundsOffCount_d044e : MethodName := ⟨RJ2, "checkBoundsOffCount", "(II[B)V"⟩
def RJ10 : String := "java/lang/System"
def TJ10 : u_T := fun k => match k with
  | _ => ("", "", "", false)
def tyJ10 : Nat → FieldType := fun k => match k with
  | _ => .int
abbrev wsJ100 : List Cond := u_ws RJ10 TJ10 0
theorem nmJ10 : ∀ a, a < 0 → ∀ b, b < 0 → a ≠ b → (TJ10 a).2.1 ≠ (TJ10 b).2.1 := by decide +kernel
theorem tyJ10_ok : ∀ k, k < 0 → parseFieldDescriptor (TJ10 k).2.2.1 = some (tyJ10 k) := by decide +kernel
def RJxfd54e : String := "java/lang/constant/Constable"
def TJxfd54e : u_T := fun k => match k with
  | _ => ("", "", "", false)
def tyJxfd54e : Nat → FieldType := fun k => match k with
  | _ => .int
abbrev wsJxfd54e0 : List Cond := u_ws RJxfd54e TJxfd54e 0
theorem nmJxfd54e : ∀ a, a < 0 → ∀ b, b < 0 → a ≠ b → (TJxfd54e a).2.1 ≠ (TJxfd54e b).2.1 := by decide +kernel
theorem tyJxfd54e_ok : ∀ k, k < 0 → parseFieldDescriptor (TJxfd54e k).2.2.1 = some (tyJxfd54e k) := by decide +kernel
def RJx3cf43 : String := "java/lang/constant/ConstantDesc"
def TJx3cf43 : u_T := fun k => match k with
  | _ => ("", "", "", false)
def tyJx3cf43 : Nat → FieldType := fun k => match k with
  | _ => .int
abbrev wsJx3cf430 : List Cond := u_ws RJx3cf43 TJx3cf43 0
theorem nmJx3cf43 : ∀ a, a < 0 → ∀ b, b < 0 → a ≠ b → (TJx3cf43 a).2.1 ≠ (TJx3cf43 b).2.1 := by decide +kernel
theorem tyJx3cf43_ok : ∀ k, k < 0 → parseFieldDescriptor (TJx3cf43 k).2.2.1 = some (tyJx3cf43 k) := by decide +kernel
def RJ7 : String := "java/util/Arrays"
def TJ7 : u_T := fun k => match k with
  | _ => ("", "", "", false)
def tyJ7 : Nat → FieldType := fun k => match k with
  | _ => .int
abbrev wsJ70 : List Cond := u_ws RJ7 TJ7 0
theorem nmJ7 : ∀ a, a < 0 → ∀ b, b < 0 → a ≠ b → (TJ7 a).2.1 ≠ (TJ7 b).2.1 := by decide +kernel
theorem tyJ7_ok : ∀ k, k < 0 → parseFieldDescriptor (TJ7 k).2.2.1 = some (tyJ7 k) := by decide +kernel
abbrev cJ7_copyOf_9075b : ByteArray := prog_37_method_121_code
def yJ7_copyOf_9075b : MethodName := ⟨RJ7, "copyOf", "([BI)[B"⟩
abbrev cJ7_checkLength_df160 : ByteArray := prog_37_method_131_code
def yJ7_checkLength_df160 : MethodName := ⟨RJ7, "checkLength", "(II)V"⟩
abbrev cJ7_copyOfRange_39247 : ByteArray := prog_37_method_132_code
def yJ7_copyOfRange_39247 : MethodName := ⟨RJ7, "copyOfRange", "([BII)[B"⟩
abbrev cJ7_copyOfRangeByte_39247 : ByteArray := prog_37_method_133_code
def yJ7_copyOfRangeByte_39247 : MethodName := ⟨RJ7, "copyOfRangeByte", "([BII)[B"⟩
def RJx40b00 : String := "jdk/internal/math/FloatToDecimal"
def TJx40b00 : u_T := fun k => match k with
  | 0 => ("jdk/internal/math/FloatToDecimal", "bytes", "[B", true)
  | _ => ("jdk/internal/math/FloatToDecimal", "index", "I", false)
def tyJx40b00 : Nat → FieldType := fun k => match k with
  | 0 => .array .byte
  | _ => .int
abbrev wsJx40b000 : List Cond := u_ws RJx40b00 TJx40b00 2
theorem nmJx40b00 : ∀ a, a < 2 → ∀ b, b < 2 → a ≠ b → (TJx40b00 a).2.1 ≠ (TJx40b00 b).2.1 := by decide +kernel
theorem tyJx40b00_ok : ∀ k, k < 2 → parseFieldDescriptor (TJx40b00 k).2.2.1 = some (tyJx40b00 k) := by decide +kernel
abbrev cJx40b00_init_da8c8 : ByteArray := prog_39_method_1_code
def yJx40b00_init_da8c8 : MethodName := ⟨RJx40b00, "<init>", "()V"⟩
abbrev cJx40b00_appendTo_8d9f2 : ByteArray := prog_39_method_3_code
def yJx40b00_appendTo_8d9f2 : MethodName := ⟨RJx40b00, "appendTo", "(FLjava/lang/Appendable;)Ljava/lang/Appendable;"⟩
abbrev cJx40b00_appendDecimalTo_8d9f2 : ByteArray := prog_39_method_5_code
def yJx40b00_appendDecimalTo_8d9f2 : MethodName := ⟨RJx40b00, "appendDecimalTo", "(FLjava/lang/Appendable;)Ljava/lang/Appendable;"⟩
abbrev cJx40b00_toDecimal_5c35a : ByteArray := prog_39_method_6_code
def yJx40b00_toDecimal_5c35a : MethodName := ⟨RJx40b00, "toDecimal", "(F)I"⟩
abbrev cJx40b00_toDecimal_cabcc : ByteArray := prog_39_method_7_code
def yJx40b00_toDecimal_cabcc : MethodName := ⟨RJx40b00, "toDecimal", "(III)I"⟩
abbrev cJx40b00_rop_74951 : ByteArray := prog_39_method_8_code
def yJx40b00_rop_74951 : MethodName := ⟨RJx40b00, "rop", "(JJ)I"⟩
abbrev cJx40b00_toChars_7cf53 : ByteArray := prog_39_method_9_code
def yJx40b00_toChars_7cf53 : MethodName := ⟨RJx40b00, "toChars", "(II)I"⟩
abbrev cJx40b00_toChars1_cabcc : ByteArray := prog_39_method_10_code
def yJx40b00_toChars1_cabcc : MethodName := ⟨RJx40b00, "toChars1", "(III)I"⟩
abbrev cJx40b00_toChars2_cabcc : ByteArray := prog_39_method_11_code
def yJx40b00_toChars2_cabcc : MethodName := ⟨RJx40b00, "toChars2", "(III)I"⟩
abbrev cJx40b00_toChars3_cabcc : ByteArray := prog_39_method_12_code
def yJx40b00_toChars3_cabcc : MethodName := ⟨RJx40b00, "toChars3", "(III)I"⟩
abbrev cJx40b00_append8Digits_d00df : ByteArray := prog_39_method_13_code
def yJx40b00_append8Digits_d00df : MethodName := ⟨RJx40b00, "append8Digits", "(I)V"⟩
abbrev cJx40b00_removeTrailingZeroes_da8c8 : ByteArray := prog_39_method_14_code
def yJx40b00_removeTrailingZeroes_da8c8 : MethodName := ⟨RJx40b00, "removeTrailingZeroes", "()V"⟩
abbrev cJx40b00_y_0f7a4 : ByteArray := prog_39_method_15_code
def yJx40b00_y_0f7a4 : MethodName := ⟨RJx40b00, "y", "(I)I"⟩
abbrev cJx40b00_exponent_d00df : ByteArray := prog_39_method_16_code
def yJx40b00_exponent_d00df : MethodName := ⟨RJx40b00, "exponent", "(I)V"⟩
abbrev cJx40b00_append_d00df : ByteArray := prog_39_method_17_code
def yJx40b00_append_d00df : MethodName := ⟨RJx40b00, "append", "(I)V"⟩
abbrev cJx40b00_appendDigit_d00df : ByteArray := prog_39_method_18_code
def yJx40b00_appendDigit_d00df : MethodName := ⟨RJx40b00, "appendDigit", "(I)V"⟩
def RJx25f51 : String := "jdk/internal/math/MathUtils"
def TJx25f51 : u_T := fun k => match k with
  | _ => ("", "", "", false)
def tyJx25f51 : Nat → FieldType := fun k => match k with
  | _ => .int
abbrev wsJx25f510 : List Cond := u_ws RJx25f51 TJx25f51 0
theorem nmJx25f51 : ∀ a, a < 0 → ∀ b, b < 0 → a ≠ b → (TJx25f51 a).2.1 ≠ (TJx25f51 b).2.1 := by decide +kernel
theorem tyJx25f51_ok : ∀ k, k < 0 → parseFieldDescriptor (TJx25f51 k).2.2.1 = some (tyJx25f51 k) := by decide +kernel
abbrev cJx25f51_pow10_3e8ac : ByteArray := prog_40_method_2_code
def yJx25f51_pow10_3e8ac : MethodName := ⟨RJx25f51, "pow10", "(I)J"⟩
abbrev cJx25f51_flog10pow2_0f7a4 : ByteArray := prog_40_method_3_code
def yJx25f51_flog10pow2_0f7a4 : MethodName := ⟨RJx25f51, "flog10pow2", "(I)I"⟩
abbrev cJx25f51_flog10threeQuartersPow2_0f7a4 : ByteArray := prog_40_method_4_code
def yJx25f51_flog10threeQuartersPow2_0f7a4 : MethodName := ⟨RJx25f51, "flog10threeQuartersPow2", "(I)I"⟩
abbrev cJx25f51_flog2pow10_0f7a4 : ByteArray := prog_40_method_5_code
def yJx25f51_flog2pow10_0f7a4 : MethodName := ⟨RJx25f51, "flog2pow10", "(I)I"⟩
abbrev cJx25f51_g1_3e8ac : ByteArray := prog_40_method_6_code
def yJx25f51_g1_3e8ac : MethodName := ⟨RJx25f51, "g1", "(I)J"⟩
def RJ8 : String := "jdk/internal/util/ArraysSupport"
def TJ8 : u_T := fun k => match k with
  | _ => ("", "", "", false)
def tyJ8 : Nat → FieldType := fun k => match k with
  | _ => .int
abbrev wsJ80 : List Cond := u_ws RJ8 TJ8 0
theorem nmJ8 : ∀ a, a < 0 → ∀ b, b < 0 → a ≠ b → (TJ8 a).2.1 ≠ (TJ8 b).2.1 := by decide +kernel
theorem tyJ8_ok : ∀ k, k < 0 → parseFieldDescriptor (TJ8 k).2.2.1 = some (tyJ8 k) := by decide +kernel
abbrev cJ8_newLength_cabcc : ByteArray := prog_41_method_27_code
def yJ8_newLength_cabcc : MethodName := ⟨RJ8, "newLength", "(III)I"⟩
abbrev cJ8_hugeLength_7cf53 : ByteArray := prog_41_method_28_code
def yJ8_hugeLength_7cf53 : MethodName := ⟨RJ8, "hugeLength", "(II)I"⟩
def RJ3 : String := "jdk/internal/util/Preconditions"
def TJ3 : u_T := fun k => match k with
  | _ => ("", "", "", false)
def tyJ3 : Nat → FieldType := fun k => match k with
  | _ => .int
abbrev wsJ30 : List Cond := u_ws RJ3 TJ3 0
theorem nmJ3 : ∀ a, a < 0 → ∀ b, b < 0 → a ≠ b → (TJ3 a).2.1 ≠ (TJ3 b).2.1 := by decide +kernel
theorem tyJ3_ok : ∀ k, k < 0 → parseFieldDescriptor (TJ3 k).2.2.1 = some (tyJ3 k) := by decide +kernel
abbrev cJ3_checkIndex_8e157 : ByteArray := prog_42_method_11_code
def yJ3_checkIndex_8e157 : MethodName := ⟨RJ3, "checkIndex", "(IILjava/util/function/BiFunction;)I"⟩
abbrev cJ3_checkFromToIndex_8c36e : ByteArray := prog_42_method_12_code
def yJ3_checkFromToIndex_8c36e : MethodName := ⟨RJ3, "checkFromToIndex", "(IIILjava/util/function/BiFunction;)I"⟩
abbrev cJ3_checkFromIndexSize_8c36e : ByteArray := prog_42_method_13_code
def yJ3_checkFromIndexSize_8c36e : MethodName := ⟨RJ3, "checkFromIndexSize", "(IIILjava/util/function/BiFunction;)I"⟩
def RL : String := "ArchivepressLaw"
abbrev cL_cell : ByteArray := method_2_code
def yL_cell : MethodName := ⟨RL, "cell", "([II)I"⟩
abbrev cL_addDocument : ByteArray := method_3_code
def yL_addDocument : MethodName := ⟨RL, "addDocument", "(LArchivepress;)I"⟩
abbrev cL_addLine : ByteArray := method_4_code
def yL_addLine : MethodName := ⟨RL, "addLine", "(LArchivepress;II)I"⟩
abbrev cL_rescan : ByteArray := method_5_code
def yL_rescan : MethodName := ⟨RL, "rescan", "(LArchivepress;II)I"⟩
abbrev cL_documentOf : ByteArray := method_6_code
def yL_documentOf : MethodName := ⟨RL, "documentOf", "(LArchivepress;I)I"⟩
abbrev cL_indexOf : ByteArray := method_7_code
def yL_indexOf : MethodName := ⟨RL, "indexOf", "(LArchivepress;I)I"⟩
abbrev cL_lines : ByteArray := method_8_code
def yL_lines : MethodName := ⟨RL, "lines", "(LArchivepress;I)I"⟩
abbrev cL_addRule : ByteArray := method_9_code
def yL_addRule : MethodName := ⟨RL, "addRule", "(LArchivepress;III)I"⟩
abbrev cL_addSpan : ByteArray := method_10_code
def yL_addSpan : MethodName := ⟨RL, "addSpan", "(LArchivepress;IIII)I"⟩
abbrev cL_lift : ByteArray := method_11_code
def yL_lift : MethodName := ⟨RL, "lift", "(LArchivepress;I)I"⟩
abbrev cL_isHidden : ByteArray := method_12_code
def yL_isHidden : MethodName := ⟨RL, "isHidden", "(LArchivepress;I)I"⟩
abbrev cL_addJoin : ByteArray := method_13_code
def yL_addJoin : MethodName := ⟨RL, "addJoin", "(LArchivepress;III)I"⟩
abbrev cL_holds : ByteArray := method_14_code
def yL_holds : MethodName := ⟨RL, "holds", "(LArchivepress;II)I"⟩
abbrev cL_holdsByLog : ByteArray := method_15_code
def yL_holdsByLog : MethodName := ⟨RL, "holdsByLog", "(LArchivepress;II)I"⟩
abbrev cL_held : ByteArray := method_16_code
def yL_held : MethodName := ⟨RL, "held", "(LArchivepress;I)I"⟩
abbrev cL_given : ByteArray := method_17_code
def yL_given : MethodName := ⟨RL, "given", "(LArchivepress;I)I"⟩
abbrev cL_holders : ByteArray := method_18_code
def yL_holders : MethodName := ⟨RL, "holders", "(LArchivepress;I)I"⟩
abbrev cL_why : ByteArray := method_19_code
def yL_why : MethodName := ⟨RL, "why", "(LArchivepress;II)I"⟩
abbrev cL_root : ByteArray := method_20_code
def yL_root : MethodName := ⟨RL, "root", "(LArchivepress;II)I"⟩
abbrev cL_causes : ByteArray := method_21_code
def yL_causes : MethodName := ⟨RL, "causes", "(LArchivepress;II)I"⟩
abbrev cL_request : ByteArray := method_22_code
def yL_request : MethodName := ⟨RL, "request", "(LArchivepress;II)I"⟩
abbrev cL_state : ByteArray := method_23_code
def yL_state : MethodName := ⟨RL, "state", "(LArchivepress;I)I"⟩
abbrev cL_answer : ByteArray := method_24_code
def yL_answer : MethodName := ⟨RL, "answer", "(LArchivepress;I)I"⟩
abbrev cL_withdraw : ByteArray := method_25_code
def yL_withdraw : MethodName := ⟨RL, "withdraw", "(LArchivepress;I)I"⟩
abbrev cL_setPrice : ByteArray := method_26_code
def yL_setPrice : MethodName := ⟨RL, "setPrice", "(LArchivepress;I)I"⟩
abbrev cL_owed : ByteArray := method_27_code
def yL_owed : MethodName := ⟨RL, "owed", "(LArchivepress;I)I"⟩
abbrev cL_pay : ByteArray := method_28_code
def yL_pay : MethodName := ⟨RL, "pay", "(LArchivepress;II)I"⟩
abbrev cL_pass : ByteArray := method_29_code
def yL_pass : MethodName := ⟨RL, "pass", "(LArchivepress;I)I"⟩
abbrev cL_answeredShare : ByteArray := method_30_code
def yL_answeredShare : MethodName := ⟨RL, "answeredShare", "(LArchivepress;)F"⟩
abbrev cL_number : ByteArray := method_31_code
def yL_number : MethodName := ⟨RL, "number", "(LArchivepressLaw$Draw;II)I"⟩
abbrev cL_acts : ByteArray := method_32_code
def yL_acts : MethodName := ⟨RL, "acts", "(LArchivepress;ILArchivepressLaw$Draw;I)I"⟩
abbrev cL_told : ByteArray := method_33_code
def yL_told : MethodName := ⟨RL, "told", "(LArchivepress;)Ljava/lang/String;"⟩
abbrev cL_held_ : ByteArray := method_34_code
def yL_held_ : MethodName := ⟨RL, "held", "(LArchivepress;II)Z"⟩
abbrev cL_hidden : ByteArray := method_35_code
def yL_hidden : MethodName := ⟨RL, "hidden", "(LArchivepress;I)Z"⟩
abbrev cL_answered : ByteArray := method_36_code
def yL_answered : MethodName := ⟨RL, "answered", "(LArchivepress;II)Z"⟩
abbrev cL_law : ByteArray := code
def yL_law : MethodName := ⟨RL, "law", "([I)Z"⟩
abbrev vwCl : List vw_C := [(RJ0, TJ0, 4), (RJ4, TJ4, 4), (RJx40b00, TJx40b00, 2), (RX0, TX0, 3), (RX1, TX1, 6), (RX2, TX2, 3), (RX3, TX3, 5), (RX4, TX4, 4), (RX5, TX5, 5), (RX6, TX6, 11), (RX7, TX7, 1)]
