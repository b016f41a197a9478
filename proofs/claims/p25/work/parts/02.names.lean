def RX0 : String := "TableChanger"
def TX0 : u_T := fun k => match k with
  | 0 => ("TableChanger", "oldA", "[I", true)
  | 1 => ("TableChanger", "oldB", "[I", true)
  | 2 => ("TableChanger", "shadowColumns", "[[I", true)
  | 3 => ("TableChanger", "refusedKeys", "[Z", true)
  | 4 => ("TableChanger", "notedKeys", "[I", true)
  | 5 => ("TableChanger", "noteCount", "I", false)
  | 6 => ("TableChanger", "currentPhase", "I", false)
  | 7 => ("TableChanger", "currentMark", "I", false)
  | 8 => ("TableChanger", "currentAlteration", "I", false)
  | 9 => ("TableChanger", "currentParameter", "I", false)
  | 10 => ("TableChanger", "chunkSize", "I", false)
  | _ => ("TableChanger", "greatestLag", "I", false)
def tyX0 : Nat → FieldType := fun k => match k with
  | 0 => .array .int
  | 1 => .array .int
  | 2 => .array (.array .int)
  | 3 => .array .boolean
  | 4 => .array .int
  | 5 => .int
  | 6 => .int
  | 7 => .int
  | 8 => .int
  | 9 => .int
  | 10 => .int
  | _ => .int
abbrev wsX00 : List Cond := u_ws RX0 TX0 12
theorem nmX0 : ∀ a, a < 12 → ∀ b, b < 12 → a ≠ b → (TX0 a).2.1 ≠ (TX0 b).2.1 := by decide +kernel
theorem tyX0_ok : ∀ k, k < 12 → parseFieldDescriptor (TX0 k).2.2.1 = some (tyX0 k) := by decide +kernel
abbrev cX0_init : ByteArray := prog_1_method_1_code
def yX0_init : MethodName := ⟨RX0, "<init>", "()V"⟩
abbrev cX0_insert : ByteArray := prog_1_method_2_code
def yX0_insert : MethodName := ⟨RX0, "insert", "(III)V"⟩
abbrev cX0_update : ByteArray := prog_1_method_3_code
def yX0_update : MethodName := ⟨RX0, "update", "(III)V"⟩
abbrev cX0_delete : ByteArray := prog_1_method_4_code
def yX0_delete : MethodName := ⟨RX0, "delete", "(I)I"⟩
abbrev cX0_rekey : ByteArray := prog_1_method_5_code
def yX0_rekey : MethodName := ⟨RX0, "rekey", "(II)V"⟩
abbrev cX0_start : ByteArray := prog_1_method_6_code
def yX0_start : MethodName := ⟨RX0, "start", "(II)V"⟩
abbrev cX0_setPace : ByteArray := prog_1_method_7_code
def yX0_setPace : MethodName := ⟨RX0, "setPace", "(II)V"⟩
abbrev cX0_tick : ByteArray := prog_1_method_8_code
def yX0_tick : MethodName := ⟨RX0, "tick", "(I)I"⟩
abbrev cX0_cutOver : ByteArray := prog_1_method_9_code
def yX0_cutOver : MethodName := ⟨RX0, "cutOver", "(I)I"⟩
abbrev cX0_undo : ByteArray := prog_1_method_10_code
def yX0_undo : MethodName := ⟨RX0, "undo", "()V"⟩
abbrev cX0_finish : ByteArray := prog_1_method_11_code
def yX0_finish : MethodName := ⟨RX0, "finish", "()I"⟩
abbrev cX0_giveUp : ByteArray := prog_1_method_12_code
def yX0_giveUp : MethodName := ⟨RX0, "giveUp", "()I"⟩
abbrev cX0_row : ByteArray := prog_1_method_13_code
def yX0_row : MethodName := ⟨RX0, "row", "(I)I"⟩
abbrev cX0_rows : ByteArray := prog_1_method_14_code
def yX0_rows : MethodName := ⟨RX0, "rows", "()I"⟩
abbrev cX0_phase : ByteArray := prog_1_method_15_code
def yX0_phase : MethodName := ⟨RX0, "phase", "()I"⟩
abbrev cX0_mark : ByteArray := prog_1_method_16_code
def yX0_mark : MethodName := ⟨RX0, "mark", "()I"⟩
abbrev cX0_notes : ByteArray := prog_1_method_17_code
def yX0_notes : MethodName := ⟨RX0, "notes", "()I"⟩
abbrev cX0_shadow : ByteArray := prog_1_method_18_code
def yX0_shadow : MethodName := ⟨RX0, "shadow", "(II)I"⟩
abbrev cX0_shadowRows : ByteArray := prog_1_method_19_code
def yX0_shadowRows : MethodName := ⟨RX0, "shadowRows", "()I"⟩
abbrev cX0_isRefused : ByteArray := prog_1_method_20_code
def yX0_isRefused : MethodName := ⟨RX0, "isRefused", "(I)Z"⟩
abbrev cX0_behind : ByteArray := prog_1_method_21_code
def yX0_behind : MethodName := ⟨RX0, "behind", "()I"⟩
abbrev cX0_sum : ByteArray := prog_1_method_22_code
def yX0_sum : MethodName := ⟨RX0, "sum", "(I)I"⟩
abbrev cX0_sumAtOnce : ByteArray := prog_1_method_23_code
def yX0_sumAtOnce : MethodName := ⟨RX0, "sumAtOnce", "(I)I"⟩
abbrev cX0_isWithin : ByteArray := prog_1_method_24_code
def yX0_isWithin : MethodName := ⟨RX0, "isWithin", "(III)Z"⟩
abbrev cX0_isKey : ByteArray := prog_1_method_25_code
def yX0_isKey : MethodName := ⟨RX0, "isKey", "(I)Z"⟩
abbrev cX0_isColumn : ByteArray := prog_1_method_26_code
def yX0_isColumn : MethodName := ⟨RX0, "isColumn", "(I)Z"⟩
abbrev cX0_canBeWritten : ByteArray := prog_1_method_27_code
def yX0_canBeWritten : MethodName := ⟨RX0, "canBeWritten", "(II)Z"⟩
abbrev cX0_isInOld : ByteArray := prog_1_method_28_code
def yX0_isInOld : MethodName := ⟨RX0, "isInOld", "(I)Z"⟩
abbrev cX0_isInShadow : ByteArray := prog_1_method_29_code
def yX0_isInShadow : MethodName := ⟨RX0, "isInShadow", "(I)Z"⟩
abbrev cX0_isSeen : ByteArray := prog_1_method_30_code
def yX0_isSeen : MethodName := ⟨RX0, "isSeen", "(I)Z"⟩
abbrev cX0_rowAsNumber : ByteArray := prog_1_method_31_code
def yX0_rowAsNumber : MethodName := ⟨RX0, "rowAsNumber", "(I)I"⟩
abbrev cX0_putRow : ByteArray := prog_1_method_32_code
def yX0_putRow : MethodName := ⟨RX0, "putRow", "(III)V"⟩
abbrev cX0_removeRow : ByteArray := prog_1_method_33_code
def yX0_removeRow : MethodName := ⟨RX0, "removeRow", "(I)V"⟩
abbrev cX0_removeRowsWithoutShadow : ByteArray := prog_1_method_34_code
def yX0_removeRowsWithoutShadow : MethodName := ⟨RX0, "removeRowsWithoutShadow", "()I"⟩
abbrev cX0_fits : ByteArray := prog_1_method_35_code
def yX0_fits : MethodName := ⟨RX0, "fits", "(I)Z"⟩
abbrev cX0_alteredColumn : ByteArray := prog_1_method_36_code
def yX0_alteredColumn : MethodName := ⟨RX0, "alteredColumn", "(III)I"⟩
abbrev cX0_alteredMiddle : ByteArray := prog_1_method_37_code
def yX0_alteredMiddle : MethodName := ⟨RX0, "alteredMiddle", "(II)I"⟩
abbrev cX0_alteredLast : ByteArray := prog_1_method_38_code
def yX0_alteredLast : MethodName := ⟨RX0, "alteredLast", "(I)I"⟩
abbrev cX0_digits : ByteArray := prog_1_method_39_code
def yX0_digits : MethodName := ⟨RX0, "digits", "(I)I"⟩
abbrev cX0_broughtColumn : ByteArray := prog_1_method_40_code
def yX0_broughtColumn : MethodName := ⟨RX0, "broughtColumn", "(II)I"⟩
abbrev cX0_bring : ByteArray := prog_1_method_41_code
def yX0_bring : MethodName := ⟨RX0, "bring", "(I)V"⟩
abbrev cX0_isBehind : ByteArray := prog_1_method_42_code
def yX0_isBehind : MethodName := ⟨RX0, "isBehind", "(I)Z"⟩
abbrev cX0_followWrite : ByteArray := prog_1_method_43_code
def yX0_followWrite : MethodName := ⟨RX0, "followWrite", "(I)V"⟩
abbrev cX0_noteKey : ByteArray := prog_1_method_44_code
def yX0_noteKey : MethodName := ⟨RX0, "noteKey", "(I)V"⟩
abbrev cX0_copyChunk : ByteArray := prog_1_method_45_code
def yX0_copyChunk : MethodName := ⟨RX0, "copyChunk", "()I"⟩
abbrev cX0_playNotes : ByteArray := prog_1_method_46_code
def yX0_playNotes : MethodName := ⟨RX0, "playNotes", "(I)I"⟩
abbrev cX0_endChange : ByteArray := prog_1_method_47_code
def yX0_endChange : MethodName := ⟨RX0, "endChange", "()V"⟩
def RX1 : String := "TableChangerModel"
def TX1 : u_T := fun k => match k with
  | _ => ("", "", "", false)
def tyX1 : Nat → FieldType := fun k => match k with
  | _ => .int
abbrev wsX10 : List Cond := u_ws RX1 TX1 0
theorem nmX1 : ∀ a, a < 0 → ∀ b, b < 0 → a ≠ b → (TX1 a).2.1 ≠ (TX1 b).2.1 := by decide +kernel
theorem tyX1_ok : ∀ k, k < 0 → parseFieldDescriptor (TX1 k).2.2.1 = some (tyX1 k) := by decide +kernel
def RJx145de : String := "java/io/Serializable"
def TJx145de : u_T := fun k => match k with
  | _ => ("", "", "", false)
def tyJx145de : Nat → FieldType := fun k => match k with
  | _ => .int
abbrev wsJx145de0 : List Cond := u_ws RJx145de TJx145de 0
theorem nmJx145de : ∀ a, a < 0 → ∀ b, b < 0 → a ≠ b → (TJx145de a).2.1 ≠ (TJx145de b).2.1 := by decide +kernel
theorem tyJx145de_ok : ∀ k, k < 0 → parseFieldDescriptor (TJx145de k).2.2.1 = some (tyJx145de k) := by decide +kernel
def RJ9 : String := "java/lang/Math"
def TJ9 : u_T := fun k => match k with
  | _ => ("", "", "", false)
def tyJ9 : Nat → FieldType := fun k => match k with
  | _ => .int
abbrev wsJ90 : List Cond := u_ws RJ9 TJ9 0
theorem nmJ9 : ∀ a, a < 0 → ∀ b, b < 0 → a ≠ b → (TJ9 a).2.1 ≠ (TJ9 b).2.1 := by decide +kernel
theorem tyJ9_ok : ∀ k, k < 0 → parseFieldDescriptor (TJ9 k).2.2.1 = some (tyJ9 k) := by decide +kernel
abbrev cJ9_max_7cf53 : ByteArray := prog_9_method_65_code
def yJ9_max_7cf53 : MethodName := ⟨RJ9, "max", "(II)I"⟩
abbrev cJ9_min_7cf53 : ByteArray := prog_9_method_69_code
def yJ9_min_7cf53 : MethodName := ⟨RJ9, "min", "(II)I"⟩
def RJ0 : String := "java/lang/String"
def TJ0 : u_T := fun k => match k with
  | _ => ("", "", "", false)
def tyJ0 : Nat → FieldType := fun k => match k with
  | _ => .int
abbrev wsJ00 : List Cond := u_ws RJ0 TJ0 0
theorem nmJ0 : ∀ a, a < 0 → ∀ b, b < 0 → a ≠ b → (TJ0 a).2.1 ≠ (TJ0 b).2.1 := by decide +kernel
theorem tyJ0_ok : ∀ k, k < 0 → parseFieldDescriptor (TJ0 k).2.2.1 = some (tyJ0 k) := by decide +kernel
def RJ10 : String := "java/lang/System"
def TJ10 : u_T := fun k => match k with
  | _ => ("", "", "", false)
def tyJ10 : Nat → FieldType := fun k => match k with
  | _ => .int
abbrev wsJ100 : List Cond := u_ws RJ10 TJ10 0
theorem nmJ10 : ∀ a, a < 0 → ∀ b, b < 0 → a ≠ b → (TJ10 a).2.1 ≠ (TJ10 b).2.1 := by decide +kernel
theorem tyJ10_ok : ∀ k, k < 0 → parseFieldDescriptor (TJ10 k).2.2.1 = some (tyJ10 k) := by decide +kernel
def RJ7 : String := "java/util/Arrays"
def TJ7 : u_T := fun k => match k with
  | _ => ("", "", "", false)
def tyJ7 : Nat → FieldType := fun k => match k with
  | _ => .int
abbrev wsJ70 : List Cond := u_ws RJ7 TJ7 0
theorem nmJ7 : ∀ a, a < 0 → ∀ b, b < 0 → a ≠ b → (TJ7 a).2.1 ≠ (TJ7 b).2.1 := by decide +kernel
theorem tyJ7_ok : ∀ k, k < 0 → parseFieldDescriptor (TJ7 k).2.2.1 = some (tyJ7 k) := by decide +kernel
abbrev cJ7_fill_53178 : ByteArray := prog_14_method_103_code
def yJ7_fill_53178 : MethodName := ⟨RJ7, "fill", "([II)V"⟩
def RL : String := "TableChangerLaw"
abbrev cL_draw : ByteArray := method_2_code
def yL_draw : MethodName := ⟨RL, "draw", "([III)I"⟩
abbrev cL_writes : ByteArray := method_3_code
def yL_writes : MethodName := ⟨RL, "writes", "(LTableChanger;IIII)I"⟩
abbrev cL_asks : ByteArray := method_4_code
def yL_asks : MethodName := ⟨RL, "asks", "(LTableChanger;IIII)I"⟩
abbrev cL_undoes : ByteArray := method_5_code
def yL_undoes : MethodName := ⟨RL, "undoes", "(LTableChanger;)I"⟩
abbrev cL_starts : ByteArray := method_6_code
def yL_starts : MethodName := ⟨RL, "starts", "(LTableChanger;II)I"⟩
abbrev cL_altered : ByteArray := method_7_code
def yL_altered : MethodName := ⟨RL, "altered", "([III)I"⟩
abbrev cL_isEven : ByteArray := method_8_code
def yL_isEven : MethodName := ⟨RL, "isEven", "(LTableChanger;[I[II)Z"⟩
abbrev cL_isSeen : ByteArray := method_9_code
def yL_isSeen : MethodName := ⟨RL, "isSeen", "(LTableChanger;[I[II)Z"⟩
abbrev cL_isTold : ByteArray := method_10_code
def yL_isTold : MethodName := ⟨RL, "isTold", "(LTableChanger;[I[I)Z"⟩
abbrev cL_client : ByteArray := method_11_code
def yL_client : MethodName := ⟨RL, "client", "(LTableChanger;IIII[I[I)Z"⟩
abbrev cL_ticks : ByteArray := method_12_code
def yL_ticks : MethodName := ⟨RL, "ticks", "(LTableChanger;I[I[I)Z"⟩
abbrev cL_changes : ByteArray := method_13_code
def yL_changes : MethodName := ⟨RL, "changes", "(LTableChanger;III[I[I)Z"⟩
abbrev cL_step : ByteArray := method_14_code
def yL_step : MethodName := ⟨RL, "step", "(LTableChanger;III[I[I)Z"⟩
abbrev cL_table : ByteArray := method_15_code
def yL_table : MethodName := ⟨RL, "table", "([II)Z"⟩
abbrev cL_law : ByteArray := code
def yL_law : MethodName := ⟨RL, "law", "([I)Z"⟩
abbrev vwCl : List vw_C := [(RX0, TX0, 12)]
