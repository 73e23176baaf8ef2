def RX0 : String := "LessonHorses$History"
def TX0 : u_T := fun k => match k with
  | 0 => ("LessonHorses$History", "states", "[LLessonHorses$Stable;", true)
  | 1 => ("LessonHorses$History", "next", "I", false)
  | _ => ("LessonHorses$History", "size", "I", false)
def tyX0 : Nat → FieldType := fun k => match k with
  | 0 => .array (.object "LessonHorses$Stable")
  | 1 => .int
  | _ => .int
abbrev wsX00 : List Cond := u_ws RX0 TX0 3
theorem nmX0 : ∀ a, a < 3 → ∀ b, b < 3 → a ≠ b → (TX0 a).2.1 ≠ (TX0 b).2.1 := by decide +kernel
theorem tyX0_ok : ∀ k, k < 3 → parseFieldDescriptor (TX0 k).2.2.1 = some (tyX0 k) := by decide +kernel
abbrev cX0_init : ByteArray := prog_2_method_1_code
def yX0_init : MethodName := ⟨RX0, "<init>", "()V"⟩
abbrev cX0_size : ByteArray := prog_2_method_2_code
def yX0_size : MethodName := ⟨RX0, "size", "()I"⟩
abbrev cX0_stateAt : ByteArray := prog_2_method_3_code
def yX0_stateAt : MethodName := ⟨RX0, "stateAt", "(I)LLessonHorses$Stable;"⟩
abbrev cX0_record : ByteArray := prog_2_method_4_code
def yX0_record : MethodName := ⟨RX0, "record", "(LLessonHorses$Stable;)V"⟩
abbrev cX0_takeBack : ByteArray := prog_2_method_5_code
def yX0_takeBack : MethodName := ⟨RX0, "takeBack", "(LLessonHorses$Stable;)V"⟩
def RX1 : String := "LessonHorses$Plan"
def TX1 : u_T := fun k => match k with
  | 0 => ("LessonHorses$Plan", "entries", "LLessonHorses$Table;", true)
  | 1 => ("LessonHorses$Plan", "size", "I", false)
  | 2 => ("LessonHorses$Plan", "place", "I", false)
  | 3 => ("LessonHorses$Plan", "number", "I", false)
  | 4 => ("LessonHorses$Plan", "hours", "I", false)
  | _ => ("LessonHorses$Plan", "ring", "I", false)
def tyX1 : Nat → FieldType := fun k => match k with
  | 0 => .object "LessonHorses$Table"
  | 1 => .int
  | 2 => .int
  | 3 => .int
  | 4 => .int
  | _ => .int
abbrev wsX10 : List Cond := u_ws RX1 TX1 6
theorem nmX1 : ∀ a, a < 6 → ∀ b, b < 6 → a ≠ b → (TX1 a).2.1 ≠ (TX1 b).2.1 := by decide +kernel
theorem tyX1_ok : ∀ k, k < 6 → parseFieldDescriptor (TX1 k).2.2.1 = some (tyX1 k) := by decide +kernel
abbrev cX1_init : ByteArray := prog_3_method_1_code
def yX1_init : MethodName := ⟨RX1, "<init>", "()V"⟩
abbrev cX1_size : ByteArray := prog_3_method_2_code
def yX1_size : MethodName := ⟨RX1, "size", "()I"⟩
abbrev cX1_hoursAt : ByteArray := prog_3_method_3_code
def yX1_hoursAt : MethodName := ⟨RX1, "hoursAt", "(I)I"⟩
abbrev cX1_ringAt : ByteArray := prog_3_method_4_code
def yX1_ringAt : MethodName := ⟨RX1, "ringAt", "(I)I"⟩
abbrev cX1_riderAt : ByteArray := prog_3_method_5_code
def yX1_riderAt : MethodName := ⟨RX1, "riderAt", "(I)I"⟩
abbrev cX1_read : ByteArray := prog_3_method_6_code
def yX1_read : MethodName := ⟨RX1, "read", "(LLessonHorses$Text;)I"⟩
abbrev cX1_moveTo : ByteArray := prog_3_method_7_code
def yX1_moveTo : MethodName := ⟨RX1, "moveTo", "(I)V"⟩
abbrev cX1_addEntry : ByteArray := prog_3_method_8_code
def yX1_addEntry : MethodName := ⟨RX1, "addEntry", "()V"⟩
abbrev cX1_accepts : ByteArray := prog_3_method_9_code
def yX1_accepts : MethodName := ⟨RX1, "accepts", "(C)Z"⟩
abbrev cX1_acceptsDigit : ByteArray := prog_3_method_10_code
def yX1_acceptsDigit : MethodName := ⟨RX1, "acceptsDigit", "(I)Z"⟩
abbrev cX1_acceptsStart : ByteArray := prog_3_method_11_code
def yX1_acceptsStart : MethodName := ⟨RX1, "acceptsStart", "()Z"⟩
abbrev cX1_acceptsSignBehindNumber : ByteArray := prog_3_method_12_code
def yX1_acceptsSignBehindNumber : MethodName := ⟨RX1, "acceptsSignBehindNumber", "(C)Z"⟩
def RX2 : String := "LessonHorses$Stable"
def TX2 : u_T := fun k => match k with
  | 0 => ("LessonHorses$Stable", "time", "I", false)
  | 1 => ("LessonHorses$Stable", "settings", "LLessonHorses$Table;", true)
  | 2 => ("LessonHorses$Stable", "horses", "LLessonHorses$Table;", true)
  | 3 => ("LessonHorses$Stable", "riders", "LLessonHorses$Table;", true)
  | 4 => ("LessonHorses$Stable", "bookings", "LLessonHorses$Table;", true)
  | 5 => ("LessonHorses$Stable", "bookingCount", "I", false)
  | 6 => ("LessonHorses$Stable", "falls", "LLessonHorses$Table;", true)
  | _ => ("LessonHorses$Stable", "fallCount", "I", false)
def tyX2 : Nat → FieldType := fun k => match k with
  | 0 => .int
  | 1 => .object "LessonHorses$Table"
  | 2 => .object "LessonHorses$Table"
  | 3 => .object "LessonHorses$Table"
  | 4 => .object "LessonHorses$Table"
  | 5 => .int
  | 6 => .object "LessonHorses$Table"
  | _ => .int
abbrev wsX20 : List Cond := u_ws RX2 TX2 8
theorem nmX2 : ∀ a, a < 8 → ∀ b, b < 8 → a ≠ b → (TX2 a).2.1 ≠ (TX2 b).2.1 := by decide +kernel
theorem tyX2_ok : ∀ k, k < 8 → parseFieldDescriptor (TX2 k).2.2.1 = some (tyX2 k) := by decide +kernel
abbrev cX2_init : ByteArray := prog_4_method_1_code
def yX2_init : MethodName := ⟨RX2, "<init>", "()V"⟩
abbrev cX2_copyFrom : ByteArray := prog_4_method_2_code
def yX2_copyFrom : MethodName := ⟨RX2, "copyFrom", "(LLessonHorses$Stable;)V"⟩
abbrev cX2_time : ByteArray := prog_4_method_3_code
def yX2_time : MethodName := ⟨RX2, "time", "()I"⟩
abbrev cX2_setting : ByteArray := prog_4_method_4_code
def yX2_setting : MethodName := ⟨RX2, "setting", "(I)I"⟩
abbrev cX2_changeSetting : ByteArray := prog_4_method_5_code
def yX2_changeSetting : MethodName := ⟨RX2, "changeSetting", "(II)V"⟩
abbrev cX2_ofHorse : ByteArray := prog_4_method_6_code
def yX2_ofHorse : MethodName := ⟨RX2, "ofHorse", "(II)I"⟩
abbrev cX2_changeHorse : ByteArray := prog_4_method_7_code
def yX2_changeHorse : MethodName := ⟨RX2, "changeHorse", "(III)V"⟩
abbrev cX2_sumOfHorses : ByteArray := prog_4_method_8_code
def yX2_sumOfHorses : MethodName := ⟨RX2, "sumOfHorses", "(I)I"⟩
abbrev cX2_lameHorses : ByteArray := prog_4_method_9_code
def yX2_lameHorses : MethodName := ⟨RX2, "lameHorses", "()I"⟩
abbrev cX2_ofRider : ByteArray := prog_4_method_10_code
def yX2_ofRider : MethodName := ⟨RX2, "ofRider", "(II)I"⟩
abbrev cX2_changeRider : ByteArray := prog_4_method_11_code
def yX2_changeRider : MethodName := ⟨RX2, "changeRider", "(III)V"⟩
abbrev cX2_sumOfRiders : ByteArray := prog_4_method_12_code
def yX2_sumOfRiders : MethodName := ⟨RX2, "sumOfRiders", "(I)I"⟩
abbrev cX2_abilityOf : ByteArray := prog_4_method_13_code
def yX2_abilityOf : MethodName := ⟨RX2, "abilityOf", "(I)I"⟩
abbrev cX2_bookingsWaiting : ByteArray := prog_4_method_14_code
def yX2_bookingsWaiting : MethodName := ⟨RX2, "bookingsWaiting", "()I"⟩
abbrev cX2_ringOfBooking : ByteArray := prog_4_method_15_code
def yX2_ringOfBooking : MethodName := ⟨RX2, "ringOfBooking", "(I)I"⟩
abbrev cX2_isBooked : ByteArray := prog_4_method_16_code
def yX2_isBooked : MethodName := ⟨RX2, "isBooked", "(II)Z"⟩
abbrev cX2_isBooked_ : ByteArray := prog_4_method_17_code
def yX2_isBooked_ : MethodName := ⟨RX2, "isBooked", "(III)Z"⟩
abbrev cX2_findBooking : ByteArray := prog_4_method_18_code
def yX2_findBooking : MethodName := ⟨RX2, "findBooking", "(II)I"⟩
abbrev cX2_bookedFor : ByteArray := prog_4_method_19_code
def yX2_bookedFor : MethodName := ⟨RX2, "bookedFor", "(II)I"⟩
abbrev cX2_bookedInAllRings : ByteArray := prog_4_method_20_code
def yX2_bookedInAllRings : MethodName := ⟨RX2, "bookedInAllRings", "(I)I"⟩
abbrev cX2_setOfRiders : ByteArray := prog_4_method_21_code
def yX2_setOfRiders : MethodName := ⟨RX2, "setOfRiders", "(II)I"⟩
abbrev cX2_bookingsOf : ByteArray := prog_4_method_22_code
def yX2_bookingsOf : MethodName := ⟨RX2, "bookingsOf", "(I)I"⟩
abbrev cX2_bookingError : ByteArray := prog_4_method_23_code
def yX2_bookingError : MethodName := ⟨RX2, "bookingError", "(III)I"⟩
abbrev cX2_addBooking : ByteArray := prog_4_method_24_code
def yX2_addBooking : MethodName := ⟨RX2, "addBooking", "(III)V"⟩
abbrev cX2_removeBooking : ByteArray := prog_4_method_25_code
def yX2_removeBooking : MethodName := ⟨RX2, "removeBooking", "(I)V"⟩
abbrev cX2_isFarrierThere : ByteArray := prog_4_method_26_code
def yX2_isFarrierThere : MethodName := ⟨RX2, "isFarrierThere", "()Z"⟩
abbrev cX2_farriersHorse : ByteArray := prog_4_method_27_code
def yX2_farriersHorse : MethodName := ⟨RX2, "farriersHorse", "()I"⟩
abbrev cX2_hindrance : ByteArray := prog_4_method_28_code
def yX2_hindrance : MethodName := ⟨RX2, "hindrance", "(III)I"⟩
abbrev cX2_bestHorse : ByteArray := prog_4_method_29_code
def yX2_bestHorse : MethodName := ⟨RX2, "bestHorse", "(III)I"⟩
abbrev cX2_isBetter : ByteArray := prog_4_method_30_code
def yX2_isBetter : MethodName := ⟨RX2, "isBetter", "(III)Z"⟩
abbrev cX2_passHour : ByteArray := prog_4_method_31_code
def yX2_passHour : MethodName := ⟨RX2, "passHour", "(Z)V"⟩
abbrev cX2_giveLessons : ByteArray := prog_4_method_32_code
def yX2_giveLessons : MethodName := ⟨RX2, "giveLessons", "(I)I"⟩
abbrev cX2_giveLesson : ByteArray := prog_4_method_33_code
def yX2_giveLesson : MethodName := ⟨RX2, "giveLesson", "(III)I"⟩
abbrev cX2_letFall : ByteArray := prog_4_method_34_code
def yX2_letFall : MethodName := ⟨RX2, "letFall", "(II)V"⟩
abbrev cX2_letLearn : ByteArray := prog_4_method_35_code
def yX2_letLearn : MethodName := ⟨RX2, "letLearn", "(I)V"⟩
abbrev cX2_strain : ByteArray := prog_4_method_36_code
def yX2_strain : MethodName := ⟨RX2, "strain", "(II)V"⟩
abbrev cX2_fallsSoFar : ByteArray := prog_4_method_37_code
def yX2_fallsSoFar : MethodName := ⟨RX2, "fallsSoFar", "()I"⟩
abbrev cX2_ofFall : ByteArray := prog_4_method_38_code
def yX2_ofFall : MethodName := ⟨RX2, "ofFall", "(II)I"⟩
def RX3 : String := "LessonHorses$Table"
def TX3 : u_T := fun k => match k with
  | 0 => ("LessonHorses$Table", "width", "I", true)
  | _ => ("LessonHorses$Table", "cells", "[I", true)
def tyX3 : Nat → FieldType := fun k => match k with
  | 0 => .int
  | _ => .array .int
abbrev wsX30 : List Cond := u_ws RX3 TX3 2
theorem nmX3 : ∀ a, a < 2 → ∀ b, b < 2 → a ≠ b → (TX3 a).2.1 ≠ (TX3 b).2.1 := by decide +kernel
theorem tyX3_ok : ∀ k, k < 2 → parseFieldDescriptor (TX3 k).2.2.1 = some (tyX3 k) := by decide +kernel
abbrev cX3_init : ByteArray := prog_5_method_1_code
def yX3_init : MethodName := ⟨RX3, "<init>", "(II)V"⟩
abbrev cX3_at : ByteArray := prog_5_method_2_code
def yX3_at : MethodName := ⟨RX3, "at", "(II)I"⟩
abbrev cX3_put : ByteArray := prog_5_method_3_code
def yX3_put : MethodName := ⟨RX3, "put", "(III)V"⟩
abbrev cX3_add : ByteArray := prog_5_method_4_code
def yX3_add : MethodName := ⟨RX3, "add", "(III)V"⟩
abbrev cX3_takeAway : ByteArray := prog_5_method_5_code
def yX3_takeAway : MethodName := ⟨RX3, "takeAway", "(III)V"⟩
abbrev cX3_addUpTo : ByteArray := prog_5_method_6_code
def yX3_addUpTo : MethodName := ⟨RX3, "addUpTo", "(III)V"⟩
abbrev cX3_sum : ByteArray := prog_5_method_7_code
def yX3_sum : MethodName := ⟨RX3, "sum", "(I)I"⟩
abbrev cX3_moveColumn : ByteArray := prog_5_method_8_code
def yX3_moveColumn : MethodName := ⟨RX3, "moveColumn", "(III)V"⟩
abbrev cX3_copyFrom : ByteArray := prog_5_method_9_code
def yX3_copyFrom : MethodName := ⟨RX3, "copyFrom", "(LLessonHorses$Table;)V"⟩
def RX4 : String := "LessonHorses$Text"
def TX4 : u_T := fun k => match k with
  | 0 => ("LessonHorses$Text", "characters", "[C", true)
  | _ => ("LessonHorses$Text", "length", "I", false)
def tyX4 : Nat → FieldType := fun k => match k with
  | 0 => .array .char
  | _ => .int
abbrev wsX40 : List Cond := u_ws RX4 TX4 2
theorem nmX4 : ∀ a, a < 2 → ∀ b, b < 2 → a ≠ b → (TX4 a).2.1 ≠ (TX4 b).2.1 := by decide +kernel
theorem tyX4_ok : ∀ k, k < 2 → parseFieldDescriptor (TX4 k).2.2.1 = some (tyX4 k) := by decide +kernel
abbrev cX4_init : ByteArray := prog_6_method_1_code
def yX4_init : MethodName := ⟨RX4, "<init>", "()V"⟩
abbrev cX4_length : ByteArray := prog_6_method_2_code
def yX4_length : MethodName := ⟨RX4, "length", "()I"⟩
abbrev cX4_characterAt : ByteArray := prog_6_method_3_code
def yX4_characterAt : MethodName := ⟨RX4, "characterAt", "(I)C"⟩
abbrev cX4_append : ByteArray := prog_6_method_4_code
def yX4_append : MethodName := ⟨RX4, "append", "(C)Z"⟩
abbrev cX4_empty : ByteArray := prog_6_method_5_code
def yX4_empty : MethodName := ⟨RX4, "empty", "()V"⟩
def RX5 : String := "LessonHorses"
def TX5 : u_T := fun k => match k with
  | 0 => ("LessonHorses", "now", "LLessonHorses$Stable;", true)
  | 1 => ("LessonHorses", "ahead", "LLessonHorses$Stable;", true)
  | 2 => ("LessonHorses", "snapshot", "LLessonHorses$Stable;", true)
  | 3 => ("LessonHorses", "hasSnapshot", "Z", false)
  | 4 => ("LessonHorses", "history", "LLessonHorses$History;", true)
  | 5 => ("LessonHorses", "text", "LLessonHorses$Text;", true)
  | _ => ("LessonHorses", "plan", "LLessonHorses$Plan;", true)
def tyX5 : Nat → FieldType := fun k => match k with
  | 0 => .object "LessonHorses$Stable"
  | 1 => .object "LessonHorses$Stable"
  | 2 => .object "LessonHorses$Stable"
  | 3 => .boolean
  | 4 => .object "LessonHorses$History"
  | 5 => .object "LessonHorses$Text"
  | _ => .object "LessonHorses$Plan"
abbrev wsX50 : List Cond := u_ws RX5 TX5 7
theorem nmX5 : ∀ a, a < 7 → ∀ b, b < 7 → a ≠ b → (TX5 a).2.1 ≠ (TX5 b).2.1 := by decide +kernel
theorem tyX5_ok : ∀ k, k < 7 → parseFieldDescriptor (TX5 k).2.2.1 = some (tyX5 k) := by decide +kernel
abbrev cX5_init : ByteArray := prog_1_method_1_code
def yX5_init : MethodName := ⟨RX5, "<init>", "()V"⟩
abbrev cX5_setHorse : ByteArray := prog_1_method_2_code
def yX5_setHorse : MethodName := ⟨RX5, "setHorse", "(III)I"⟩
abbrev cX5_setRider : ByteArray := prog_1_method_3_code
def yX5_setRider : MethodName := ⟨RX5, "setRider", "(III)I"⟩
abbrev cX5_set : ByteArray := prog_1_method_4_code
def yX5_set : MethodName := ⟨RX5, "set", "(II)I"⟩
abbrev cX5_book : ByteArray := prog_1_method_5_code
def yX5_book : MethodName := ⟨RX5, "book", "(III)I"⟩
abbrev cX5_cancel : ByteArray := prog_1_method_6_code
def yX5_cancel : MethodName := ⟨RX5, "cancel", "(II)I"⟩
abbrev cX5_pass : ByteArray := prog_1_method_7_code
def yX5_pass : MethodName := ⟨RX5, "pass", "(I)I"⟩
abbrev cX5_type : ByteArray := prog_1_method_8_code
def yX5_type : MethodName := ⟨RX5, "type", "(C)I"⟩
abbrev cX5_clearText : ByteArray := prog_1_method_9_code
def yX5_clearText : MethodName := ⟨RX5, "clearText", "()I"⟩
abbrev cX5_bookPlan : ByteArray := prog_1_method_10_code
def yX5_bookPlan : MethodName := ⟨RX5, "bookPlan", "()I"⟩
abbrev cX5_undo : ByteArray := prog_1_method_11_code
def yX5_undo : MethodName := ⟨RX5, "undo", "()I"⟩
abbrev cX5_keep : ByteArray := prog_1_method_12_code
def yX5_keep : MethodName := ⟨RX5, "keep", "()I"⟩
abbrev cX5_restore : ByteArray := prog_1_method_13_code
def yX5_restore : MethodName := ⟨RX5, "restore", "()I"⟩
abbrev cX5_horse : ByteArray := prog_1_method_14_code
def yX5_horse : MethodName := ⟨RX5, "horse", "(II)I"⟩
abbrev cX5_rider : ByteArray := prog_1_method_15_code
def yX5_rider : MethodName := ⟨RX5, "rider", "(II)I"⟩
abbrev cX5_lesson : ByteArray := prog_1_method_16_code
def yX5_lesson : MethodName := ⟨RX5, "lesson", "(III)I"⟩
abbrev cX5_fall : ByteArray := prog_1_method_17_code
def yX5_fall : MethodName := ⟨RX5, "fall", "(II)I"⟩
abbrev cX5_reason : ByteArray := prog_1_method_18_code
def yX5_reason : MethodName := ⟨RX5, "reason", "(II)I"⟩
abbrev cX5_best : ByteArray := prog_1_method_19_code
def yX5_best : MethodName := ⟨RX5, "best", "(I)I"⟩
abbrev cX5_takenIn : ByteArray := prog_1_method_20_code
def yX5_takenIn : MethodName := ⟨RX5, "takenIn", "(II)I"⟩
abbrev cX5_ifPassed : ByteArray := prog_1_method_21_code
def yX5_ifPassed : MethodName := ⟨RX5, "ifPassed", "(II)I"⟩
abbrev cX5_busiest : ByteArray := prog_1_method_22_code
def yX5_busiest : MethodName := ⟨RX5, "busiest", "()I"⟩
abbrev cX5_count : ByteArray := prog_1_method_23_code
def yX5_count : MethodName := ⟨RX5, "count", "(I)I"⟩
abbrev cX5_isOutside : ByteArray := prog_1_method_24_code
def yX5_isOutside : MethodName := ⟨RX5, "isOutside", "(III)Z"⟩
abbrev cX5_isNoHorse : ByteArray := prog_1_method_25_code
def yX5_isNoHorse : MethodName := ⟨RX5, "isNoHorse", "(I)Z"⟩
abbrev cX5_isNoRider : ByteArray := prog_1_method_26_code
def yX5_isNoRider : MethodName := ⟨RX5, "isNoRider", "(I)Z"⟩
abbrev cX5_isNoRing : ByteArray := prog_1_method_27_code
def yX5_isNoRing : MethodName := ⟨RX5, "isNoRing", "(I)Z"⟩
abbrev cX5_entry : ByteArray := prog_1_method_28_code
def yX5_entry : MethodName := ⟨RX5, "entry", "([II)I"⟩
def RX6 : String := "LessonHorsesModel"
def TX6 : u_T := fun k => match k with
  | 0 => ("LessonHorsesModel", "s", "[I", true)
  | 1 => ("LessonHorsesModel", "aside", "[I", true)
  | 2 => ("LessonHorsesModel", "history", "[I", true)
  | 3 => ("LessonHorsesModel", "known", "I", false)
  | 4 => ("LessonHorsesModel", "snapshot", "[I", true)
  | 5 => ("LessonHorsesModel", "isKept", "Z", false)
  | 6 => ("LessonHorsesModel", "text", "[I", true)
  | 7 => ("LessonHorsesModel", "length", "I", false)
  | 8 => ("LessonHorsesModel", "isTaken", "[I", true)
  | 9 => ("LessonHorsesModel", "wasLame", "[I", true)
  | 10 => ("LessonHorsesModel", "spot", "I", false)
  | 11 => ("LessonHorsesModel", "isWrong", "Z", false)
  | 12 => ("LessonHorsesModel", "riders", "I", false)
  | _ => ("LessonHorsesModel", "error", "I", false)
def tyX6 : Nat → FieldType := fun k => match k with
  | 0 => .array .int
  | 1 => .array .int
  | 2 => .array .int
  | 3 => .int
  | 4 => .array .int
  | 5 => .boolean
  | 6 => .array .int
  | 7 => .int
  | 8 => .array .int
  | 9 => .array .int
  | 10 => .int
  | 11 => .boolean
  | 12 => .int
  | _ => .int
abbrev wsX60 : List Cond := u_ws RX6 TX6 14
theorem nmX6 : ∀ a, a < 14 → ∀ b, b < 14 → a ≠ b → (TX6 a).2.1 ≠ (TX6 b).2.1 := by decide +kernel
theorem tyX6_ok : ∀ k, k < 14 → parseFieldDescriptor (TX6 k).2.2.1 = some (tyX6 k) := by decide +kernel
abbrev cX6_init : ByteArray := prog_8_method_1_code
def yX6_init : MethodName := ⟨RX6, "<init>", "()V"⟩
abbrev cX6_in : ByteArray := prog_8_method_2_code
def yX6_in : MethodName := ⟨RX6, "in", "(III)Z"⟩
abbrev cX6_isHorse : ByteArray := prog_8_method_3_code
def yX6_isHorse : MethodName := ⟨RX6, "isHorse", "(I)Z"⟩
abbrev cX6_isRider : ByteArray := prog_8_method_4_code
def yX6_isRider : MethodName := ⟨RX6, "isRider", "(I)Z"⟩
abbrev cX6_isRing : ByteArray := prog_8_method_5_code
def yX6_isRing : MethodName := ⟨RX6, "isRing", "(I)Z"⟩
abbrev cX6_isAhead : ByteArray := prog_8_method_6_code
def yX6_isAhead : MethodName := ⟨RX6, "isAhead", "(I)Z"⟩
abbrev cX6_of : ByteArray := prog_8_method_7_code
def yX6_of : MethodName := ⟨RX6, "of", "(II)I"⟩
abbrev cX6_ofRider : ByteArray := prog_8_method_8_code
def yX6_ofRider : MethodName := ⟨RX6, "ofRider", "(II)I"⟩
abbrev cX6_ofBooking : ByteArray := prog_8_method_9_code
def yX6_ofBooking : MethodName := ⟨RX6, "ofBooking", "(II)I"⟩
abbrev cX6_record : ByteArray := prog_8_method_10_code
def yX6_record : MethodName := ⟨RX6, "record", "()V"⟩
abbrev cX6_putAside : ByteArray := prog_8_method_11_code
def yX6_putAside : MethodName := ⟨RX6, "putAside", "()V"⟩
abbrev cX6_putBack : ByteArray := prog_8_method_12_code
def yX6_putBack : MethodName := ⟨RX6, "putBack", "()V"⟩
abbrev cX6_isFarrierThere : ByteArray := prog_8_method_13_code
def yX6_isFarrierThere : MethodName := ⟨RX6, "isFarrierThere", "()Z"⟩
abbrev cX6_shodHorse : ByteArray := prog_8_method_14_code
def yX6_shodHorse : MethodName := ⟨RX6, "shodHorse", "()I"⟩
abbrev cX6_hindrance : ByteArray := prog_8_method_15_code
def yX6_hindrance : MethodName := ⟨RX6, "hindrance", "(III)I"⟩
abbrev cX6_can : ByteArray := prog_8_method_16_code
def yX6_can : MethodName := ⟨RX6, "can", "(I)I"⟩
abbrev cX6_isBetter : ByteArray := prog_8_method_17_code
def yX6_isBetter : MethodName := ⟨RX6, "isBetter", "(III)Z"⟩
abbrev cX6_bestFor : ByteArray := prog_8_method_18_code
def yX6_bestFor : MethodName := ⟨RX6, "bestFor", "(II)I"⟩
abbrev cX6_frees : ByteArray := prog_8_method_19_code
def yX6_frees : MethodName := ⟨RX6, "frees", "()V"⟩
abbrev cX6_falls : ByteArray := prog_8_method_20_code
def yX6_falls : MethodName := ⟨RX6, "falls", "(II)V"⟩
abbrev cX6_learns : ByteArray := prog_8_method_21_code
def yX6_learns : MethodName := ⟨RX6, "learns", "(I)V"⟩
abbrev cX6_strains : ByteArray := prog_8_method_22_code
def yX6_strains : MethodName := ⟨RX6, "strains", "(I)V"⟩
abbrev cX6_rides : ByteArray := prog_8_method_23_code
def yX6_rides : MethodName := ⟨RX6, "rides", "(II)Z"⟩
abbrev cX6_gives : ByteArray := prog_8_method_24_code
def yX6_gives : MethodName := ⟨RX6, "gives", "(I)I"⟩
abbrev cX6_rests : ByteArray := prog_8_method_25_code
def yX6_rests : MethodName := ⟨RX6, "rests", "(II)V"⟩
abbrev cX6_hour : ByteArray := prog_8_method_26_code
def yX6_hour : MethodName := ⟨RX6, "hour", "(Z)I"⟩
abbrev cX6_setHorse : ByteArray := prog_8_method_27_code
def yX6_setHorse : MethodName := ⟨RX6, "setHorse", "(III)I"⟩
abbrev cX6_setRider : ByteArray := prog_8_method_28_code
def yX6_setRider : MethodName := ⟨RX6, "setRider", "(III)I"⟩
abbrev cX6_least : ByteArray := prog_8_method_29_code
def yX6_least : MethodName := ⟨RX6, "least", "(I)I"⟩
abbrev cX6_most : ByteArray := prog_8_method_30_code
def yX6_most : MethodName := ⟨RX6, "most", "(I)I"⟩
abbrev cX6_set : ByteArray := prog_8_method_31_code
def yX6_set : MethodName := ⟨RX6, "set", "(II)I"⟩
abbrev cX6_bookingOf : ByteArray := prog_8_method_32_code
def yX6_bookingOf : MethodName := ⟨RX6, "bookingOf", "(II)I"⟩
abbrev cX6_bookedFor : ByteArray := prog_8_method_33_code
def yX6_bookedFor : MethodName := ⟨RX6, "bookedFor", "(II)I"⟩
abbrev cX6_books : ByteArray := prog_8_method_34_code
def yX6_books : MethodName := ⟨RX6, "books", "(III)I"⟩
abbrev cX6_book : ByteArray := prog_8_method_35_code
def yX6_book : MethodName := ⟨RX6, "book", "(III)I"⟩
abbrev cX6_recordAside : ByteArray := prog_8_method_36_code
def yX6_recordAside : MethodName := ⟨RX6, "recordAside", "()V"⟩
abbrev cX6_cancel : ByteArray := prog_8_method_37_code
def yX6_cancel : MethodName := ⟨RX6, "cancel", "(II)I"⟩
abbrev cX6_pass : ByteArray := prog_8_method_38_code
def yX6_pass : MethodName := ⟨RX6, "pass", "(I)I"⟩
abbrev cX6_type : ByteArray := prog_8_method_39_code
def yX6_type : MethodName := ⟨RX6, "type", "(C)I"⟩
abbrev cX6_clearText : ByteArray := prog_8_method_40_code
def yX6_clearText : MethodName := ⟨RX6, "clearText", "()I"⟩
abbrev cX6_isNext : ByteArray := prog_8_method_41_code
def yX6_isNext : MethodName := ⟨RX6, "isNext", "(II)Z"⟩
abbrev cX6_needs : ByteArray := prog_8_method_42_code
def yX6_needs : MethodName := ⟨RX6, "needs", "(I)V"⟩
abbrev cX6_number : ByteArray := prog_8_method_43_code
def yX6_number : MethodName := ⟨RX6, "number", "(I)I"⟩
abbrev cX6_reads : ByteArray := prog_8_method_44_code
def yX6_reads : MethodName := ⟨RX6, "reads", "(ZII)V"⟩
abbrev cX6_readsBooking : ByteArray := prog_8_method_45_code
def yX6_readsBooking : MethodName := ⟨RX6, "readsBooking", "(Z)V"⟩
abbrev cX6_readsPlan : ByteArray := prog_8_method_46_code
def yX6_readsPlan : MethodName := ⟨RX6, "readsPlan", "(Z)I"⟩
abbrev cX6_bookPlan : ByteArray := prog_8_method_47_code
def yX6_bookPlan : MethodName := ⟨RX6, "bookPlan", "()I"⟩
abbrev cX6_undo : ByteArray := prog_8_method_48_code
def yX6_undo : MethodName := ⟨RX6, "undo", "()I"⟩
abbrev cX6_keep : ByteArray := prog_8_method_49_code
def yX6_keep : MethodName := ⟨RX6, "keep", "()I"⟩
abbrev cX6_restore : ByteArray := prog_8_method_50_code
def yX6_restore : MethodName := ⟨RX6, "restore", "()I"⟩
abbrev cX6_horse : ByteArray := prog_8_method_51_code
def yX6_horse : MethodName := ⟨RX6, "horse", "(II)I"⟩
abbrev cX6_bookingsOf : ByteArray := prog_8_method_52_code
def yX6_bookingsOf : MethodName := ⟨RX6, "bookingsOf", "(I)I"⟩
abbrev cX6_rider : ByteArray := prog_8_method_53_code
def yX6_rider : MethodName := ⟨RX6, "rider", "(II)I"⟩
abbrev cX6_ridersFor : ByteArray := prog_8_method_54_code
def yX6_ridersFor : MethodName := ⟨RX6, "ridersFor", "(II)I"⟩
abbrev cX6_lesson : ByteArray := prog_8_method_55_code
def yX6_lesson : MethodName := ⟨RX6, "lesson", "(III)I"⟩
abbrev cX6_fall : ByteArray := prog_8_method_56_code
def yX6_fall : MethodName := ⟨RX6, "fall", "(II)I"⟩
abbrev cX6_reason : ByteArray := prog_8_method_57_code
def yX6_reason : MethodName := ⟨RX6, "reason", "(II)I"⟩
abbrev cX6_best : ByteArray := prog_8_method_58_code
def yX6_best : MethodName := ⟨RX6, "best", "(I)I"⟩
abbrev cX6_takenIn : ByteArray := prog_8_method_59_code
def yX6_takenIn : MethodName := ⟨RX6, "takenIn", "(II)I"⟩
abbrev cX6_lameHorses : ByteArray := prog_8_method_60_code
def yX6_lameHorses : MethodName := ⟨RX6, "lameHorses", "()I"⟩
abbrev cX6_ifPassed : ByteArray := prog_8_method_61_code
def yX6_ifPassed : MethodName := ⟨RX6, "ifPassed", "(II)I"⟩
abbrev cX6_busiest : ByteArray := prog_8_method_62_code
def yX6_busiest : MethodName := ⟨RX6, "busiest", "()I"⟩
abbrev cX6_tiredness : ByteArray := prog_8_method_63_code
def yX6_tiredness : MethodName := ⟨RX6, "tiredness", "()I"⟩
abbrev cX6_count : ByteArray := prog_8_method_64_code
def yX6_count : MethodName := ⟨RX6, "count", "(I)I"⟩
def RJ9 : String := "java/lang/Math"
def TJ9 : u_T := fun k => match k with
  | _ => ("", "", "", false)
def tyJ9 : Nat → FieldType := fun k => match k with
  | _ => .int
abbrev wsJ90 : List Cond := u_ws RJ9 TJ9 0
theorem nmJ9 : ∀ a, a < 0 → ∀ b, b < 0 → a ≠ b → (TJ9 a).2.1 ≠ (TJ9 b).2.1 := by decide +kernel
theorem tyJ9_ok : ∀ k, k < 0 → parseFieldDescriptor (TJ9 k).2.2.1 = some (tyJ9 k) := by decide +kernel
abbrev cJ9_max_7cf53 : ByteArray := prog_9_method_65_code
def yJ9_max_7cf53 : MethodName := ⟨RJ9, "max", "(II)I"⟩
abbrev cJ9_min_7cf53 : ByteArray := prog_9_method_69_code
def yJ9_min_7cf53 : MethodName := ⟨RJ9, "min", "(II)I"⟩
def RJ10 : String := "java/lang/System"
def TJ10 : u_T := fun k => match k with
  | _ => ("", "", "", false)
def tyJ10 : Nat → FieldType := fun k => match k with
  | _ => .int
abbrev wsJ100 : List Cond := u_ws RJ10 TJ10 0
theorem nmJ10 : ∀ a, a < 0 → ∀ b, b < 0 → a ≠ b → (TJ10 a).2.1 ≠ (TJ10 b).2.1 := by decide +kernel
theorem tyJ10_ok : ∀ k, k < 0 → parseFieldDescriptor (TJ10 k).2.2.1 = some (tyJ10 k) := by decide +kernel
def RL : String := "LessonHorsesLaw"
abbrev cL_law : ByteArray := code
def yL_law : MethodName := ⟨RL, "law", "([I)Z"⟩
abbrev vwCl : List vw_C := [(RX0, TX0, 3), (RX1, TX1, 6), (RX2, TX2, 8), (RX3, TX3, 2), (RX4, TX4, 2), (RX5, TX5, 7), (RX6, TX6, 14)]
/-- every word that may ride in a contract -/
def wsG : List Cond := lw_tbl.filter goodWord
theorem wsG_in : ∀ w ∈ wsG, w ∈ lw_tbl := fun _ h => (List.mem_filter.mp h).1
theorem wsG_good : ∀ w ∈ wsG, (w.onTables && w.keeps) = true ∨ ∃ ty, w = .arrayClass ty := fun _ h => good_of_word (List.mem_filter.mp h).2
theorem gTb1 {w : Cond} (h : w ∈ tables_1_1) : w ∈ lw_tbl := List.mem_append_right _ (show w ∈ tables_1_1 ++ (tables_1_2 ++ (tables_1_3 ++ tables_1_4)) from List.mem_append_left _ h)
theorem gIn1 {w : Cond} (i : Nat) (h : tables_1_1[i]? = some w) (g : goodWord w = true) : w ∈ wsG := List.mem_filter.mpr ⟨gTb1 (List.mem_of_getElem? h), g⟩
theorem gTb2 {w : Cond} (h : w ∈ tables_1_2) : w ∈ lw_tbl := List.mem_append_right _ (show w ∈ tables_1_1 ++ (tables_1_2 ++ (tables_1_3 ++ tables_1_4)) from List.mem_append_right _ (List.mem_append_left _ h))
theorem gIn2 {w : Cond} (i : Nat) (h : tables_1_2[i]? = some w) (g : goodWord w = true) : w ∈ wsG := List.mem_filter.mpr ⟨gTb2 (List.mem_of_getElem? h), g⟩
theorem gTb3 {w : Cond} (h : w ∈ tables_1_3) : w ∈ lw_tbl := List.mem_append_right _ (show w ∈ tables_1_1 ++ (tables_1_2 ++ (tables_1_3 ++ tables_1_4)) from List.mem_append_right _ (List.mem_append_right _ (List.mem_append_left _ h)))
theorem gIn3 {w : Cond} (i : Nat) (h : tables_1_3[i]? = some w) (g : goodWord w = true) : w ∈ wsG := List.mem_filter.mpr ⟨gTb3 (List.mem_of_getElem? h), g⟩
theorem gTb4 {w : Cond} (h : w ∈ tables_1_4) : w ∈ lw_tbl := List.mem_append_right _ (show w ∈ tables_1_1 ++ (tables_1_2 ++ (tables_1_3 ++ tables_1_4)) from List.mem_append_right _ (List.mem_append_right _ (List.mem_append_right _ (h))))
theorem gIn4 {w : Cond} (i : Nat) (h : tables_1_4[i]? = some w) (g : goodWord w = true) : w ∈ wsG := List.mem_filter.mpr ⟨gTb4 (List.mem_of_getElem? h), g⟩
theorem in_L : (Cond.initialized "LessonHorsesLaw") ∈ wsG := gIn1 0 rfl rfl
theorem in_X5 : (Cond.initialized "LessonHorses") ∈ wsG := gIn1 1 rfl rfl
theorem in_X2 : (Cond.initialized "LessonHorses$Stable") ∈ wsG := gIn1 2 rfl rfl
theorem in_X3 : (Cond.initialized "LessonHorses$Table") ∈ wsG := gIn1 3 rfl rfl
theorem in_X0 : (Cond.initialized "LessonHorses$History") ∈ wsG := gIn1 4 rfl rfl
theorem in_X4 : (Cond.initialized "LessonHorses$Text") ∈ wsG := gIn1 5 rfl rfl
theorem in_X1 : (Cond.initialized "LessonHorses$Plan") ∈ wsG := gIn1 6 rfl rfl
theorem in_X6 : (Cond.initialized "LessonHorsesModel") ∈ wsG := gIn1 7 rfl rfl
theorem in_J10 : (Cond.initialized "java/lang/System") ∈ wsG := gIn1 8 rfl rfl
theorem in_J9 : (Cond.initialized "java/lang/Math") ∈ wsG := gIn1 9 rfl rfl
theorem cl_L_7 : (Cond.classLink "LessonHorsesLaw" 7 "LessonHorses") ∈ wsG := gIn1 10 rfl rfl
theorem is_X5 : (Cond.instantiable "LessonHorses" 7) ∈ wsG := gIn1 11 rfl rfl
theorem ml_L_9 : (Cond.methodLink "LessonHorsesLaw" 9 yX5_init) ∈ wsG := gIn1 12 rfl rfl
theorem im_X5_init : (Cond.instanceMethod yX5_init) ∈ wsG := gIn1 13 rfl rfl
theorem cd_X5_init : (Cond.code yX5_init prog_1_method_1_code 1 (Option.none)) ∈ wsG := gIn1 14 rfl rfl
theorem ml_X5_1 : (Cond.methodLink "LessonHorses" 1 ⟨"java/lang/Object", "<init>", "()V"⟩) ∈ wsG := gIn1 15 rfl rfl
theorem im_Obj_init : (Cond.instanceMethod ⟨"java/lang/Object", "<init>", "()V"⟩) ∈ wsG := gIn1 16 rfl rfl
theorem cd_Obj_init : (Cond.code ⟨"java/lang/Object", "<init>", "()V"⟩ object_method_1_code 1 (Option.none)) ∈ wsG := gIn1 17 rfl rfl
theorem cl_X5_7 : (Cond.classLink "LessonHorses" 7 "LessonHorses$Stable") ∈ wsG := gIn1 18 rfl rfl
theorem is_X2 : (Cond.instantiable "LessonHorses$Stable" 8) ∈ wsG := gIn1 19 rfl rfl
theorem ml_X5_9 : (Cond.methodLink "LessonHorses" 9 yX2_init) ∈ wsG := gIn1 20 rfl rfl
theorem im_X2_init : (Cond.instanceMethod yX2_init) ∈ wsG := gIn1 21 rfl rfl
theorem cd_X2_init : (Cond.code yX2_init prog_4_method_1_code 2 (Option.none)) ∈ wsG := gIn1 22 rfl rfl
theorem ml_X2_3 : (Cond.methodLink "LessonHorses$Stable" 3 ⟨"java/lang/Object", "<init>", "()V"⟩) ∈ wsG := gIn1 23 rfl rfl
theorem cl_X2_9 : (Cond.classLink "LessonHorses$Stable" 9 "LessonHorses$Table") ∈ wsG := gIn1 24 rfl rfl
theorem is_X3 : (Cond.instantiable "LessonHorses$Table" 2) ∈ wsG := gIn1 25 rfl rfl
theorem ml_X2_11 : (Cond.methodLink "LessonHorses$Stable" 11 yX3_init) ∈ wsG := gIn1 26 rfl rfl
theorem im_X3_init : (Cond.instanceMethod yX3_init) ∈ wsG := gIn1 27 rfl rfl
theorem cd_X3_init : (Cond.code yX3_init prog_5_method_1_code 4 (Option.none)) ∈ wsG := gIn1 28 rfl rfl
theorem ml_X3_1 : (Cond.methodLink "LessonHorses$Table" 1 ⟨"java/lang/Object", "<init>", "()V"⟩) ∈ wsG := gIn1 29 rfl rfl
theorem fl_X3_7 : (Cond.fieldLink "LessonHorses$Table" 7 "LessonHorses$Table" "width" "I") ∈ wsG := gIn1 30 rfl rfl
theorem fl_X3_13 : (Cond.fieldLink "LessonHorses$Table" 13 "LessonHorses$Table" "cells" "[I") ∈ wsG := gIn1 31 rfl rfl
theorem ly_X3_width : (Cond.laysFinal "LessonHorses$Table" "LessonHorses$Table" "width" "I") ∈ wsG := gIn1 32 rfl rfl
theorem ly_X3_cells : (Cond.laysFinal "LessonHorses$Table" "LessonHorses$Table" "cells" "[I") ∈ wsG := gIn1 34 rfl rfl
theorem ac_int : (Cond.arrayClass .int) ∈ wsG := gIn1 37 rfl rfl
theorem fn_X2_32 : (Cond.fieldLinkNest "LessonHorses$Stable" 32 "LessonHorses" "FIRST_OF_SETTING" "[I" "LessonHorses") ∈ lw_tbl := gTb1 (List.mem_of_getElem? (i := 38) rfl)
theorem ls_X5_FIRST_OF_SETTING : (Cond.laysStatic "LessonHorses" "FIRST_OF_SETTING" "[I") ∈ lw_tbl := gTb1 (List.mem_of_getElem? (i := 39) rfl)
theorem mn_X2_36 : (Cond.methodLinkNest "LessonHorses$Stable" 36 yX5_entry "LessonHorses") ∈ lw_tbl := gTb1 (List.mem_of_getElem? (i := 40) rfl)
theorem st_X5_entry : (Cond.static yX5_entry) ∈ wsG := gIn1 41 rfl rfl
theorem cd_X5_entry : (Cond.code yX5_entry prog_1_method_28_code 2 (Option.some FieldType.int)) ∈ wsG := gIn1 42 rfl rfl
theorem ml_X2_40 : (Cond.methodLink "LessonHorses$Stable" 40 yX3_put) ∈ wsG := gIn1 43 rfl rfl
theorem im_X3_put : (Cond.instanceMethod yX3_put) ∈ wsG := gIn1 44 rfl rfl
theorem sl_X3_put : (Cond.selects "LessonHorses$Table" yX3_put yX3_put) ∈ wsG := gIn1 45 rfl rfl
theorem cd_X3_put : (Cond.code yX3_put prog_5_method_3_code 5 (Option.none)) ∈ wsG := gIn1 46 rfl rfl
theorem fl_X2_44 : (Cond.fieldLink "LessonHorses$Stable" 44 "LessonHorses$Stable" "time" "I") ∈ wsG := gIn1 47 rfl rfl
theorem fl_X2_14 : (Cond.fieldLink "LessonHorses$Stable" 14 "LessonHorses$Stable" "settings" "LLessonHorses$Table;") ∈ wsG := gIn1 48 rfl rfl
theorem fl_X2_20 : (Cond.fieldLink "LessonHorses$Stable" 20 "LessonHorses$Stable" "horses" "LLessonHorses$Table;") ∈ wsG := gIn1 49 rfl rfl
theorem fl_X2_23 : (Cond.fieldLink "LessonHorses$Stable" 23 "LessonHorses$Stable" "riders" "LLessonHorses$Table;") ∈ wsG := gIn1 50 rfl rfl
theorem fl_X2_26 : (Cond.fieldLink "LessonHorses$Stable" 26 "LessonHorses$Stable" "bookings" "LLessonHorses$Table;") ∈ wsG := gIn1 51 rfl rfl
theorem fl_X2_52 : (Cond.fieldLink "LessonHorses$Stable" 52 "LessonHorses$Stable" "bookingCount" "I") ∈ wsG := gIn1 52 rfl rfl
theorem fl_X2_29 : (Cond.fieldLink "LessonHorses$Stable" 29 "LessonHorses$Stable" "falls" "LLessonHorses$Table;") ∈ wsG := gIn1 53 rfl rfl
theorem fl_X2_55 : (Cond.fieldLink "LessonHorses$Stable" 55 "LessonHorses$Stable" "fallCount" "I") ∈ wsG := gIn1 54 rfl rfl
theorem ly_X2_time : (Cond.lays "LessonHorses$Stable" "LessonHorses$Stable" "time" "I") ∈ wsG := gIn1 55 rfl rfl
theorem ly_X2_settings : (Cond.laysFinal "LessonHorses$Stable" "LessonHorses$Stable" "settings" "LLessonHorses$Table;") ∈ wsG := gIn1 57 rfl rfl
theorem ly_X2_horses : (Cond.laysFinal "LessonHorses$Stable" "LessonHorses$Stable" "horses" "LLessonHorses$Table;") ∈ wsG := gIn1 59 rfl rfl
theorem ly_X2_riders : (Cond.laysFinal "LessonHorses$Stable" "LessonHorses$Stable" "riders" "LLessonHorses$Table;") ∈ wsG := gIn1 61 rfl rfl
theorem ly_X2_bookings : (Cond.laysFinal "LessonHorses$Stable" "LessonHorses$Stable" "bookings" "LLessonHorses$Table;") ∈ wsG := gIn1 63 rfl rfl
theorem ly_X2_bookingCount : (Cond.lays "LessonHorses$Stable" "LessonHorses$Stable" "bookingCount" "I") ∈ wsG := gIn1 65 rfl rfl
theorem ly_X2_falls : (Cond.laysFinal "LessonHorses$Stable" "LessonHorses$Stable" "falls" "LLessonHorses$Table;") ∈ wsG := gIn1 67 rfl rfl
theorem ly_X2_fallCount : (Cond.lays "LessonHorses$Stable" "LessonHorses$Stable" "fallCount" "I") ∈ wsG := gIn1 69 rfl rfl
theorem cl_X5_22 : (Cond.classLink "LessonHorses" 22 "LessonHorses$History") ∈ wsG := gIn1 72 rfl rfl
theorem is_X0 : (Cond.instantiable "LessonHorses$History" 3) ∈ wsG := gIn1 73 rfl rfl
theorem ml_X5_24 : (Cond.methodLink "LessonHorses" 24 yX0_init) ∈ wsG := gIn1 74 rfl rfl
theorem im_X0_init : (Cond.instanceMethod yX0_init) ∈ wsG := gIn1 75 rfl rfl
theorem cd_X0_init : (Cond.code yX0_init prog_2_method_1_code 2 (Option.none)) ∈ wsG := gIn1 76 rfl rfl
theorem ml_X0_3 : (Cond.methodLink "LessonHorses$History" 3 ⟨"java/lang/Object", "<init>", "()V"⟩) ∈ wsG := gIn1 77 rfl rfl
theorem cl_X0_9 : (Cond.classLink "LessonHorses$History" 9 "LessonHorses$Stable") ∈ wsG := gIn1 78 rfl rfl
theorem ao_Stable : (Cond.arrayOver (FieldType.object "LessonHorses$Stable")) ∈ lw_tbl := gTb1 (List.mem_of_getElem? (i := 79) rfl)
theorem ml_X0_17 : (Cond.methodLink "LessonHorses$History" 17 yX2_init) ∈ wsG := gIn1 80 rfl rfl
theorem fl_X0_11 : (Cond.fieldLink "LessonHorses$History" 11 "LessonHorses$History" "states" "[LLessonHorses$Stable;") ∈ wsG := gIn1 81 rfl rfl
theorem fl_X0_22 : (Cond.fieldLink "LessonHorses$History" 22 "LessonHorses$History" "next" "I") ∈ wsG := gIn1 82 rfl rfl
theorem fl_X0_18 : (Cond.fieldLink "LessonHorses$History" 18 "LessonHorses$History" "size" "I") ∈ wsG := gIn1 83 rfl rfl
theorem ly_X0_states : (Cond.laysFinal "LessonHorses$History" "LessonHorses$History" "states" "[LLessonHorses$Stable;") ∈ wsG := gIn1 84 rfl rfl
theorem ly_X0_next : (Cond.lays "LessonHorses$History" "LessonHorses$History" "next" "I") ∈ wsG := gIn1 86 rfl rfl
theorem ly_X0_size : (Cond.lays "LessonHorses$History" "LessonHorses$History" "size" "I") ∈ wsG := gIn1 88 rfl rfl
theorem cl_X5_29 : (Cond.classLink "LessonHorses" 29 "LessonHorses$Text") ∈ wsG := gIn1 91 rfl rfl
theorem is_X4 : (Cond.instantiable "LessonHorses$Text" 2) ∈ wsG := gIn1 92 rfl rfl
theorem mn_X5_31 : (Cond.methodLinkNest "LessonHorses" 31 yX4_init "LessonHorses") ∈ lw_tbl := gTb1 (List.mem_of_getElem? (i := 93) rfl)
theorem im_X4_init : (Cond.instanceMethod yX4_init) ∈ wsG := gIn1 94 rfl rfl
theorem cd_X4_init : (Cond.code yX4_init prog_6_method_1_code 1 (Option.none)) ∈ wsG := gIn1 95 rfl rfl
theorem ml_X4_3 : (Cond.methodLink "LessonHorses$Text" 3 ⟨"java/lang/Object", "<init>", "()V"⟩) ∈ wsG := gIn1 96 rfl rfl
theorem fl_X4_9 : (Cond.fieldLink "LessonHorses$Text" 9 "LessonHorses$Text" "characters" "[C") ∈ wsG := gIn1 97 rfl rfl
theorem fl_X4_15 : (Cond.fieldLink "LessonHorses$Text" 15 "LessonHorses$Text" "length" "I") ∈ wsG := gIn1 98 rfl rfl
theorem ly_X4_characters : (Cond.laysFinal "LessonHorses$Text" "LessonHorses$Text" "characters" "[C") ∈ wsG := gIn1 99 rfl rfl
theorem ly_X4_length : (Cond.lays "LessonHorses$Text" "LessonHorses$Text" "length" "I") ∈ wsG := gIn1 101 rfl rfl
theorem ac_char : (Cond.arrayClass .char) ∈ wsG := gIn1 104 rfl rfl
theorem cl_X5_36 : (Cond.classLink "LessonHorses" 36 "LessonHorses$Plan") ∈ wsG := gIn1 105 rfl rfl
theorem is_X1 : (Cond.instantiable "LessonHorses$Plan" 6) ∈ wsG := gIn1 106 rfl rfl
theorem mn_X5_38 : (Cond.methodLinkNest "LessonHorses" 38 yX1_init "LessonHorses") ∈ lw_tbl := gTb1 (List.mem_of_getElem? (i := 107) rfl)
theorem im_X1_init : (Cond.instanceMethod yX1_init) ∈ wsG := gIn1 108 rfl rfl
theorem cd_X1_init : (Cond.code yX1_init prog_3_method_1_code 1 (Option.none)) ∈ wsG := gIn1 109 rfl rfl
theorem ml_X1_3 : (Cond.methodLink "LessonHorses$Plan" 3 ⟨"java/lang/Object", "<init>", "()V"⟩) ∈ wsG := gIn1 110 rfl rfl
theorem cl_X1_9 : (Cond.classLink "LessonHorses$Plan" 9 "LessonHorses$Table") ∈ wsG := gIn1 111 rfl rfl
theorem ml_X1_13 : (Cond.methodLink "LessonHorses$Plan" 13 yX3_init) ∈ wsG := gIn1 112 rfl rfl
theorem fl_X1_16 : (Cond.fieldLink "LessonHorses$Plan" 16 "LessonHorses$Plan" "entries" "LLessonHorses$Table;") ∈ wsG := gIn1 113 rfl rfl
theorem fl_X1_20 : (Cond.fieldLink "LessonHorses$Plan" 20 "LessonHorses$Plan" "size" "I") ∈ wsG := gIn1 114 rfl rfl
theorem fl_X1_46 : (Cond.fieldLink "LessonHorses$Plan" 46 "LessonHorses$Plan" "place" "I") ∈ wsG := gIn1 115 rfl rfl
theorem fl_X1_49 : (Cond.fieldLink "LessonHorses$Plan" 49 "LessonHorses$Plan" "number" "I") ∈ wsG := gIn1 116 rfl rfl
theorem fl_X1_55 : (Cond.fieldLink "LessonHorses$Plan" 55 "LessonHorses$Plan" "hours" "I") ∈ wsG := gIn1 117 rfl rfl
theorem fl_X1_62 : (Cond.fieldLink "LessonHorses$Plan" 62 "LessonHorses$Plan" "ring" "I") ∈ wsG := gIn1 118 rfl rfl
theorem ly_X1_entries : (Cond.laysFinal "LessonHorses$Plan" "LessonHorses$Plan" "entries" "LLessonHorses$Table;") ∈ wsG := gIn1 119 rfl rfl
theorem ly_X1_size : (Cond.lays "LessonHorses$Plan" "LessonHorses$Plan" "size" "I") ∈ wsG := gIn1 121 rfl rfl
theorem ly_X1_place : (Cond.lays "LessonHorses$Plan" "LessonHorses$Plan" "place" "I") ∈ wsG := gIn1 123 rfl rfl
theorem ly_X1_number : (Cond.lays "LessonHorses$Plan" "LessonHorses$Plan" "number" "I") ∈ wsG := gIn1 125 rfl rfl
theorem ly_X1_hours : (Cond.lays "LessonHorses$Plan" "LessonHorses$Plan" "hours" "I") ∈ wsG := gIn1 127 rfl rfl
theorem ly_X1_ring : (Cond.lays "LessonHorses$Plan" "LessonHorses$Plan" "ring" "I") ∈ wsG := gIn1 129 rfl rfl
theorem fl_X5_10 : (Cond.fieldLink "LessonHorses" 10 "LessonHorses" "now" "LLessonHorses$Stable;") ∈ wsG := gIn1 132 rfl rfl
theorem fl_X5_16 : (Cond.fieldLink "LessonHorses" 16 "LessonHorses" "ahead" "LLessonHorses$Stable;") ∈ wsG := gIn1 133 rfl rfl
theorem fl_X5_19 : (Cond.fieldLink "LessonHorses" 19 "LessonHorses" "snapshot" "LLessonHorses$Stable;") ∈ wsG := gIn1 134 rfl rfl
theorem fl_X5_158 : (Cond.fieldLink "LessonHorses" 158 "LessonHorses" "hasSnapshot" "Z") ∈ wsG := gIn1 135 rfl rfl
theorem fl_X5_25 : (Cond.fieldLink "LessonHorses" 25 "LessonHorses" "history" "LLessonHorses$History;") ∈ wsG := gIn1 136 rfl rfl
theorem fl_X5_32 : (Cond.fieldLink "LessonHorses" 32 "LessonHorses" "text" "LLessonHorses$Text;") ∈ wsG := gIn1 137 rfl rfl
theorem fl_X5_39 : (Cond.fieldLink "LessonHorses" 39 "LessonHorses" "plan" "LLessonHorses$Plan;") ∈ wsG := gIn1 138 rfl rfl
theorem ly_X5_now : (Cond.laysFinal "LessonHorses" "LessonHorses" "now" "LLessonHorses$Stable;") ∈ wsG := gIn1 139 rfl rfl
theorem ly_X5_ahead : (Cond.laysFinal "LessonHorses" "LessonHorses" "ahead" "LLessonHorses$Stable;") ∈ wsG := gIn1 141 rfl rfl
theorem ly_X5_snapshot : (Cond.laysFinal "LessonHorses" "LessonHorses" "snapshot" "LLessonHorses$Stable;") ∈ wsG := gIn1 143 rfl rfl
theorem ly_X5_hasSnapshot : (Cond.lays "LessonHorses" "LessonHorses" "hasSnapshot" "Z") ∈ wsG := gIn1 145 rfl rfl
theorem ly_X5_history : (Cond.laysFinal "LessonHorses" "LessonHorses" "history" "LLessonHorses$History;") ∈ wsG := gIn1 147 rfl rfl
theorem ly_X5_text : (Cond.laysFinal "LessonHorses" "LessonHorses" "text" "LLessonHorses$Text;") ∈ wsG := gIn1 149 rfl rfl
theorem ly_X5_plan : (Cond.laysFinal "LessonHorses" "LessonHorses" "plan" "LLessonHorses$Plan;") ∈ wsG := gIn1 151 rfl rfl
theorem ml_L_13 : (Cond.methodLink "LessonHorsesLaw" 13 yX5_setHorse) ∈ wsG := gIn1 154 rfl rfl
theorem im_X5_setHorse : (Cond.instanceMethod yX5_setHorse) ∈ wsG := gIn1 155 rfl rfl
theorem sl_X5_setHorse : (Cond.selects "LessonHorses" yX5_setHorse yX5_setHorse) ∈ wsG := gIn1 156 rfl rfl
theorem cd_X5_setHorse : (Cond.code yX5_setHorse prog_1_method_2_code 5 (Option.some FieldType.int)) ∈ wsG := gIn1 157 rfl rfl
theorem ml_X5_43 : (Cond.methodLink "LessonHorses" 43 yX5_isNoHorse) ∈ wsG := gIn1 158 rfl rfl
theorem st_X5_isNoHorse : (Cond.static yX5_isNoHorse) ∈ wsG := gIn1 159 rfl rfl
theorem cd_X5_isNoHorse : (Cond.code yX5_isNoHorse prog_1_method_25_code 1 (Option.some FieldType.boolean)) ∈ wsG := gIn1 160 rfl rfl
theorem ml_X5_47 : (Cond.methodLink "LessonHorses" 47 yX5_isOutside) ∈ wsG := gIn1 161 rfl rfl
theorem st_X5_isOutside : (Cond.static yX5_isOutside) ∈ wsG := gIn1 162 rfl rfl
theorem cd_X5_isOutside : (Cond.code yX5_isOutside prog_1_method_24_code 3 (Option.some FieldType.boolean)) ∈ wsG := gIn1 163 rfl rfl
theorem ml_X5_51 : (Cond.methodLink "LessonHorses" 51 yX2_ofHorse) ∈ wsG := gIn1 164 rfl rfl
theorem im_X2_ofHorse : (Cond.instanceMethod yX2_ofHorse) ∈ wsG := gIn1 165 rfl rfl
theorem sl_X2_ofHorse : (Cond.selects "LessonHorses$Stable" yX2_ofHorse yX2_ofHorse) ∈ wsG := gIn1 166 rfl rfl
theorem cd_X2_ofHorse : (Cond.code yX2_ofHorse prog_4_method_6_code 3 (Option.some FieldType.int)) ∈ wsG := gIn1 167 rfl rfl
theorem ml_X2_58 : (Cond.methodLink "LessonHorses$Stable" 58 yX3_at) ∈ wsG := gIn1 168 rfl rfl
theorem im_X3_at : (Cond.instanceMethod yX3_at) ∈ wsG := gIn1 169 rfl rfl
theorem sl_X3_at : (Cond.selects "LessonHorses$Table" yX3_at yX3_at) ∈ wsG := gIn1 170 rfl rfl
theorem cd_X3_at : (Cond.code yX3_at prog_5_method_2_code 4 (Option.some FieldType.int)) ∈ wsG := gIn1 171 rfl rfl
theorem ml_X5_55 : (Cond.methodLink "LessonHorses" 55 yX0_record) ∈ wsG := gIn1 172 rfl rfl
theorem im_X0_record : (Cond.instanceMethod yX0_record) ∈ wsG := gIn1 173 rfl rfl
theorem sl_X0_record : (Cond.selects "LessonHorses$History" yX0_record yX0_record) ∈ wsG := gIn1 174 rfl rfl
theorem cd_X0_record : (Cond.code yX0_record prog_2_method_4_code 3 (Option.none)) ∈ wsG := gIn1 175 rfl rfl
theorem ml_X0_25 : (Cond.methodLink "LessonHorses$History" 25 yX0_stateAt) ∈ wsG := gIn1 176 rfl rfl
theorem im_X0_stateAt : (Cond.instanceMethod yX0_stateAt) ∈ wsG := gIn1 178 rfl rfl
theorem cd_X0_stateAt : (Cond.code yX0_stateAt prog_2_method_3_code 2 (Option.some (FieldType.object "LessonHorses$Stable"))) ∈ wsG := gIn1 179 rfl rfl
theorem ml_X0_29 : (Cond.methodLink "LessonHorses$History" 29 yX2_copyFrom) ∈ wsG := gIn1 180 rfl rfl
theorem im_X2_copyFrom : (Cond.instanceMethod yX2_copyFrom) ∈ wsG := gIn1 181 rfl rfl
theorem sl_X2_copyFrom : (Cond.selects "LessonHorses$Stable" yX2_copyFrom yX2_copyFrom) ∈ wsG := gIn1 182 rfl rfl
theorem cd_X2_copyFrom : (Cond.code yX2_copyFrom prog_4_method_2_code 2 (Option.none)) ∈ wsG := gIn1 183 rfl rfl
theorem ml_X2_48 : (Cond.methodLink "LessonHorses$Stable" 48 yX3_copyFrom) ∈ wsG := gIn1 184 rfl rfl
theorem im_X3_copyFrom : (Cond.instanceMethod yX3_copyFrom) ∈ wsG := gIn1 185 rfl rfl
theorem sl_X3_copyFrom : (Cond.selects "LessonHorses$Table" yX3_copyFrom yX3_copyFrom) ∈ wsG := gIn1 186 rfl rfl
theorem cd_X3_copyFrom : (Cond.code yX3_copyFrom prog_5_method_9_code 2 (Option.none)) ∈ wsG := gIn1 187 rfl rfl
theorem ml_X3_33 : (Cond.methodLink "LessonHorses$Table" 33 ⟨"java/lang/System", "arraycopy", "(Ljava/lang/Object;ILjava/lang/Object;II)V"⟩) ∈ wsG := gIn1 188 rfl rfl
theorem st_System_arraycopy : (Cond.static ⟨"java/lang/System", "arraycopy", "(Ljava/lang/Object;ILjava/lang/Object;II)V"⟩) ∈ wsG := gIn1 189 rfl rfl
theorem na_System_arraycopy : (Cond.native ⟨"java/lang/System", "arraycopy", "(Ljava/lang/Object;ILjava/lang/Object;II)V"⟩) ∈ wsG := gIn1 190 rfl rfl
theorem ml_X0_33 : (Cond.methodLink "LessonHorses$History" 33 yJ9_min_7cf53) ∈ wsG := gIn1 191 rfl rfl
theorem st_J9_min_7cf53 : (Cond.static yJ9_min_7cf53) ∈ wsG := gIn1 192 rfl rfl
theorem cd_J9_min_7cf53 : (Cond.code yJ9_min_7cf53 prog_9_method_69_code 2 (Option.some FieldType.int)) ∈ wsG := gIn1 193 rfl rfl
theorem ml_X5_59 : (Cond.methodLink "LessonHorses" 59 yX2_changeHorse) ∈ wsG := gIn1 194 rfl rfl
theorem im_X2_changeHorse : (Cond.instanceMethod yX2_changeHorse) ∈ wsG := gIn1 195 rfl rfl
theorem sl_X2_changeHorse : (Cond.selects "LessonHorses$Stable" yX2_changeHorse yX2_changeHorse) ∈ wsG := gIn1 196 rfl rfl
theorem cd_X2_changeHorse : (Cond.code yX2_changeHorse prog_4_method_7_code 4 (Option.none)) ∈ wsG := gIn1 197 rfl rfl
theorem ml_L_18 : (Cond.methodLink "LessonHorsesLaw" 18 yX5_setRider) ∈ wsG := gIn1 198 rfl rfl
theorem im_X5_setRider : (Cond.instanceMethod yX5_setRider) ∈ wsG := gIn1 199 rfl rfl
theorem sl_X5_setRider : (Cond.selects "LessonHorses" yX5_setRider yX5_setRider) ∈ wsG := gIn1 200 rfl rfl
theorem cd_X5_setRider : (Cond.code yX5_setRider prog_1_method_3_code 5 (Option.some FieldType.int)) ∈ wsG := gIn1 201 rfl rfl
theorem ml_X5_63 : (Cond.methodLink "LessonHorses" 63 yX5_isNoRider) ∈ wsG := gIn1 202 rfl rfl
theorem st_X5_isNoRider : (Cond.static yX5_isNoRider) ∈ wsG := gIn1 203 rfl rfl
theorem cd_X5_isNoRider : (Cond.code yX5_isNoRider prog_1_method_26_code 1 (Option.some FieldType.boolean)) ∈ wsG := gIn1 204 rfl rfl
theorem ml_X5_66 : (Cond.methodLink "LessonHorses" 66 yX2_ofRider) ∈ wsG := gIn1 205 rfl rfl
theorem im_X2_ofRider : (Cond.instanceMethod yX2_ofRider) ∈ wsG := gIn1 206 rfl rfl
theorem sl_X2_ofRider : (Cond.selects "LessonHorses$Stable" yX2_ofRider yX2_ofRider) ∈ wsG := gIn1 207 rfl rfl
theorem cd_X2_ofRider : (Cond.code yX2_ofRider prog_4_method_10_code 3 (Option.some FieldType.int)) ∈ wsG := gIn1 208 rfl rfl
theorem ml_X2_66 : (Cond.methodLink "LessonHorses$Stable" 66 yX2_abilityOf) ∈ wsG := gIn1 209 rfl rfl
theorem im_X2_abilityOf : (Cond.instanceMethod yX2_abilityOf) ∈ wsG := gIn1 211 rfl rfl
theorem cd_X2_abilityOf : (Cond.code yX2_abilityOf prog_4_method_13_code 2 (Option.some FieldType.int)) ∈ wsG := gIn1 212 rfl rfl
theorem ml_X2_72 : (Cond.methodLink "LessonHorses$Stable" 72 yJ9_max_7cf53) ∈ wsG := gIn1 213 rfl rfl
theorem st_J9_max_7cf53 : (Cond.static yJ9_max_7cf53) ∈ wsG := gIn1 214 rfl rfl
theorem cd_J9_max_7cf53 : (Cond.code yJ9_max_7cf53 prog_9_method_65_code 2 (Option.some FieldType.int)) ∈ wsG := gIn1 215 rfl rfl
theorem ml_X2_69 : (Cond.methodLink "LessonHorses$Stable" 69 yX2_bookingsOf) ∈ wsG := gIn1 216 rfl rfl
theorem im_X2_bookingsOf : (Cond.instanceMethod yX2_bookingsOf) ∈ wsG := gIn1 218 rfl rfl
theorem cd_X2_bookingsOf : (Cond.code yX2_bookingsOf prog_4_method_22_code 4 (Option.some FieldType.int)) ∈ wsG := gIn1 219 rfl rfl
theorem ml_X5_69 : (Cond.methodLink "LessonHorses" 69 yX2_changeRider) ∈ wsG := gIn1 220 rfl rfl
theorem im_X2_changeRider : (Cond.instanceMethod yX2_changeRider) ∈ wsG := gIn1 221 rfl rfl
theorem sl_X2_changeRider : (Cond.selects "LessonHorses$Stable" yX2_changeRider yX2_changeRider) ∈ wsG := gIn1 222 rfl rfl
theorem cd_X2_changeRider : (Cond.code yX2_changeRider prog_4_method_11_code 4 (Option.none)) ∈ wsG := gIn1 223 rfl rfl
theorem ml_L_22 : (Cond.methodLink "LessonHorsesLaw" 22 yX5_set) ∈ wsG := gIn1 224 rfl rfl
theorem im_X5_set : (Cond.instanceMethod yX5_set) ∈ wsG := gIn1 225 rfl rfl
theorem sl_X5_set : (Cond.selects "LessonHorses" yX5_set yX5_set) ∈ wsG := gIn1 226 rfl rfl
theorem cd_X5_set : (Cond.code yX5_set prog_1_method_4_code 4 (Option.some FieldType.int)) ∈ wsG := gIn1 227 rfl rfl
theorem fl_X5_72 : (Cond.fieldLink "LessonHorses" 72 "LessonHorses" "LEAST_OF_SETTING" "[I") ∈ wsG := gIn1 228 rfl rfl
theorem ls_X5_LEAST_OF_SETTING : (Cond.laysStatic "LessonHorses" "LEAST_OF_SETTING" "[I") ∈ lw_tbl := gTb1 (List.mem_of_getElem? (i := 229) rfl)
theorem ml_X5_76 : (Cond.methodLink "LessonHorses" 76 yX5_entry) ∈ wsG := gIn1 230 rfl rfl
theorem fl_X5_80 : (Cond.fieldLink "LessonHorses" 80 "LessonHorses" "MOST_OF_SETTING" "[I") ∈ wsG := gIn1 231 rfl rfl
theorem ls_X5_MOST_OF_SETTING : (Cond.laysStatic "LessonHorses" "MOST_OF_SETTING" "[I") ∈ lw_tbl := gTb1 (List.mem_of_getElem? (i := 232) rfl)
theorem ml_X5_83 : (Cond.methodLink "LessonHorses" 83 yX2_setting) ∈ wsG := gIn1 233 rfl rfl
theorem im_X2_setting : (Cond.instanceMethod yX2_setting) ∈ wsG := gIn1 234 rfl rfl
theorem sl_X2_setting : (Cond.selects "LessonHorses$Stable" yX2_setting yX2_setting) ∈ wsG := gIn1 235 rfl rfl
theorem cd_X2_setting : (Cond.code yX2_setting prog_4_method_4_code 2 (Option.some FieldType.int)) ∈ wsG := gIn1 236 rfl rfl
theorem ml_X5_87 : (Cond.methodLink "LessonHorses" 87 yX2_changeSetting) ∈ wsG := gIn1 237 rfl rfl
theorem im_X2_changeSetting : (Cond.instanceMethod yX2_changeSetting) ∈ wsG := gIn1 238 rfl rfl
theorem sl_X2_changeSetting : (Cond.selects "LessonHorses$Stable" yX2_changeSetting yX2_changeSetting) ∈ wsG := gIn1 239 rfl rfl
theorem cd_X2_changeSetting : (Cond.code yX2_changeSetting prog_4_method_5_code 3 (Option.none)) ∈ wsG := gIn2 0 rfl rfl
theorem ml_L_27 : (Cond.methodLink "LessonHorsesLaw" 27 yX5_book) ∈ wsG := gIn2 1 rfl rfl
theorem im_X5_book : (Cond.instanceMethod yX5_book) ∈ wsG := gIn2 2 rfl rfl
theorem sl_X5_book : (Cond.selects "LessonHorses" yX5_book yX5_book) ∈ wsG := gIn2 3 rfl rfl
theorem cd_X5_book : (Cond.code yX5_book prog_1_method_5_code 5 (Option.some FieldType.int)) ∈ wsG := gIn2 4 rfl rfl
theorem ml_X5_91 : (Cond.methodLink "LessonHorses" 91 yX5_isNoRing) ∈ wsG := gIn2 5 rfl rfl
theorem st_X5_isNoRing : (Cond.static yX5_isNoRing) ∈ wsG := gIn2 6 rfl rfl
theorem cd_X5_isNoRing : (Cond.code yX5_isNoRing prog_1_method_27_code 1 (Option.some FieldType.boolean)) ∈ wsG := gIn2 7 rfl rfl
theorem ml_X5_94 : (Cond.methodLink "LessonHorses" 94 yX2_bookingError) ∈ wsG := gIn2 8 rfl rfl
theorem im_X2_bookingError : (Cond.instanceMethod yX2_bookingError) ∈ wsG := gIn2 9 rfl rfl
theorem sl_X2_bookingError : (Cond.selects "LessonHorses$Stable" yX2_bookingError yX2_bookingError) ∈ wsG := gIn2 10 rfl rfl
theorem cd_X2_bookingError : (Cond.code yX2_bookingError prog_4_method_23_code 5 (Option.some FieldType.int)) ∈ wsG := gIn2 11 rfl rfl
theorem ml_X2_84 : (Cond.methodLink "LessonHorses$Stable" 84 yX2_findBooking) ∈ wsG := gIn2 12 rfl rfl
theorem im_X2_findBooking : (Cond.instanceMethod yX2_findBooking) ∈ wsG := gIn2 13 rfl rfl
theorem sl_X2_findBooking : (Cond.selects "LessonHorses$Stable" yX2_findBooking yX2_findBooking) ∈ wsG := gIn2 14 rfl rfl
theorem cd_X2_findBooking : (Cond.code yX2_findBooking prog_4_method_18_code 4 (Option.some FieldType.int)) ∈ wsG := gIn2 15 rfl rfl
theorem ml_X2_77 : (Cond.methodLink "LessonHorses$Stable" 77 yX2_isBooked) ∈ wsG := gIn2 16 rfl rfl
theorem im_X2_isBooked : (Cond.instanceMethod yX2_isBooked) ∈ wsG := gIn2 18 rfl rfl
theorem cd_X2_isBooked : (Cond.code yX2_isBooked prog_4_method_16_code 3 (Option.some FieldType.boolean)) ∈ wsG := gIn2 19 rfl rfl
theorem ml_X2_87 : (Cond.methodLink "LessonHorses$Stable" 87 yX2_bookedFor) ∈ wsG := gIn2 20 rfl rfl
theorem im_X2_bookedFor : (Cond.instanceMethod yX2_bookedFor) ∈ wsG := gIn2 21 rfl rfl
theorem sl_X2_bookedFor : (Cond.selects "LessonHorses$Stable" yX2_bookedFor yX2_bookedFor) ∈ wsG := gIn2 22 rfl rfl
theorem cd_X2_bookedFor : (Cond.code yX2_bookedFor prog_4_method_19_code 5 (Option.some FieldType.int)) ∈ wsG := gIn2 23 rfl rfl
theorem ml_X2_81 : (Cond.methodLink "LessonHorses$Stable" 81 yX2_isBooked_) ∈ wsG := gIn2 24 rfl rfl
theorem im_X2_isBooked_ : (Cond.instanceMethod yX2_isBooked_) ∈ wsG := gIn2 26 rfl rfl
theorem cd_X2_isBooked_ : (Cond.code yX2_isBooked_ prog_4_method_17_code 4 (Option.some FieldType.boolean)) ∈ wsG := gIn2 27 rfl rfl
theorem fn_X2_90 : (Cond.fieldLinkNest "LessonHorses$Stable" 90 "LessonHorses" "ROOM_OF_RING" "[I" "LessonHorses") ∈ lw_tbl := gTb2 (List.mem_of_getElem? (i := 28) rfl)
theorem ls_X5_ROOM_OF_RING : (Cond.laysStatic "LessonHorses" "ROOM_OF_RING" "[I") ∈ lw_tbl := gTb2 (List.mem_of_getElem? (i := 29) rfl)
theorem ml_X5_98 : (Cond.methodLink "LessonHorses" 98 yX2_addBooking) ∈ wsG := gIn2 30 rfl rfl
theorem im_X2_addBooking : (Cond.instanceMethod yX2_addBooking) ∈ wsG := gIn2 31 rfl rfl
theorem sl_X2_addBooking : (Cond.selects "LessonHorses$Stable" yX2_addBooking yX2_addBooking) ∈ wsG := gIn2 32 rfl rfl
theorem cd_X2_addBooking : (Cond.code yX2_addBooking prog_4_method_24_code 4 (Option.none)) ∈ wsG := gIn2 33 rfl rfl
theorem ml_X2_93 : (Cond.methodLink "LessonHorses$Stable" 93 yJ9_min_7cf53) ∈ wsG := gIn2 34 rfl rfl
theorem ml_X5_101 : (Cond.methodLink "LessonHorses" 101 yX2_bookedFor) ∈ wsG := gIn2 35 rfl rfl
theorem ml_L_31 : (Cond.methodLink "LessonHorsesLaw" 31 yX5_cancel) ∈ wsG := gIn2 36 rfl rfl
theorem im_X5_cancel : (Cond.instanceMethod yX5_cancel) ∈ wsG := gIn2 37 rfl rfl
theorem sl_X5_cancel : (Cond.selects "LessonHorses" yX5_cancel yX5_cancel) ∈ wsG := gIn2 38 rfl rfl
theorem cd_X5_cancel : (Cond.code yX5_cancel prog_1_method_6_code 5 (Option.some FieldType.int)) ∈ wsG := gIn2 39 rfl rfl
theorem ml_X5_104 : (Cond.methodLink "LessonHorses" 104 yX2_findBooking) ∈ wsG := gIn2 40 rfl rfl
theorem ml_X5_107 : (Cond.methodLink "LessonHorses" 107 yX2_ringOfBooking) ∈ wsG := gIn2 41 rfl rfl
theorem im_X2_ringOfBooking : (Cond.instanceMethod yX2_ringOfBooking) ∈ wsG := gIn2 42 rfl rfl
theorem sl_X2_ringOfBooking : (Cond.selects "LessonHorses$Stable" yX2_ringOfBooking yX2_ringOfBooking) ∈ wsG := gIn2 43 rfl rfl
theorem cd_X2_ringOfBooking : (Cond.code yX2_ringOfBooking prog_4_method_15_code 2 (Option.some FieldType.int)) ∈ wsG := gIn2 44 rfl rfl
theorem ml_X5_110 : (Cond.methodLink "LessonHorses" 110 yX2_removeBooking) ∈ wsG := gIn2 45 rfl rfl
theorem im_X2_removeBooking : (Cond.instanceMethod yX2_removeBooking) ∈ wsG := gIn2 46 rfl rfl
theorem sl_X2_removeBooking : (Cond.selects "LessonHorses$Stable" yX2_removeBooking yX2_removeBooking) ∈ wsG := gIn2 47 rfl rfl
theorem cd_X2_removeBooking : (Cond.code yX2_removeBooking prog_4_method_25_code 3 (Option.none)) ∈ wsG := gIn2 48 rfl rfl
theorem ml_X2_96 : (Cond.methodLink "LessonHorses$Stable" 96 yX3_moveColumn) ∈ wsG := gIn2 49 rfl rfl
theorem im_X3_moveColumn : (Cond.instanceMethod yX3_moveColumn) ∈ wsG := gIn2 50 rfl rfl
theorem sl_X3_moveColumn : (Cond.selects "LessonHorses$Table" yX3_moveColumn yX3_moveColumn) ∈ wsG := gIn2 51 rfl rfl
theorem cd_X3_moveColumn : (Cond.code yX3_moveColumn prog_5_method_8_code 5 (Option.none)) ∈ wsG := gIn2 52 rfl rfl
theorem ml_X3_17 : (Cond.methodLink "LessonHorses$Table" 17 yX3_at) ∈ wsG := gIn2 53 rfl rfl
theorem ml_X3_21 : (Cond.methodLink "LessonHorses$Table" 21 yX3_put) ∈ wsG := gIn2 54 rfl rfl
theorem ml_L_35 : (Cond.methodLink "LessonHorsesLaw" 35 yX5_pass) ∈ wsG := gIn2 55 rfl rfl
theorem im_X5_pass : (Cond.instanceMethod yX5_pass) ∈ wsG := gIn2 56 rfl rfl
theorem sl_X5_pass : (Cond.selects "LessonHorses" yX5_pass yX5_pass) ∈ wsG := gIn2 57 rfl rfl
theorem cd_X5_pass : (Cond.code yX5_pass prog_1_method_7_code 4 (Option.some FieldType.int)) ∈ wsG := gIn2 58 rfl rfl
theorem ml_X5_114 : (Cond.methodLink "LessonHorses" 114 yX2_time) ∈ wsG := gIn2 59 rfl rfl
theorem im_X2_time : (Cond.instanceMethod yX2_time) ∈ wsG := gIn2 60 rfl rfl
theorem sl_X2_time : (Cond.selects "LessonHorses$Stable" yX2_time yX2_time) ∈ wsG := gIn2 61 rfl rfl
theorem cd_X2_time : (Cond.code yX2_time prog_4_method_3_code 1 (Option.some FieldType.int)) ∈ wsG := gIn2 62 rfl rfl
theorem ml_X5_118 : (Cond.methodLink "LessonHorses" 118 yX2_sumOfHorses) ∈ wsG := gIn2 63 rfl rfl
theorem im_X2_sumOfHorses : (Cond.instanceMethod yX2_sumOfHorses) ∈ wsG := gIn2 64 rfl rfl
theorem sl_X2_sumOfHorses : (Cond.selects "LessonHorses$Stable" yX2_sumOfHorses yX2_sumOfHorses) ∈ wsG := gIn2 65 rfl rfl
theorem cd_X2_sumOfHorses : (Cond.code yX2_sumOfHorses prog_4_method_8_code 2 (Option.some FieldType.int)) ∈ wsG := gIn2 66 rfl rfl
theorem ml_X2_62 : (Cond.methodLink "LessonHorses$Stable" 62 yX3_sum) ∈ wsG := gIn2 67 rfl rfl
theorem im_X3_sum : (Cond.instanceMethod yX3_sum) ∈ wsG := gIn2 68 rfl rfl
theorem sl_X3_sum : (Cond.selects "LessonHorses$Table" yX3_sum yX3_sum) ∈ wsG := gIn2 69 rfl rfl
theorem cd_X3_sum : (Cond.code yX3_sum prog_5_method_7_code 4 (Option.some FieldType.int)) ∈ wsG := gIn2 70 rfl rfl
theorem ml_X5_121 : (Cond.methodLink "LessonHorses" 121 yX2_passHour) ∈ wsG := gIn2 71 rfl rfl
theorem im_X2_passHour : (Cond.instanceMethod yX2_passHour) ∈ wsG := gIn2 72 rfl rfl
theorem sl_X2_passHour : (Cond.selects "LessonHorses$Stable" yX2_passHour yX2_passHour) ∈ wsG := gIn2 73 rfl rfl
theorem cd_X2_passHour : (Cond.code yX2_passHour prog_4_method_31_code 5 (Option.none)) ∈ wsG := gIn2 74 rfl rfl
theorem ml_X2_110 : (Cond.methodLink "LessonHorses$Stable" 110 yX2_farriersHorse) ∈ wsG := gIn2 75 rfl rfl
theorem im_X2_farriersHorse : (Cond.instanceMethod yX2_farriersHorse) ∈ wsG := gIn2 76 rfl rfl
theorem sl_X2_farriersHorse : (Cond.selects "LessonHorses$Stable" yX2_farriersHorse yX2_farriersHorse) ∈ wsG := gIn2 77 rfl rfl
theorem cd_X2_farriersHorse : (Cond.code yX2_farriersHorse prog_4_method_27_code 5 (Option.some FieldType.int)) ∈ wsG := gIn2 78 rfl rfl
theorem ml_X2_99 : (Cond.methodLink "LessonHorses$Stable" 99 yX2_isFarrierThere) ∈ wsG := gIn2 79 rfl rfl
theorem im_X2_isFarrierThere : (Cond.instanceMethod yX2_isFarrierThere) ∈ wsG := gIn2 80 rfl rfl
theorem sl_X2_isFarrierThere : (Cond.selects "LessonHorses$Stable" yX2_isFarrierThere yX2_isFarrierThere) ∈ wsG := gIn2 81 rfl rfl
theorem cd_X2_isFarrierThere : (Cond.code yX2_isFarrierThere prog_4_method_26_code 2 (Option.some FieldType.boolean)) ∈ wsG := gIn2 82 rfl rfl
theorem ml_X2_114 : (Cond.methodLink "LessonHorses$Stable" 114 yX2_giveLessons) ∈ wsG := gIn2 83 rfl rfl
theorem im_X2_giveLessons : (Cond.instanceMethod yX2_giveLessons) ∈ wsG := gIn2 85 rfl rfl
theorem cd_X2_giveLessons : (Cond.code yX2_giveLessons prog_4_method_32_code 5 (Option.some FieldType.int)) ∈ wsG := gIn2 86 rfl rfl
theorem ml_X2_123 : (Cond.methodLink "LessonHorses$Stable" 123 yX2_giveLesson) ∈ wsG := gIn2 87 rfl rfl
theorem im_X2_giveLesson : (Cond.instanceMethod yX2_giveLesson) ∈ wsG := gIn2 89 rfl rfl
theorem cd_X2_giveLesson : (Cond.code yX2_giveLesson prog_4_method_33_code 5 (Option.some FieldType.int)) ∈ wsG := gIn2 90 rfl rfl
theorem ml_X2_126 : (Cond.methodLink "LessonHorses$Stable" 126 yX2_bestHorse) ∈ wsG := gIn2 91 rfl rfl
theorem im_X2_bestHorse : (Cond.instanceMethod yX2_bestHorse) ∈ wsG := gIn2 92 rfl rfl
theorem sl_X2_bestHorse : (Cond.selects "LessonHorses$Stable" yX2_bestHorse yX2_bestHorse) ∈ wsG := gIn2 93 rfl rfl
theorem cd_X2_bestHorse : (Cond.code yX2_bestHorse prog_4_method_29_code 7 (Option.some FieldType.int)) ∈ wsG := gIn2 94 rfl rfl
theorem ml_X2_103 : (Cond.methodLink "LessonHorses$Stable" 103 yX2_hindrance) ∈ wsG := gIn2 95 rfl rfl
theorem im_X2_hindrance : (Cond.instanceMethod yX2_hindrance) ∈ wsG := gIn2 96 rfl rfl
theorem sl_X2_hindrance : (Cond.selects "LessonHorses$Stable" yX2_hindrance yX2_hindrance) ∈ wsG := gIn2 97 rfl rfl
theorem cd_X2_hindrance : (Cond.code yX2_hindrance prog_4_method_28_code 4 (Option.some FieldType.int)) ∈ wsG := gIn2 98 rfl rfl
theorem ml_X2_107 : (Cond.methodLink "LessonHorses$Stable" 107 yX2_isBetter) ∈ wsG := gIn2 99 rfl rfl
theorem im_X2_isBetter : (Cond.instanceMethod yX2_isBetter) ∈ wsG := gIn2 101 rfl rfl
theorem cd_X2_isBetter : (Cond.code yX2_isBetter prog_4_method_30_code 8 (Option.some FieldType.boolean)) ∈ wsG := gIn2 102 rfl rfl
theorem ml_X2_117 : (Cond.methodLink "LessonHorses$Stable" 117 yX3_add) ∈ wsG := gIn2 103 rfl rfl
theorem im_X3_add : (Cond.instanceMethod yX3_add) ∈ wsG := gIn2 104 rfl rfl
theorem sl_X3_add : (Cond.selects "LessonHorses$Table" yX3_add yX3_add) ∈ wsG := gIn2 105 rfl rfl
theorem cd_X3_add : (Cond.code yX3_add prog_5_method_4_code 4 (Option.none)) ∈ wsG := gIn2 106 rfl rfl
theorem ml_X2_129 : (Cond.methodLink "LessonHorses$Stable" 129 yX2_letFall) ∈ wsG := gIn2 107 rfl rfl
theorem im_X2_letFall : (Cond.instanceMethod yX2_letFall) ∈ wsG := gIn2 109 rfl rfl
theorem cd_X2_letFall : (Cond.code yX2_letFall prog_4_method_34_code 4 (Option.none)) ∈ wsG := gIn2 110 rfl rfl
theorem ml_X2_139 : (Cond.methodLink "LessonHorses$Stable" 139 yX3_addUpTo) ∈ wsG := gIn2 111 rfl rfl
theorem im_X3_addUpTo : (Cond.instanceMethod yX3_addUpTo) ∈ wsG := gIn2 112 rfl rfl
theorem sl_X3_addUpTo : (Cond.selects "LessonHorses$Table" yX3_addUpTo yX3_addUpTo) ∈ wsG := gIn2 113 rfl rfl
theorem cd_X3_addUpTo : (Cond.code yX3_addUpTo prog_5_method_6_code 4 (Option.none)) ∈ wsG := gIn2 114 rfl rfl
theorem ml_X3_30 : (Cond.methodLink "LessonHorses$Table" 30 yJ9_min_7cf53) ∈ wsG := gIn2 115 rfl rfl
theorem ml_X2_132 : (Cond.methodLink "LessonHorses$Stable" 132 yX2_letLearn) ∈ wsG := gIn2 116 rfl rfl
theorem im_X2_letLearn : (Cond.instanceMethod yX2_letLearn) ∈ wsG := gIn2 118 rfl rfl
theorem cd_X2_letLearn : (Cond.code yX2_letLearn prog_4_method_35_code 2 (Option.none)) ∈ wsG := gIn2 119 rfl rfl
theorem ml_X2_120 : (Cond.methodLink "LessonHorses$Stable" 120 yX3_takeAway) ∈ wsG := gIn2 120 rfl rfl
theorem im_X3_takeAway : (Cond.instanceMethod yX3_takeAway) ∈ wsG := gIn2 121 rfl rfl
theorem sl_X3_takeAway : (Cond.selects "LessonHorses$Table" yX3_takeAway yX3_takeAway) ∈ wsG := gIn2 122 rfl rfl
theorem cd_X3_takeAway : (Cond.code yX3_takeAway prog_5_method_5_code 4 (Option.none)) ∈ wsG := gIn2 123 rfl rfl
theorem ml_X3_25 : (Cond.methodLink "LessonHorses$Table" 25 yJ9_max_7cf53) ∈ wsG := gIn2 124 rfl rfl
theorem ml_X2_136 : (Cond.methodLink "LessonHorses$Stable" 136 yX2_strain) ∈ wsG := gIn2 125 rfl rfl
theorem im_X2_strain : (Cond.instanceMethod yX2_strain) ∈ wsG := gIn2 127 rfl rfl
theorem cd_X2_strain : (Cond.code yX2_strain prog_4_method_36_code 3 (Option.none)) ∈ wsG := gIn2 128 rfl rfl
theorem ml_L_40 : (Cond.methodLink "LessonHorsesLaw" 40 yX5_type) ∈ wsG := gIn2 129 rfl rfl
theorem im_X5_type : (Cond.instanceMethod yX5_type) ∈ wsG := gIn2 130 rfl rfl
theorem sl_X5_type : (Cond.selects "LessonHorses" yX5_type yX5_type) ∈ wsG := gIn2 131 rfl rfl
theorem cd_X5_type : (Cond.code yX5_type prog_1_method_8_code 2 (Option.some FieldType.int)) ∈ wsG := gIn2 132 rfl rfl
theorem ml_X5_125 : (Cond.methodLink "LessonHorses" 125 yX4_append) ∈ wsG := gIn2 133 rfl rfl
theorem im_X4_append : (Cond.instanceMethod yX4_append) ∈ wsG := gIn2 134 rfl rfl
theorem sl_X4_append : (Cond.selects "LessonHorses$Text" yX4_append yX4_append) ∈ wsG := gIn2 135 rfl rfl
theorem cd_X4_append : (Cond.code yX4_append prog_6_method_4_code 2 (Option.some FieldType.boolean)) ∈ wsG := gIn2 136 rfl rfl
theorem ml_X5_129 : (Cond.methodLink "LessonHorses" 129 yX4_length) ∈ wsG := gIn2 137 rfl rfl
theorem im_X4_length : (Cond.instanceMethod yX4_length) ∈ wsG := gIn2 138 rfl rfl
theorem sl_X4_length : (Cond.selects "LessonHorses$Text" yX4_length yX4_length) ∈ wsG := gIn2 139 rfl rfl
theorem cd_X4_length : (Cond.code yX4_length prog_6_method_2_code 1 (Option.some FieldType.int)) ∈ wsG := gIn2 140 rfl rfl
theorem ml_L_45 : (Cond.methodLink "LessonHorsesLaw" 45 yX5_clearText) ∈ wsG := gIn2 141 rfl rfl
theorem im_X5_clearText : (Cond.instanceMethod yX5_clearText) ∈ wsG := gIn2 142 rfl rfl
theorem sl_X5_clearText : (Cond.selects "LessonHorses" yX5_clearText yX5_clearText) ∈ wsG := gIn2 143 rfl rfl
theorem cd_X5_clearText : (Cond.code yX5_clearText prog_1_method_9_code 2 (Option.some FieldType.int)) ∈ wsG := gIn2 144 rfl rfl
theorem ml_X5_132 : (Cond.methodLink "LessonHorses" 132 yX4_empty) ∈ wsG := gIn2 145 rfl rfl
theorem im_X4_empty : (Cond.instanceMethod yX4_empty) ∈ wsG := gIn2 146 rfl rfl
theorem sl_X4_empty : (Cond.selects "LessonHorses$Text" yX4_empty yX4_empty) ∈ wsG := gIn2 147 rfl rfl
theorem cd_X4_empty : (Cond.code yX4_empty prog_6_method_5_code 1 (Option.none)) ∈ wsG := gIn2 148 rfl rfl
theorem ml_L_50 : (Cond.methodLink "LessonHorsesLaw" 50 yX5_bookPlan) ∈ wsG := gIn2 149 rfl rfl
theorem im_X5_bookPlan : (Cond.instanceMethod yX5_bookPlan) ∈ wsG := gIn2 150 rfl rfl
theorem sl_X5_bookPlan : (Cond.selects "LessonHorses" yX5_bookPlan yX5_bookPlan) ∈ wsG := gIn2 151 rfl rfl
theorem cd_X5_bookPlan : (Cond.code yX5_bookPlan prog_1_method_10_code 7 (Option.some FieldType.int)) ∈ wsG := gIn2 152 rfl rfl
theorem ml_X5_135 : (Cond.methodLink "LessonHorses" 135 yX1_read) ∈ wsG := gIn2 153 rfl rfl
theorem im_X1_read : (Cond.instanceMethod yX1_read) ∈ wsG := gIn2 154 rfl rfl
theorem sl_X1_read : (Cond.selects "LessonHorses$Plan" yX1_read yX1_read) ∈ wsG := gIn2 155 rfl rfl
theorem cd_X1_read : (Cond.code yX1_read prog_3_method_6_code 3 (Option.some FieldType.int)) ∈ wsG := gIn2 156 rfl rfl
theorem ml_X1_28 : (Cond.methodLink "LessonHorses$Plan" 28 yX1_moveTo) ∈ wsG := gIn2 157 rfl rfl
theorem im_X1_moveTo : (Cond.instanceMethod yX1_moveTo) ∈ wsG := gIn2 159 rfl rfl
theorem cd_X1_moveTo : (Cond.code yX1_moveTo prog_3_method_7_code 2 (Option.none)) ∈ wsG := gIn2 160 rfl rfl
theorem ml_X1_32 : (Cond.methodLink "LessonHorses$Plan" 32 yX4_length) ∈ wsG := gIn2 161 rfl rfl
theorem ml_X1_38 : (Cond.methodLink "LessonHorses$Plan" 38 yX4_characterAt) ∈ wsG := gIn2 162 rfl rfl
theorem im_X4_characterAt : (Cond.instanceMethod yX4_characterAt) ∈ wsG := gIn2 163 rfl rfl
theorem sl_X4_characterAt : (Cond.selects "LessonHorses$Text" yX4_characterAt yX4_characterAt) ∈ wsG := gIn2 164 rfl rfl
theorem cd_X4_characterAt : (Cond.code yX4_characterAt prog_6_method_3_code 2 (Option.some FieldType.char)) ∈ wsG := gIn2 165 rfl rfl
theorem ml_X1_42 : (Cond.methodLink "LessonHorses$Plan" 42 yX1_accepts) ∈ wsG := gIn2 166 rfl rfl
theorem im_X1_accepts : (Cond.instanceMethod yX1_accepts) ∈ wsG := gIn2 168 rfl rfl
theorem cd_X1_accepts : (Cond.code yX1_accepts prog_3_method_9_code 2 (Option.some FieldType.boolean)) ∈ wsG := gIn2 169 rfl rfl
theorem ml_X1_70 : (Cond.methodLink "LessonHorses$Plan" 70 yX1_acceptsDigit) ∈ wsG := gIn2 170 rfl rfl
theorem im_X1_acceptsDigit : (Cond.instanceMethod yX1_acceptsDigit) ∈ wsG := gIn2 172 rfl rfl
theorem cd_X1_acceptsDigit : (Cond.code yX1_acceptsDigit prog_3_method_10_code 3 (Option.some FieldType.boolean)) ∈ wsG := gIn2 173 rfl rfl
theorem fl_X1_81 : (Cond.fieldLink "LessonHorses$Plan" 81 "LessonHorses$Plan" "MOST_AT" "[I") ∈ wsG := gIn2 174 rfl rfl
theorem ls_X1_MOST_AT : (Cond.laysStatic "LessonHorses$Plan" "MOST_AT" "[I") ∈ lw_tbl := gTb2 (List.mem_of_getElem? (i := 175) rfl)
theorem mn_X1_85 : (Cond.methodLinkNest "LessonHorses$Plan" 85 yX5_entry "LessonHorses") ∈ lw_tbl := gTb2 (List.mem_of_getElem? (i := 176) rfl)
theorem ml_X1_74 : (Cond.methodLink "LessonHorses$Plan" 74 yX1_acceptsStart) ∈ wsG := gIn2 177 rfl rfl
theorem im_X1_acceptsStart : (Cond.instanceMethod yX1_acceptsStart) ∈ wsG := gIn2 179 rfl rfl
theorem cd_X1_acceptsStart : (Cond.code yX1_acceptsStart prog_3_method_11_code 1 (Option.some FieldType.boolean)) ∈ wsG := gIn2 180 rfl rfl
theorem ml_X1_78 : (Cond.methodLink "LessonHorses$Plan" 78 yX1_acceptsSignBehindNumber) ∈ wsG := gIn2 181 rfl rfl
theorem im_X1_acceptsSignBehindNumber : (Cond.instanceMethod yX1_acceptsSignBehindNumber) ∈ wsG := gIn2 183 rfl rfl
theorem cd_X1_acceptsSignBehindNumber : (Cond.code yX1_acceptsSignBehindNumber prog_3_method_12_code 2 (Option.some FieldType.boolean)) ∈ wsG := gIn2 184 rfl rfl
theorem ml_X1_52 : (Cond.methodLink "LessonHorses$Plan" 52 yX1_addEntry) ∈ wsG := gIn2 185 rfl rfl
theorem im_X1_addEntry : (Cond.instanceMethod yX1_addEntry) ∈ wsG := gIn2 187 rfl rfl
theorem cd_X1_addEntry : (Cond.code yX1_addEntry prog_3_method_8_code 1 (Option.none)) ∈ wsG := gIn2 188 rfl rfl
theorem ml_X1_58 : (Cond.methodLink "LessonHorses$Plan" 58 yX3_put) ∈ wsG := gIn2 189 rfl rfl
theorem ml_X1_65 : (Cond.methodLink "LessonHorses$Plan" 65 yJ9_min_7cf53) ∈ wsG := gIn2 190 rfl rfl
theorem ml_X5_139 : (Cond.methodLink "LessonHorses" 139 yX2_copyFrom) ∈ wsG := gIn2 191 rfl rfl
theorem ml_X5_142 : (Cond.methodLink "LessonHorses" 142 yX1_size) ∈ wsG := gIn2 192 rfl rfl
theorem im_X1_size : (Cond.instanceMethod yX1_size) ∈ wsG := gIn2 193 rfl rfl
theorem sl_X1_size : (Cond.selects "LessonHorses$Plan" yX1_size yX1_size) ∈ wsG := gIn2 194 rfl rfl
theorem cd_X1_size : (Cond.code yX1_size prog_3_method_2_code 1 (Option.some FieldType.int)) ∈ wsG := gIn2 195 rfl rfl
theorem ml_X5_145 : (Cond.methodLink "LessonHorses" 145 yX1_hoursAt) ∈ wsG := gIn2 196 rfl rfl
theorem im_X1_hoursAt : (Cond.instanceMethod yX1_hoursAt) ∈ wsG := gIn2 197 rfl rfl
theorem sl_X1_hoursAt : (Cond.selects "LessonHorses$Plan" yX1_hoursAt yX1_hoursAt) ∈ wsG := gIn2 198 rfl rfl
theorem cd_X1_hoursAt : (Cond.code yX1_hoursAt prog_3_method_3_code 2 (Option.some FieldType.int)) ∈ wsG := gIn2 199 rfl rfl
theorem ml_X1_24 : (Cond.methodLink "LessonHorses$Plan" 24 yX3_at) ∈ wsG := gIn2 200 rfl rfl
theorem ml_X5_148 : (Cond.methodLink "LessonHorses" 148 yX1_ringAt) ∈ wsG := gIn2 201 rfl rfl
theorem im_X1_ringAt : (Cond.instanceMethod yX1_ringAt) ∈ wsG := gIn2 202 rfl rfl
theorem sl_X1_ringAt : (Cond.selects "LessonHorses$Plan" yX1_ringAt yX1_ringAt) ∈ wsG := gIn2 203 rfl rfl
theorem cd_X1_ringAt : (Cond.code yX1_ringAt prog_3_method_4_code 2 (Option.some FieldType.int)) ∈ wsG := gIn2 204 rfl rfl
theorem ml_X5_151 : (Cond.methodLink "LessonHorses" 151 yX1_riderAt) ∈ wsG := gIn2 205 rfl rfl
theorem im_X1_riderAt : (Cond.instanceMethod yX1_riderAt) ∈ wsG := gIn2 206 rfl rfl
theorem sl_X1_riderAt : (Cond.selects "LessonHorses$Plan" yX1_riderAt yX1_riderAt) ∈ wsG := gIn2 207 rfl rfl
theorem cd_X1_riderAt : (Cond.code yX1_riderAt prog_3_method_5_code 2 (Option.some FieldType.int)) ∈ wsG := gIn2 208 rfl rfl
theorem ml_L_54 : (Cond.methodLink "LessonHorsesLaw" 54 yX5_undo) ∈ wsG := gIn2 209 rfl rfl
theorem im_X5_undo : (Cond.instanceMethod yX5_undo) ∈ wsG := gIn2 210 rfl rfl
theorem sl_X5_undo : (Cond.selects "LessonHorses" yX5_undo yX5_undo) ∈ wsG := gIn2 211 rfl rfl
theorem cd_X5_undo : (Cond.code yX5_undo prog_1_method_11_code 1 (Option.some FieldType.int)) ∈ wsG := gIn2 212 rfl rfl
theorem ml_X5_154 : (Cond.methodLink "LessonHorses" 154 yX0_size) ∈ wsG := gIn2 213 rfl rfl
theorem im_X0_size : (Cond.instanceMethod yX0_size) ∈ wsG := gIn2 214 rfl rfl
theorem sl_X0_size : (Cond.selects "LessonHorses$History" yX0_size yX0_size) ∈ wsG := gIn2 215 rfl rfl
theorem cd_X0_size : (Cond.code yX0_size prog_2_method_2_code 1 (Option.some FieldType.int)) ∈ wsG := gIn2 216 rfl rfl
theorem ml_X5_155 : (Cond.methodLink "LessonHorses" 155 yX0_takeBack) ∈ wsG := gIn2 217 rfl rfl
theorem im_X0_takeBack : (Cond.instanceMethod yX0_takeBack) ∈ wsG := gIn2 218 rfl rfl
theorem sl_X0_takeBack : (Cond.selects "LessonHorses$History" yX0_takeBack yX0_takeBack) ∈ wsG := gIn2 219 rfl rfl
theorem cd_X0_takeBack : (Cond.code yX0_takeBack prog_2_method_5_code 3 (Option.none)) ∈ wsG := gIn2 220 rfl rfl
theorem ml_X0_39 : (Cond.methodLink "LessonHorses$History" 39 yJ9_max_7cf53) ∈ wsG := gIn2 221 rfl rfl
theorem ml_L_58 : (Cond.methodLink "LessonHorsesLaw" 58 yX5_keep) ∈ wsG := gIn2 222 rfl rfl
theorem im_X5_keep : (Cond.instanceMethod yX5_keep) ∈ wsG := gIn2 223 rfl rfl
theorem sl_X5_keep : (Cond.selects "LessonHorses" yX5_keep yX5_keep) ∈ wsG := gIn2 224 rfl rfl
theorem cd_X5_keep : (Cond.code yX5_keep prog_1_method_12_code 1 (Option.some FieldType.int)) ∈ wsG := gIn2 225 rfl rfl
theorem ml_L_62 : (Cond.methodLink "LessonHorsesLaw" 62 yX5_restore) ∈ wsG := gIn2 226 rfl rfl
theorem im_X5_restore : (Cond.instanceMethod yX5_restore) ∈ wsG := gIn2 227 rfl rfl
theorem sl_X5_restore : (Cond.selects "LessonHorses" yX5_restore yX5_restore) ∈ wsG := gIn2 228 rfl rfl
theorem cd_X5_restore : (Cond.code yX5_restore prog_1_method_13_code 1 (Option.some FieldType.int)) ∈ wsG := gIn2 229 rfl rfl
theorem ml_L_66 : (Cond.methodLink "LessonHorsesLaw" 66 yX5_horse) ∈ wsG := gIn2 230 rfl rfl
theorem im_X5_horse : (Cond.instanceMethod yX5_horse) ∈ wsG := gIn2 231 rfl rfl
theorem sl_X5_horse : (Cond.selects "LessonHorses" yX5_horse yX5_horse) ∈ wsG := gIn2 232 rfl rfl
theorem cd_X5_horse : (Cond.code yX5_horse prog_1_method_14_code 3 (Option.some FieldType.int)) ∈ wsG := gIn2 233 rfl rfl
theorem ml_L_70 : (Cond.methodLink "LessonHorsesLaw" 70 yX5_rider) ∈ wsG := gIn2 234 rfl rfl
theorem im_X5_rider : (Cond.instanceMethod yX5_rider) ∈ wsG := gIn2 235 rfl rfl
theorem sl_X5_rider : (Cond.selects "LessonHorses" yX5_rider yX5_rider) ∈ wsG := gIn2 236 rfl rfl
theorem cd_X5_rider : (Cond.code yX5_rider prog_1_method_15_code 3 (Option.some FieldType.int)) ∈ wsG := gIn2 237 rfl rfl
theorem ml_L_74 : (Cond.methodLink "LessonHorsesLaw" 74 yX5_lesson) ∈ wsG := gIn2 238 rfl rfl
theorem im_X5_lesson : (Cond.instanceMethod yX5_lesson) ∈ wsG := gIn2 239 rfl rfl
theorem sl_X5_lesson : (Cond.selects "LessonHorses" yX5_lesson yX5_lesson) ∈ wsG := gIn3 0 rfl rfl
theorem cd_X5_lesson : (Cond.code yX5_lesson prog_1_method_16_code 5 (Option.some FieldType.int)) ∈ wsG := gIn3 1 rfl rfl
theorem ml_X5_162 : (Cond.methodLink "LessonHorses" 162 yX2_setOfRiders) ∈ wsG := gIn3 2 rfl rfl
theorem im_X2_setOfRiders : (Cond.instanceMethod yX2_setOfRiders) ∈ wsG := gIn3 3 rfl rfl
theorem sl_X2_setOfRiders : (Cond.selects "LessonHorses$Stable" yX2_setOfRiders yX2_setOfRiders) ∈ wsG := gIn3 4 rfl rfl
theorem cd_X2_setOfRiders : (Cond.code yX2_setOfRiders prog_4_method_21_code 5 (Option.some FieldType.int)) ∈ wsG := gIn3 5 rfl rfl
theorem fl_X5_165 : (Cond.fieldLink "LessonHorses" 165 "LessonHorses" "ROOM_OF_RING" "[I") ∈ wsG := gIn3 6 rfl rfl
theorem ml_L_78 : (Cond.methodLink "LessonHorsesLaw" 78 yX5_fall) ∈ wsG := gIn3 7 rfl rfl
theorem im_X5_fall : (Cond.instanceMethod yX5_fall) ∈ wsG := gIn3 8 rfl rfl
theorem sl_X5_fall : (Cond.selects "LessonHorses" yX5_fall yX5_fall) ∈ wsG := gIn3 9 rfl rfl
theorem cd_X5_fall : (Cond.code yX5_fall prog_1_method_17_code 3 (Option.some FieldType.int)) ∈ wsG := gIn3 10 rfl rfl
theorem ml_X5_168 : (Cond.methodLink "LessonHorses" 168 yX2_ofFall) ∈ wsG := gIn3 11 rfl rfl
theorem im_X2_ofFall : (Cond.instanceMethod yX2_ofFall) ∈ wsG := gIn3 12 rfl rfl
theorem sl_X2_ofFall : (Cond.selects "LessonHorses$Stable" yX2_ofFall yX2_ofFall) ∈ wsG := gIn3 13 rfl rfl
theorem cd_X2_ofFall : (Cond.code yX2_ofFall prog_4_method_38_code 3 (Option.some FieldType.int)) ∈ wsG := gIn3 14 rfl rfl
theorem ml_L_82 : (Cond.methodLink "LessonHorsesLaw" 82 yX5_reason) ∈ wsG := gIn3 15 rfl rfl
theorem im_X5_reason : (Cond.instanceMethod yX5_reason) ∈ wsG := gIn3 16 rfl rfl
theorem sl_X5_reason : (Cond.selects "LessonHorses" yX5_reason yX5_reason) ∈ wsG := gIn3 17 rfl rfl
theorem cd_X5_reason : (Cond.code yX5_reason prog_1_method_18_code 3 (Option.some FieldType.int)) ∈ wsG := gIn3 18 rfl rfl
theorem ml_X5_171 : (Cond.methodLink "LessonHorses" 171 yX2_farriersHorse) ∈ wsG := gIn3 19 rfl rfl
theorem ml_X5_174 : (Cond.methodLink "LessonHorses" 174 yX2_hindrance) ∈ wsG := gIn3 20 rfl rfl
theorem ml_L_86 : (Cond.methodLink "LessonHorsesLaw" 86 yX5_best) ∈ wsG := gIn3 21 rfl rfl
theorem im_X5_best : (Cond.instanceMethod yX5_best) ∈ wsG := gIn3 22 rfl rfl
theorem sl_X5_best : (Cond.selects "LessonHorses" yX5_best yX5_best) ∈ wsG := gIn3 23 rfl rfl
theorem cd_X5_best : (Cond.code yX5_best prog_1_method_19_code 2 (Option.some FieldType.int)) ∈ wsG := gIn3 24 rfl rfl
theorem ml_X5_177 : (Cond.methodLink "LessonHorses" 177 yX2_bestHorse) ∈ wsG := gIn3 25 rfl rfl
theorem ml_L_90 : (Cond.methodLink "LessonHorsesLaw" 90 yX5_takenIn) ∈ wsG := gIn3 26 rfl rfl
theorem im_X5_takenIn : (Cond.instanceMethod yX5_takenIn) ∈ wsG := gIn3 27 rfl rfl
theorem sl_X5_takenIn : (Cond.selects "LessonHorses" yX5_takenIn yX5_takenIn) ∈ wsG := gIn3 28 rfl rfl
theorem cd_X5_takenIn : (Cond.code yX5_takenIn prog_1_method_20_code 4 (Option.some FieldType.int)) ∈ wsG := gIn3 29 rfl rfl
theorem ml_L_94 : (Cond.methodLink "LessonHorsesLaw" 94 yX5_ifPassed) ∈ wsG := gIn3 30 rfl rfl
theorem im_X5_ifPassed : (Cond.instanceMethod yX5_ifPassed) ∈ wsG := gIn3 31 rfl rfl
theorem sl_X5_ifPassed : (Cond.selects "LessonHorses" yX5_ifPassed yX5_ifPassed) ∈ wsG := gIn3 32 rfl rfl
theorem cd_X5_ifPassed : (Cond.code yX5_ifPassed prog_1_method_21_code 4 (Option.some FieldType.int)) ∈ wsG := gIn3 33 rfl rfl
theorem ml_X5_180 : (Cond.methodLink "LessonHorses" 180 yX2_sumOfRiders) ∈ wsG := gIn3 34 rfl rfl
theorem im_X2_sumOfRiders : (Cond.instanceMethod yX2_sumOfRiders) ∈ wsG := gIn3 35 rfl rfl
theorem sl_X2_sumOfRiders : (Cond.selects "LessonHorses$Stable" yX2_sumOfRiders yX2_sumOfRiders) ∈ wsG := gIn3 36 rfl rfl
theorem cd_X2_sumOfRiders : (Cond.code yX2_sumOfRiders prog_4_method_12_code 2 (Option.some FieldType.int)) ∈ wsG := gIn3 37 rfl rfl
theorem ml_X5_183 : (Cond.methodLink "LessonHorses" 183 yX2_fallsSoFar) ∈ wsG := gIn3 38 rfl rfl
theorem im_X2_fallsSoFar : (Cond.instanceMethod yX2_fallsSoFar) ∈ wsG := gIn3 39 rfl rfl
theorem sl_X2_fallsSoFar : (Cond.selects "LessonHorses$Stable" yX2_fallsSoFar yX2_fallsSoFar) ∈ wsG := gIn3 40 rfl rfl
theorem cd_X2_fallsSoFar : (Cond.code yX2_fallsSoFar prog_4_method_37_code 1 (Option.some FieldType.int)) ∈ wsG := gIn3 41 rfl rfl
theorem ml_X5_186 : (Cond.methodLink "LessonHorses" 186 yX2_lameHorses) ∈ wsG := gIn3 42 rfl rfl
theorem im_X2_lameHorses : (Cond.instanceMethod yX2_lameHorses) ∈ wsG := gIn3 43 rfl rfl
theorem sl_X2_lameHorses : (Cond.selects "LessonHorses$Stable" yX2_lameHorses yX2_lameHorses) ∈ wsG := gIn3 44 rfl rfl
theorem cd_X2_lameHorses : (Cond.code yX2_lameHorses prog_4_method_9_code 3 (Option.some FieldType.int)) ∈ wsG := gIn3 45 rfl rfl
theorem ml_L_98 : (Cond.methodLink "LessonHorsesLaw" 98 yX5_busiest) ∈ wsG := gIn3 46 rfl rfl
theorem im_X5_busiest : (Cond.instanceMethod yX5_busiest) ∈ wsG := gIn3 47 rfl rfl
theorem sl_X5_busiest : (Cond.selects "LessonHorses" yX5_busiest yX5_busiest) ∈ wsG := gIn3 48 rfl rfl
theorem cd_X5_busiest : (Cond.code yX5_busiest prog_1_method_22_code 5 (Option.some FieldType.int)) ∈ wsG := gIn3 49 rfl rfl
theorem ml_X5_189 : (Cond.methodLink "LessonHorses" 189 yX2_bookedInAllRings) ∈ wsG := gIn3 50 rfl rfl
theorem im_X2_bookedInAllRings : (Cond.instanceMethod yX2_bookedInAllRings) ∈ wsG := gIn3 51 rfl rfl
theorem sl_X2_bookedInAllRings : (Cond.selects "LessonHorses$Stable" yX2_bookedInAllRings yX2_bookedInAllRings) ∈ wsG := gIn3 52 rfl rfl
theorem cd_X2_bookedInAllRings : (Cond.code yX2_bookedInAllRings prog_4_method_20_code 4 (Option.some FieldType.int)) ∈ wsG := gIn3 53 rfl rfl
theorem ml_L_102 : (Cond.methodLink "LessonHorsesLaw" 102 yX5_count) ∈ wsG := gIn3 54 rfl rfl
theorem im_X5_count : (Cond.instanceMethod yX5_count) ∈ wsG := gIn3 55 rfl rfl
theorem sl_X5_count : (Cond.selects "LessonHorses" yX5_count yX5_count) ∈ wsG := gIn3 56 rfl rfl
theorem cd_X5_count : (Cond.code yX5_count prog_1_method_23_code 2 (Option.some FieldType.int)) ∈ wsG := gIn3 57 rfl rfl
theorem ml_X5_192 : (Cond.methodLink "LessonHorses" 192 yX2_bookingsWaiting) ∈ wsG := gIn3 58 rfl rfl
theorem im_X2_bookingsWaiting : (Cond.instanceMethod yX2_bookingsWaiting) ∈ wsG := gIn3 59 rfl rfl
theorem sl_X2_bookingsWaiting : (Cond.selects "LessonHorses$Stable" yX2_bookingsWaiting yX2_bookingsWaiting) ∈ wsG := gIn3 60 rfl rfl
theorem cd_X2_bookingsWaiting : (Cond.code yX2_bookingsWaiting prog_4_method_14_code 1 (Option.some FieldType.int)) ∈ wsG := gIn3 61 rfl rfl
theorem ml_X5_195 : (Cond.methodLink "LessonHorses" 195 yX2_isFarrierThere) ∈ wsG := gIn3 62 rfl rfl
theorem cl_L_10 : (Cond.classLink "LessonHorsesLaw" 10 "LessonHorsesModel") ∈ wsG := gIn3 63 rfl rfl
theorem is_X6 : (Cond.instantiable "LessonHorsesModel" 14) ∈ wsG := gIn3 64 rfl rfl
theorem ml_L_12 : (Cond.methodLink "LessonHorsesLaw" 12 yX6_init) ∈ wsG := gIn3 65 rfl rfl
theorem im_X6_init : (Cond.instanceMethod yX6_init) ∈ wsG := gIn3 66 rfl rfl
theorem cd_X6_init : (Cond.code yX6_init prog_8_method_1_code 2 (Option.none)) ∈ wsG := gIn3 67 rfl rfl
theorem ml_X6_1 : (Cond.methodLink "LessonHorsesModel" 1 ⟨"java/lang/Object", "<init>", "()V"⟩) ∈ wsG := gIn3 68 rfl rfl
theorem ml_X6_31 : (Cond.methodLink "LessonHorsesModel" 31 yX6_of) ∈ wsG := gIn3 69 rfl rfl
theorem st_X6_of : (Cond.static yX6_of) ∈ wsG := gIn3 70 rfl rfl
theorem cd_X6_of : (Cond.code yX6_of prog_8_method_7_code 2 (Option.some FieldType.int)) ∈ wsG := gIn3 71 rfl rfl
theorem ml_X6_35 : (Cond.methodLink "LessonHorsesModel" 35 yX6_ofRider) ∈ wsG := gIn3 72 rfl rfl
theorem st_X6_ofRider : (Cond.static yX6_ofRider) ∈ wsG := gIn3 73 rfl rfl
theorem cd_X6_ofRider : (Cond.code yX6_ofRider prog_8_method_8_code 2 (Option.some FieldType.int)) ∈ wsG := gIn3 74 rfl rfl
theorem fl_X6_7 : (Cond.fieldLink "LessonHorsesModel" 7 "LessonHorsesModel" "s" "[I") ∈ wsG := gIn3 75 rfl rfl
theorem fl_X6_13 : (Cond.fieldLink "LessonHorsesModel" 13 "LessonHorsesModel" "aside" "[I") ∈ wsG := gIn3 76 rfl rfl
theorem fl_X6_16 : (Cond.fieldLink "LessonHorsesModel" 16 "LessonHorsesModel" "history" "[I") ∈ wsG := gIn3 77 rfl rfl
theorem fl_X6_42 : (Cond.fieldLink "LessonHorsesModel" 42 "LessonHorsesModel" "known" "I") ∈ wsG := gIn3 78 rfl rfl
theorem fl_X6_19 : (Cond.fieldLink "LessonHorsesModel" 19 "LessonHorsesModel" "snapshot" "[I") ∈ wsG := gIn3 79 rfl rfl
theorem fl_X6_175 : (Cond.fieldLink "LessonHorsesModel" 175 "LessonHorsesModel" "isKept" "Z") ∈ wsG := gIn3 80 rfl rfl
theorem fl_X6_22 : (Cond.fieldLink "LessonHorsesModel" 22 "LessonHorsesModel" "text" "[I") ∈ wsG := gIn3 81 rfl rfl
theorem fl_X6_136 : (Cond.fieldLink "LessonHorsesModel" 136 "LessonHorsesModel" "length" "I") ∈ wsG := gIn3 82 rfl rfl
theorem fl_X6_25 : (Cond.fieldLink "LessonHorsesModel" 25 "LessonHorsesModel" "isTaken" "[I") ∈ wsG := gIn3 83 rfl rfl
theorem fl_X6_28 : (Cond.fieldLink "LessonHorsesModel" 28 "LessonHorsesModel" "wasLame" "[I") ∈ wsG := gIn3 84 rfl rfl
theorem fl_X6_143 : (Cond.fieldLink "LessonHorsesModel" 143 "LessonHorsesModel" "spot" "I") ∈ wsG := gIn3 85 rfl rfl
theorem fl_X6_139 : (Cond.fieldLink "LessonHorsesModel" 139 "LessonHorsesModel" "isWrong" "Z") ∈ wsG := gIn3 86 rfl rfl
theorem fl_X6_152 : (Cond.fieldLink "LessonHorsesModel" 152 "LessonHorsesModel" "riders" "I") ∈ wsG := gIn3 87 rfl rfl
theorem fl_X6_155 : (Cond.fieldLink "LessonHorsesModel" 155 "LessonHorsesModel" "error" "I") ∈ wsG := gIn3 88 rfl rfl
theorem ly_X6_s : (Cond.laysFinal "LessonHorsesModel" "LessonHorsesModel" "s" "[I") ∈ wsG := gIn3 89 rfl rfl
theorem ly_X6_aside : (Cond.laysFinal "LessonHorsesModel" "LessonHorsesModel" "aside" "[I") ∈ wsG := gIn3 91 rfl rfl
theorem ly_X6_history : (Cond.laysFinal "LessonHorsesModel" "LessonHorsesModel" "history" "[I") ∈ wsG := gIn3 93 rfl rfl
theorem ly_X6_known : (Cond.lays "LessonHorsesModel" "LessonHorsesModel" "known" "I") ∈ wsG := gIn3 95 rfl rfl
theorem ly_X6_snapshot : (Cond.laysFinal "LessonHorsesModel" "LessonHorsesModel" "snapshot" "[I") ∈ wsG := gIn3 97 rfl rfl
theorem ly_X6_isKept : (Cond.lays "LessonHorsesModel" "LessonHorsesModel" "isKept" "Z") ∈ wsG := gIn3 99 rfl rfl
theorem ly_X6_text : (Cond.laysFinal "LessonHorsesModel" "LessonHorsesModel" "text" "[I") ∈ wsG := gIn3 101 rfl rfl
theorem ly_X6_length : (Cond.lays "LessonHorsesModel" "LessonHorsesModel" "length" "I") ∈ wsG := gIn3 103 rfl rfl
theorem ly_X6_isTaken : (Cond.laysFinal "LessonHorsesModel" "LessonHorsesModel" "isTaken" "[I") ∈ wsG := gIn3 105 rfl rfl
theorem ly_X6_wasLame : (Cond.laysFinal "LessonHorsesModel" "LessonHorsesModel" "wasLame" "[I") ∈ wsG := gIn3 107 rfl rfl
theorem ly_X6_spot : (Cond.lays "LessonHorsesModel" "LessonHorsesModel" "spot" "I") ∈ wsG := gIn3 109 rfl rfl
theorem ly_X6_isWrong : (Cond.lays "LessonHorsesModel" "LessonHorsesModel" "isWrong" "Z") ∈ wsG := gIn3 111 rfl rfl
theorem ly_X6_riders : (Cond.lays "LessonHorsesModel" "LessonHorsesModel" "riders" "I") ∈ wsG := gIn3 113 rfl rfl
theorem ly_X6_error : (Cond.lays "LessonHorsesModel" "LessonHorsesModel" "error" "I") ∈ wsG := gIn3 115 rfl rfl
theorem ml_L_17 : (Cond.methodLink "LessonHorsesLaw" 17 yX6_setHorse) ∈ wsG := gIn3 118 rfl rfl
theorem im_X6_setHorse : (Cond.instanceMethod yX6_setHorse) ∈ wsG := gIn3 119 rfl rfl
theorem sl_X6_setHorse : (Cond.selects "LessonHorsesModel" yX6_setHorse yX6_setHorse) ∈ wsG := gIn3 120 rfl rfl
theorem cd_X6_setHorse : (Cond.code yX6_setHorse prog_8_method_27_code 5 (Option.some FieldType.int)) ∈ wsG := gIn3 121 rfl rfl
theorem ml_X6_95 : (Cond.methodLink "LessonHorsesModel" 95 yX6_isHorse) ∈ wsG := gIn3 122 rfl rfl
theorem st_X6_isHorse : (Cond.static yX6_isHorse) ∈ wsG := gIn3 123 rfl rfl
theorem cd_X6_isHorse : (Cond.code yX6_isHorse prog_8_method_3_code 1 (Option.some FieldType.boolean)) ∈ wsG := gIn3 124 rfl rfl
theorem ml_X6_38 : (Cond.methodLink "LessonHorsesModel" 38 yX6_in) ∈ wsG := gIn3 125 rfl rfl
theorem st_X6_in : (Cond.static yX6_in) ∈ wsG := gIn3 126 rfl rfl
theorem cd_X6_in : (Cond.code yX6_in prog_8_method_2_code 3 (Option.some FieldType.boolean)) ∈ wsG := gIn3 127 rfl rfl
theorem ml_X6_99 : (Cond.methodLink "LessonHorsesModel" 99 yX6_record) ∈ wsG := gIn3 128 rfl rfl
theorem im_X6_record : (Cond.instanceMethod yX6_record) ∈ wsG := gIn3 130 rfl rfl
theorem cd_X6_record : (Cond.code yX6_record prog_8_method_10_code 2 (Option.none)) ∈ wsG := gIn3 131 rfl rfl
theorem ml_L_21 : (Cond.methodLink "LessonHorsesLaw" 21 yX6_setRider) ∈ wsG := gIn3 132 rfl rfl
theorem im_X6_setRider : (Cond.instanceMethod yX6_setRider) ∈ wsG := gIn3 133 rfl rfl
theorem sl_X6_setRider : (Cond.selects "LessonHorsesModel" yX6_setRider yX6_setRider) ∈ wsG := gIn3 134 rfl rfl
theorem cd_X6_setRider : (Cond.code yX6_setRider prog_8_method_28_code 5 (Option.some FieldType.int)) ∈ wsG := gIn3 135 rfl rfl
theorem ml_X6_102 : (Cond.methodLink "LessonHorsesModel" 102 yX6_isRider) ∈ wsG := gIn3 136 rfl rfl
theorem st_X6_isRider : (Cond.static yX6_isRider) ∈ wsG := gIn3 137 rfl rfl
theorem cd_X6_isRider : (Cond.code yX6_isRider prog_8_method_4_code 1 (Option.some FieldType.boolean)) ∈ wsG := gIn3 138 rfl rfl
theorem ml_L_26 : (Cond.methodLink "LessonHorsesLaw" 26 yX6_set) ∈ wsG := gIn3 139 rfl rfl
theorem im_X6_set : (Cond.instanceMethod yX6_set) ∈ wsG := gIn3 140 rfl rfl
theorem sl_X6_set : (Cond.selects "LessonHorsesModel" yX6_set yX6_set) ∈ wsG := gIn3 141 rfl rfl
theorem cd_X6_set : (Cond.code yX6_set prog_8_method_31_code 4 (Option.some FieldType.int)) ∈ wsG := gIn3 142 rfl rfl
theorem ml_X6_105 : (Cond.methodLink "LessonHorsesModel" 105 yX6_least) ∈ wsG := gIn3 143 rfl rfl
theorem st_X6_least : (Cond.static yX6_least) ∈ wsG := gIn3 144 rfl rfl
theorem cd_X6_least : (Cond.code yX6_least prog_8_method_29_code 1 (Option.some FieldType.int)) ∈ wsG := gIn3 145 rfl rfl
theorem ml_X6_108 : (Cond.methodLink "LessonHorsesModel" 108 yX6_most) ∈ wsG := gIn3 146 rfl rfl
theorem st_X6_most : (Cond.static yX6_most) ∈ wsG := gIn3 147 rfl rfl
theorem cd_X6_most : (Cond.code yX6_most prog_8_method_30_code 1 (Option.some FieldType.int)) ∈ wsG := gIn3 148 rfl rfl
theorem ml_L_30 : (Cond.methodLink "LessonHorsesLaw" 30 yX6_book) ∈ wsG := gIn3 149 rfl rfl
theorem im_X6_book : (Cond.instanceMethod yX6_book) ∈ wsG := gIn3 150 rfl rfl
theorem sl_X6_book : (Cond.selects "LessonHorsesModel" yX6_book yX6_book) ∈ wsG := gIn3 151 rfl rfl
theorem cd_X6_book : (Cond.code yX6_book prog_8_method_35_code 5 (Option.some FieldType.int)) ∈ wsG := gIn3 152 rfl rfl
theorem ml_X6_123 : (Cond.methodLink "LessonHorsesModel" 123 yX6_putAside) ∈ wsG := gIn3 153 rfl rfl
theorem im_X6_putAside : (Cond.instanceMethod yX6_putAside) ∈ wsG := gIn3 155 rfl rfl
theorem cd_X6_putAside : (Cond.code yX6_putAside prog_8_method_11_code 2 (Option.none)) ∈ wsG := gIn3 156 rfl rfl
theorem ml_X6_126 : (Cond.methodLink "LessonHorsesModel" 126 yX6_books) ∈ wsG := gIn3 157 rfl rfl
theorem im_X6_books : (Cond.instanceMethod yX6_books) ∈ wsG := gIn3 159 rfl rfl
theorem cd_X6_books : (Cond.code yX6_books prog_8_method_34_code 6 (Option.some FieldType.int)) ∈ wsG := gIn3 160 rfl rfl
theorem ml_X6_111 : (Cond.methodLink "LessonHorsesModel" 111 yX6_isRing) ∈ wsG := gIn3 161 rfl rfl
theorem st_X6_isRing : (Cond.static yX6_isRing) ∈ wsG := gIn3 162 rfl rfl
theorem cd_X6_isRing : (Cond.code yX6_isRing prog_8_method_5_code 1 (Option.some FieldType.boolean)) ∈ wsG := gIn3 163 rfl rfl
theorem ml_X6_114 : (Cond.methodLink "LessonHorsesModel" 114 yX6_isAhead) ∈ wsG := gIn3 164 rfl rfl
theorem st_X6_isAhead : (Cond.static yX6_isAhead) ∈ wsG := gIn3 165 rfl rfl
theorem cd_X6_isAhead : (Cond.code yX6_isAhead prog_8_method_6_code 1 (Option.some FieldType.boolean)) ∈ wsG := gIn3 166 rfl rfl
theorem ml_X6_117 : (Cond.methodLink "LessonHorsesModel" 117 yX6_bookingOf) ∈ wsG := gIn3 167 rfl rfl
theorem im_X6_bookingOf : (Cond.instanceMethod yX6_bookingOf) ∈ wsG := gIn3 169 rfl rfl
theorem cd_X6_bookingOf : (Cond.code yX6_bookingOf prog_8_method_32_code 6 (Option.some FieldType.int)) ∈ wsG := gIn3 170 rfl rfl
theorem ml_X6_75 : (Cond.methodLink "LessonHorsesModel" 75 yX6_ofBooking) ∈ wsG := gIn3 171 rfl rfl
theorem st_X6_ofBooking : (Cond.static yX6_ofBooking) ∈ wsG := gIn3 172 rfl rfl
theorem cd_X6_ofBooking : (Cond.code yX6_ofBooking prog_8_method_9_code 2 (Option.some FieldType.int)) ∈ wsG := gIn3 173 rfl rfl
theorem ml_X6_120 : (Cond.methodLink "LessonHorsesModel" 120 yX6_bookedFor) ∈ wsG := gIn3 174 rfl rfl
theorem im_X6_bookedFor : (Cond.instanceMethod yX6_bookedFor) ∈ wsG := gIn3 176 rfl rfl
theorem cd_X6_bookedFor : (Cond.code yX6_bookedFor prog_8_method_33_code 5 (Option.some FieldType.int)) ∈ wsG := gIn3 177 rfl rfl
theorem ml_X6_129 : (Cond.methodLink "LessonHorsesModel" 129 yX6_recordAside) ∈ wsG := gIn3 178 rfl rfl
theorem im_X6_recordAside : (Cond.instanceMethod yX6_recordAside) ∈ wsG := gIn3 180 rfl rfl
theorem cd_X6_recordAside : (Cond.code yX6_recordAside prog_8_method_36_code 2 (Option.none)) ∈ wsG := gIn3 181 rfl rfl
theorem ml_L_34 : (Cond.methodLink "LessonHorsesLaw" 34 yX6_cancel) ∈ wsG := gIn3 182 rfl rfl
theorem im_X6_cancel : (Cond.instanceMethod yX6_cancel) ∈ wsG := gIn3 183 rfl rfl
theorem sl_X6_cancel : (Cond.selects "LessonHorsesModel" yX6_cancel yX6_cancel) ∈ wsG := gIn3 184 rfl rfl
theorem cd_X6_cancel : (Cond.code yX6_cancel prog_8_method_37_code 6 (Option.some FieldType.int)) ∈ wsG := gIn3 185 rfl rfl
theorem ml_L_39 : (Cond.methodLink "LessonHorsesLaw" 39 yX6_pass) ∈ wsG := gIn3 186 rfl rfl
theorem im_X6_pass : (Cond.instanceMethod yX6_pass) ∈ wsG := gIn3 187 rfl rfl
theorem sl_X6_pass : (Cond.selects "LessonHorsesModel" yX6_pass yX6_pass) ∈ wsG := gIn3 188 rfl rfl
theorem cd_X6_pass : (Cond.code yX6_pass prog_8_method_38_code 4 (Option.some FieldType.int)) ∈ wsG := gIn3 189 rfl rfl
theorem ml_X6_132 : (Cond.methodLink "LessonHorsesModel" 132 yX6_hour) ∈ wsG := gIn3 190 rfl rfl
theorem im_X6_hour : (Cond.instanceMethod yX6_hour) ∈ wsG := gIn3 192 rfl rfl
theorem cd_X6_hour : (Cond.code yX6_hour prog_8_method_26_code 5 (Option.some FieldType.int)) ∈ wsG := gIn3 193 rfl rfl
theorem ml_X6_82 : (Cond.methodLink "LessonHorsesModel" 82 yX6_shodHorse) ∈ wsG := gIn3 194 rfl rfl
theorem im_X6_shodHorse : (Cond.instanceMethod yX6_shodHorse) ∈ wsG := gIn3 196 rfl rfl
theorem cd_X6_shodHorse : (Cond.code yX6_shodHorse prog_8_method_14_code 4 (Option.some FieldType.int)) ∈ wsG := gIn3 197 rfl rfl
theorem ml_X6_46 : (Cond.methodLink "LessonHorsesModel" 46 yX6_isFarrierThere) ∈ wsG := gIn3 198 rfl rfl
theorem im_X6_isFarrierThere : (Cond.instanceMethod yX6_isFarrierThere) ∈ wsG := gIn3 200 rfl rfl
theorem cd_X6_isFarrierThere : (Cond.code yX6_isFarrierThere prog_8_method_13_code 1 (Option.some FieldType.boolean)) ∈ wsG := gIn3 201 rfl rfl
theorem ml_X6_86 : (Cond.methodLink "LessonHorsesModel" 86 yX6_frees) ∈ wsG := gIn3 202 rfl rfl
theorem im_X6_frees : (Cond.instanceMethod yX6_frees) ∈ wsG := gIn3 204 rfl rfl
theorem cd_X6_frees : (Cond.code yX6_frees prog_8_method_19_code 2 (Option.none)) ∈ wsG := gIn3 205 rfl rfl
theorem ml_X6_89 : (Cond.methodLink "LessonHorsesModel" 89 yX6_gives) ∈ wsG := gIn3 206 rfl rfl
theorem im_X6_gives : (Cond.instanceMethod yX6_gives) ∈ wsG := gIn3 208 rfl rfl
theorem cd_X6_gives : (Cond.code yX6_gives prog_8_method_24_code 7 (Option.some FieldType.int)) ∈ wsG := gIn3 209 rfl rfl
theorem ml_X6_78 : (Cond.methodLink "LessonHorsesModel" 78 yX6_rides) ∈ wsG := gIn3 210 rfl rfl
theorem im_X6_rides : (Cond.instanceMethod yX6_rides) ∈ wsG := gIn3 212 rfl rfl
theorem cd_X6_rides : (Cond.code yX6_rides prog_8_method_23_code 4 (Option.some FieldType.boolean)) ∈ wsG := gIn3 213 rfl rfl
theorem ml_X6_61 : (Cond.methodLink "LessonHorsesModel" 61 yX6_bestFor) ∈ wsG := gIn3 214 rfl rfl
theorem im_X6_bestFor : (Cond.instanceMethod yX6_bestFor) ∈ wsG := gIn3 216 rfl rfl
theorem cd_X6_bestFor : (Cond.code yX6_bestFor prog_8_method_18_code 6 (Option.some FieldType.int)) ∈ wsG := gIn3 217 rfl rfl
theorem ml_X6_54 : (Cond.methodLink "LessonHorsesModel" 54 yX6_hindrance) ∈ wsG := gIn3 218 rfl rfl
theorem im_X6_hindrance : (Cond.instanceMethod yX6_hindrance) ∈ wsG := gIn3 220 rfl rfl
theorem cd_X6_hindrance : (Cond.code yX6_hindrance prog_8_method_15_code 4 (Option.some FieldType.int)) ∈ wsG := gIn3 221 rfl rfl
theorem ml_X6_58 : (Cond.methodLink "LessonHorsesModel" 58 yX6_isBetter) ∈ wsG := gIn3 222 rfl rfl
theorem im_X6_isBetter : (Cond.instanceMethod yX6_isBetter) ∈ wsG := gIn3 224 rfl rfl
theorem cd_X6_isBetter : (Cond.code yX6_isBetter prog_8_method_17_code 7 (Option.some FieldType.boolean)) ∈ wsG := gIn3 225 rfl rfl
theorem ml_X6_50 : (Cond.methodLink "LessonHorsesModel" 50 yX6_can) ∈ wsG := gIn3 226 rfl rfl
theorem im_X6_can : (Cond.instanceMethod yX6_can) ∈ wsG := gIn3 228 rfl rfl
theorem cd_X6_can : (Cond.code yX6_can prog_8_method_16_code 3 (Option.some FieldType.int)) ∈ wsG := gIn3 229 rfl rfl
theorem ml_X6_64 : (Cond.methodLink "LessonHorsesModel" 64 yX6_falls) ∈ wsG := gIn3 230 rfl rfl
theorem im_X6_falls : (Cond.instanceMethod yX6_falls) ∈ wsG := gIn3 232 rfl rfl
theorem cd_X6_falls : (Cond.code yX6_falls prog_8_method_20_code 4 (Option.none)) ∈ wsG := gIn3 233 rfl rfl
theorem ml_X6_68 : (Cond.methodLink "LessonHorsesModel" 68 yX6_learns) ∈ wsG := gIn3 234 rfl rfl
theorem im_X6_learns : (Cond.instanceMethod yX6_learns) ∈ wsG := gIn3 236 rfl rfl
theorem cd_X6_learns : (Cond.code yX6_learns prog_8_method_21_code 3 (Option.none)) ∈ wsG := gIn3 237 rfl rfl
theorem ml_X6_72 : (Cond.methodLink "LessonHorsesModel" 72 yX6_strains) ∈ wsG := gIn3 238 rfl rfl
theorem im_X6_strains : (Cond.instanceMethod yX6_strains) ∈ wsG := gIn4 0 rfl rfl
theorem cd_X6_strains : (Cond.code yX6_strains prog_8_method_22_code 2 (Option.none)) ∈ wsG := gIn4 1 rfl rfl
theorem ml_X6_92 : (Cond.methodLink "LessonHorsesModel" 92 yX6_rests) ∈ wsG := gIn4 2 rfl rfl
theorem im_X6_rests : (Cond.instanceMethod yX6_rests) ∈ wsG := gIn4 4 rfl rfl
theorem cd_X6_rests : (Cond.code yX6_rests prog_8_method_25_code 6 (Option.none)) ∈ wsG := gIn4 5 rfl rfl
theorem ml_L_44 : (Cond.methodLink "LessonHorsesLaw" 44 yX6_type) ∈ wsG := gIn4 6 rfl rfl
theorem im_X6_type : (Cond.instanceMethod yX6_type) ∈ wsG := gIn4 7 rfl rfl
theorem sl_X6_type : (Cond.selects "LessonHorsesModel" yX6_type yX6_type) ∈ wsG := gIn4 8 rfl rfl
theorem cd_X6_type : (Cond.code yX6_type prog_8_method_39_code 2 (Option.some FieldType.int)) ∈ wsG := gIn4 9 rfl rfl
theorem ml_L_49 : (Cond.methodLink "LessonHorsesLaw" 49 yX6_clearText) ∈ wsG := gIn4 10 rfl rfl
theorem im_X6_clearText : (Cond.instanceMethod yX6_clearText) ∈ wsG := gIn4 11 rfl rfl
theorem sl_X6_clearText : (Cond.selects "LessonHorsesModel" yX6_clearText yX6_clearText) ∈ wsG := gIn4 12 rfl rfl
theorem cd_X6_clearText : (Cond.code yX6_clearText prog_8_method_40_code 2 (Option.some FieldType.int)) ∈ wsG := gIn4 13 rfl rfl
theorem ml_L_53 : (Cond.methodLink "LessonHorsesLaw" 53 yX6_bookPlan) ∈ wsG := gIn4 14 rfl rfl
theorem im_X6_bookPlan : (Cond.instanceMethod yX6_bookPlan) ∈ wsG := gIn4 15 rfl rfl
theorem sl_X6_bookPlan : (Cond.selects "LessonHorsesModel" yX6_bookPlan yX6_bookPlan) ∈ wsG := gIn4 16 rfl rfl
theorem cd_X6_bookPlan : (Cond.code yX6_bookPlan prog_8_method_47_code 2 (Option.some FieldType.int)) ∈ wsG := gIn4 17 rfl rfl
theorem ml_X6_169 : (Cond.methodLink "LessonHorsesModel" 169 yX6_readsPlan) ∈ wsG := gIn4 18 rfl rfl
theorem im_X6_readsPlan : (Cond.instanceMethod yX6_readsPlan) ∈ wsG := gIn4 20 rfl rfl
theorem cd_X6_readsPlan : (Cond.code yX6_readsPlan prog_8_method_46_code 3 (Option.some FieldType.int)) ∈ wsG := gIn4 21 rfl rfl
theorem ml_X6_165 : (Cond.methodLink "LessonHorsesModel" 165 yX6_readsBooking) ∈ wsG := gIn4 22 rfl rfl
theorem im_X6_readsBooking : (Cond.instanceMethod yX6_readsBooking) ∈ wsG := gIn4 24 rfl rfl
theorem cd_X6_readsBooking : (Cond.code yX6_readsBooking prog_8_method_45_code 4 (Option.none)) ∈ wsG := gIn4 25 rfl rfl
theorem ml_X6_158 : (Cond.methodLink "LessonHorsesModel" 158 yX6_needs) ∈ wsG := gIn4 26 rfl rfl
theorem im_X6_needs : (Cond.instanceMethod yX6_needs) ∈ wsG := gIn4 28 rfl rfl
theorem cd_X6_needs : (Cond.code yX6_needs prog_8_method_42_code 3 (Option.none)) ∈ wsG := gIn4 29 rfl rfl
theorem ml_X6_146 : (Cond.methodLink "LessonHorsesModel" 146 yX6_isNext) ∈ wsG := gIn4 30 rfl rfl
theorem im_X6_isNext : (Cond.instanceMethod yX6_isNext) ∈ wsG := gIn4 32 rfl rfl
theorem cd_X6_isNext : (Cond.code yX6_isNext prog_8_method_41_code 3 (Option.some FieldType.boolean)) ∈ wsG := gIn4 33 rfl rfl
theorem ml_X6_149 : (Cond.methodLink "LessonHorsesModel" 149 yX6_number) ∈ wsG := gIn4 34 rfl rfl
theorem im_X6_number : (Cond.instanceMethod yX6_number) ∈ wsG := gIn4 36 rfl rfl
theorem cd_X6_number : (Cond.code yX6_number prog_8_method_43_code 3 (Option.some FieldType.int)) ∈ wsG := gIn4 37 rfl rfl
theorem ml_X6_161 : (Cond.methodLink "LessonHorsesModel" 161 yX6_reads) ∈ wsG := gIn4 38 rfl rfl
theorem im_X6_reads : (Cond.instanceMethod yX6_reads) ∈ wsG := gIn4 40 rfl rfl
theorem cd_X6_reads : (Cond.code yX6_reads prog_8_method_44_code 6 (Option.none)) ∈ wsG := gIn4 41 rfl rfl
theorem ml_X6_172 : (Cond.methodLink "LessonHorsesModel" 172 yX6_putBack) ∈ wsG := gIn4 42 rfl rfl
theorem im_X6_putBack : (Cond.instanceMethod yX6_putBack) ∈ wsG := gIn4 44 rfl rfl
theorem cd_X6_putBack : (Cond.code yX6_putBack prog_8_method_12_code 2 (Option.none)) ∈ wsG := gIn4 45 rfl rfl
theorem ml_L_57 : (Cond.methodLink "LessonHorsesLaw" 57 yX6_undo) ∈ wsG := gIn4 46 rfl rfl
theorem im_X6_undo : (Cond.instanceMethod yX6_undo) ∈ wsG := gIn4 47 rfl rfl
theorem sl_X6_undo : (Cond.selects "LessonHorsesModel" yX6_undo yX6_undo) ∈ wsG := gIn4 48 rfl rfl
theorem cd_X6_undo : (Cond.code yX6_undo prog_8_method_48_code 2 (Option.some FieldType.int)) ∈ wsG := gIn4 49 rfl rfl
theorem ml_L_61 : (Cond.methodLink "LessonHorsesLaw" 61 yX6_keep) ∈ wsG := gIn4 50 rfl rfl
theorem im_X6_keep : (Cond.instanceMethod yX6_keep) ∈ wsG := gIn4 51 rfl rfl
theorem sl_X6_keep : (Cond.selects "LessonHorsesModel" yX6_keep yX6_keep) ∈ wsG := gIn4 52 rfl rfl
theorem cd_X6_keep : (Cond.code yX6_keep prog_8_method_49_code 2 (Option.some FieldType.int)) ∈ wsG := gIn4 53 rfl rfl
theorem ml_L_65 : (Cond.methodLink "LessonHorsesLaw" 65 yX6_restore) ∈ wsG := gIn4 54 rfl rfl
theorem im_X6_restore : (Cond.instanceMethod yX6_restore) ∈ wsG := gIn4 55 rfl rfl
theorem sl_X6_restore : (Cond.selects "LessonHorsesModel" yX6_restore yX6_restore) ∈ wsG := gIn4 56 rfl rfl
theorem cd_X6_restore : (Cond.code yX6_restore prog_8_method_50_code 2 (Option.some FieldType.int)) ∈ wsG := gIn4 57 rfl rfl
theorem ml_L_69 : (Cond.methodLink "LessonHorsesLaw" 69 yX6_horse) ∈ wsG := gIn4 58 rfl rfl
theorem im_X6_horse : (Cond.instanceMethod yX6_horse) ∈ wsG := gIn4 59 rfl rfl
theorem sl_X6_horse : (Cond.selects "LessonHorsesModel" yX6_horse yX6_horse) ∈ wsG := gIn4 60 rfl rfl
theorem cd_X6_horse : (Cond.code yX6_horse prog_8_method_51_code 3 (Option.some FieldType.int)) ∈ wsG := gIn4 61 rfl rfl
theorem ml_L_73 : (Cond.methodLink "LessonHorsesLaw" 73 yX6_rider) ∈ wsG := gIn4 62 rfl rfl
theorem im_X6_rider : (Cond.instanceMethod yX6_rider) ∈ wsG := gIn4 63 rfl rfl
theorem sl_X6_rider : (Cond.selects "LessonHorsesModel" yX6_rider yX6_rider) ∈ wsG := gIn4 64 rfl rfl
theorem cd_X6_rider : (Cond.code yX6_rider prog_8_method_53_code 3 (Option.some FieldType.int)) ∈ wsG := gIn4 65 rfl rfl
theorem ml_X6_178 : (Cond.methodLink "LessonHorsesModel" 178 yX6_bookingsOf) ∈ wsG := gIn4 66 rfl rfl
theorem im_X6_bookingsOf : (Cond.instanceMethod yX6_bookingsOf) ∈ wsG := gIn4 68 rfl rfl
theorem cd_X6_bookingsOf : (Cond.code yX6_bookingsOf prog_8_method_52_code 4 (Option.some FieldType.int)) ∈ wsG := gIn4 69 rfl rfl
theorem ml_L_77 : (Cond.methodLink "LessonHorsesLaw" 77 yX6_lesson) ∈ wsG := gIn4 70 rfl rfl
theorem im_X6_lesson : (Cond.instanceMethod yX6_lesson) ∈ wsG := gIn4 71 rfl rfl
theorem sl_X6_lesson : (Cond.selects "LessonHorsesModel" yX6_lesson yX6_lesson) ∈ wsG := gIn4 72 rfl rfl
theorem cd_X6_lesson : (Cond.code yX6_lesson prog_8_method_55_code 6 (Option.some FieldType.int)) ∈ wsG := gIn4 73 rfl rfl
theorem ml_X6_181 : (Cond.methodLink "LessonHorsesModel" 181 yX6_ridersFor) ∈ wsG := gIn4 74 rfl rfl
theorem im_X6_ridersFor : (Cond.instanceMethod yX6_ridersFor) ∈ wsG := gIn4 76 rfl rfl
theorem cd_X6_ridersFor : (Cond.code yX6_ridersFor prog_8_method_54_code 6 (Option.some FieldType.int)) ∈ wsG := gIn4 77 rfl rfl
theorem ml_L_81 : (Cond.methodLink "LessonHorsesLaw" 81 yX6_fall) ∈ wsG := gIn4 78 rfl rfl
theorem im_X6_fall : (Cond.instanceMethod yX6_fall) ∈ wsG := gIn4 79 rfl rfl
theorem sl_X6_fall : (Cond.selects "LessonHorsesModel" yX6_fall yX6_fall) ∈ wsG := gIn4 80 rfl rfl
theorem cd_X6_fall : (Cond.code yX6_fall prog_8_method_56_code 3 (Option.some FieldType.int)) ∈ wsG := gIn4 81 rfl rfl
theorem ml_L_85 : (Cond.methodLink "LessonHorsesLaw" 85 yX6_reason) ∈ wsG := gIn4 82 rfl rfl
theorem im_X6_reason : (Cond.instanceMethod yX6_reason) ∈ wsG := gIn4 83 rfl rfl
theorem sl_X6_reason : (Cond.selects "LessonHorsesModel" yX6_reason yX6_reason) ∈ wsG := gIn4 84 rfl rfl
theorem cd_X6_reason : (Cond.code yX6_reason prog_8_method_57_code 3 (Option.some FieldType.int)) ∈ wsG := gIn4 85 rfl rfl
theorem ml_L_89 : (Cond.methodLink "LessonHorsesLaw" 89 yX6_best) ∈ wsG := gIn4 86 rfl rfl
theorem im_X6_best : (Cond.instanceMethod yX6_best) ∈ wsG := gIn4 87 rfl rfl
theorem sl_X6_best : (Cond.selects "LessonHorsesModel" yX6_best yX6_best) ∈ wsG := gIn4 88 rfl rfl
theorem cd_X6_best : (Cond.code yX6_best prog_8_method_58_code 2 (Option.some FieldType.int)) ∈ wsG := gIn4 89 rfl rfl
theorem ml_L_93 : (Cond.methodLink "LessonHorsesLaw" 93 yX6_takenIn) ∈ wsG := gIn4 90 rfl rfl
theorem im_X6_takenIn : (Cond.instanceMethod yX6_takenIn) ∈ wsG := gIn4 91 rfl rfl
theorem sl_X6_takenIn : (Cond.selects "LessonHorsesModel" yX6_takenIn yX6_takenIn) ∈ wsG := gIn4 92 rfl rfl
theorem cd_X6_takenIn : (Cond.code yX6_takenIn prog_8_method_59_code 5 (Option.some FieldType.int)) ∈ wsG := gIn4 93 rfl rfl
theorem ml_L_97 : (Cond.methodLink "LessonHorsesLaw" 97 yX6_ifPassed) ∈ wsG := gIn4 94 rfl rfl
theorem im_X6_ifPassed : (Cond.instanceMethod yX6_ifPassed) ∈ wsG := gIn4 95 rfl rfl
theorem sl_X6_ifPassed : (Cond.selects "LessonHorsesModel" yX6_ifPassed yX6_ifPassed) ∈ wsG := gIn4 96 rfl rfl
theorem cd_X6_ifPassed : (Cond.code yX6_ifPassed prog_8_method_61_code 7 (Option.some FieldType.int)) ∈ wsG := gIn4 97 rfl rfl
theorem ml_X6_184 : (Cond.methodLink "LessonHorsesModel" 184 yX6_lameHorses) ∈ wsG := gIn4 98 rfl rfl
theorem im_X6_lameHorses : (Cond.instanceMethod yX6_lameHorses) ∈ wsG := gIn4 100 rfl rfl
theorem cd_X6_lameHorses : (Cond.code yX6_lameHorses prog_8_method_60_code 3 (Option.some FieldType.int)) ∈ wsG := gIn4 101 rfl rfl
theorem ml_L_101 : (Cond.methodLink "LessonHorsesLaw" 101 yX6_busiest) ∈ wsG := gIn4 102 rfl rfl
theorem im_X6_busiest : (Cond.instanceMethod yX6_busiest) ∈ wsG := gIn4 103 rfl rfl
theorem sl_X6_busiest : (Cond.selects "LessonHorsesModel" yX6_busiest yX6_busiest) ∈ wsG := gIn4 104 rfl rfl
theorem cd_X6_busiest : (Cond.code yX6_busiest prog_8_method_62_code 6 (Option.some FieldType.int)) ∈ wsG := gIn4 105 rfl rfl
theorem ml_L_105 : (Cond.methodLink "LessonHorsesLaw" 105 yX6_count) ∈ wsG := gIn4 106 rfl rfl
theorem im_X6_count : (Cond.instanceMethod yX6_count) ∈ wsG := gIn4 107 rfl rfl
theorem sl_X6_count : (Cond.selects "LessonHorsesModel" yX6_count yX6_count) ∈ wsG := gIn4 108 rfl rfl
theorem cd_X6_count : (Cond.code yX6_count prog_8_method_64_code 2 (Option.some FieldType.int)) ∈ wsG := gIn4 109 rfl rfl
theorem ml_X6_187 : (Cond.methodLink "LessonHorsesModel" 187 yX6_tiredness) ∈ wsG := gIn4 110 rfl rfl
theorem im_X6_tiredness : (Cond.instanceMethod yX6_tiredness) ∈ wsG := gIn4 112 rfl rfl
theorem cd_X6_tiredness : (Cond.code yX6_tiredness prog_8_method_63_code 3 (Option.some FieldType.int)) ∈ wsG := gIn4 113 rfl rfl
theorem gPr {q : MethodName × Nat} (h : q ∈ lw_privs) (g : goodWord (Cond.selects q.1.cls q.1 q.1) = true) : (Cond.selects q.1.cls q.1 q.1) ∈ wsG := List.mem_filter.mpr ⟨List.mem_append_left _ (List.mem_map.mpr ⟨q, h, rfl⟩), g⟩
theorem sl_X0_stateAt : (Cond.selects "LessonHorses$History" yX0_stateAt yX0_stateAt) ∈ wsG := gPr (q := (yX0_stateAt, 3)) (show _ ∈ lw_privs_1 ++ (lw_privs_2 ++ lw_privs_3) from List.mem_append_left _ (List.mem_of_getElem? (i := 0) rfl)) rfl
theorem sl_X2_abilityOf : (Cond.selects "LessonHorses$Stable" yX2_abilityOf yX2_abilityOf) ∈ wsG := gPr (q := (yX2_abilityOf, 8)) (show _ ∈ lw_privs_1 ++ (lw_privs_2 ++ lw_privs_3) from List.mem_append_left _ (List.mem_of_getElem? (i := 1) rfl)) rfl
theorem sl_X2_bookingsOf : (Cond.selects "LessonHorses$Stable" yX2_bookingsOf yX2_bookingsOf) ∈ wsG := gPr (q := (yX2_bookingsOf, 8)) (show _ ∈ lw_privs_1 ++ (lw_privs_2 ++ lw_privs_3) from List.mem_append_left _ (List.mem_of_getElem? (i := 2) rfl)) rfl
theorem sl_X2_isBooked : (Cond.selects "LessonHorses$Stable" yX2_isBooked yX2_isBooked) ∈ wsG := gPr (q := (yX2_isBooked, 8)) (show _ ∈ lw_privs_1 ++ (lw_privs_2 ++ lw_privs_3) from List.mem_append_left _ (List.mem_of_getElem? (i := 3) rfl)) rfl
theorem sl_X2_isBooked_ : (Cond.selects "LessonHorses$Stable" yX2_isBooked_ yX2_isBooked_) ∈ wsG := gPr (q := (yX2_isBooked_, 8)) (show _ ∈ lw_privs_1 ++ (lw_privs_2 ++ lw_privs_3) from List.mem_append_left _ (List.mem_of_getElem? (i := 4) rfl)) rfl
theorem sl_X2_giveLessons : (Cond.selects "LessonHorses$Stable" yX2_giveLessons yX2_giveLessons) ∈ wsG := gPr (q := (yX2_giveLessons, 8)) (show _ ∈ lw_privs_1 ++ (lw_privs_2 ++ lw_privs_3) from List.mem_append_left _ (List.mem_of_getElem? (i := 5) rfl)) rfl
theorem sl_X2_giveLesson : (Cond.selects "LessonHorses$Stable" yX2_giveLesson yX2_giveLesson) ∈ wsG := gPr (q := (yX2_giveLesson, 8)) (show _ ∈ lw_privs_1 ++ (lw_privs_2 ++ lw_privs_3) from List.mem_append_left _ (List.mem_of_getElem? (i := 6) rfl)) rfl
theorem sl_X2_isBetter : (Cond.selects "LessonHorses$Stable" yX2_isBetter yX2_isBetter) ∈ wsG := gPr (q := (yX2_isBetter, 8)) (show _ ∈ lw_privs_1 ++ (lw_privs_2 ++ lw_privs_3) from List.mem_append_left _ (List.mem_of_getElem? (i := 7) rfl)) rfl
theorem sl_X2_letFall : (Cond.selects "LessonHorses$Stable" yX2_letFall yX2_letFall) ∈ wsG := gPr (q := (yX2_letFall, 8)) (show _ ∈ lw_privs_1 ++ (lw_privs_2 ++ lw_privs_3) from List.mem_append_left _ (List.mem_of_getElem? (i := 8) rfl)) rfl
theorem sl_X2_letLearn : (Cond.selects "LessonHorses$Stable" yX2_letLearn yX2_letLearn) ∈ wsG := gPr (q := (yX2_letLearn, 8)) (show _ ∈ lw_privs_1 ++ (lw_privs_2 ++ lw_privs_3) from List.mem_append_left _ (List.mem_of_getElem? (i := 9) rfl)) rfl
theorem sl_X2_strain : (Cond.selects "LessonHorses$Stable" yX2_strain yX2_strain) ∈ wsG := gPr (q := (yX2_strain, 8)) (show _ ∈ lw_privs_1 ++ (lw_privs_2 ++ lw_privs_3) from List.mem_append_left _ (List.mem_of_getElem? (i := 10) rfl)) rfl
theorem sl_X1_moveTo : (Cond.selects "LessonHorses$Plan" yX1_moveTo yX1_moveTo) ∈ wsG := gPr (q := (yX1_moveTo, 6)) (show _ ∈ lw_privs_1 ++ (lw_privs_2 ++ lw_privs_3) from List.mem_append_left _ (List.mem_of_getElem? (i := 11) rfl)) rfl
theorem sl_X1_accepts : (Cond.selects "LessonHorses$Plan" yX1_accepts yX1_accepts) ∈ wsG := gPr (q := (yX1_accepts, 6)) (show _ ∈ lw_privs_1 ++ (lw_privs_2 ++ lw_privs_3) from List.mem_append_left _ (List.mem_of_getElem? (i := 12) rfl)) rfl
theorem sl_X1_acceptsDigit : (Cond.selects "LessonHorses$Plan" yX1_acceptsDigit yX1_acceptsDigit) ∈ wsG := gPr (q := (yX1_acceptsDigit, 6)) (show _ ∈ lw_privs_1 ++ (lw_privs_2 ++ lw_privs_3) from List.mem_append_left _ (List.mem_of_getElem? (i := 13) rfl)) rfl
theorem sl_X1_acceptsStart : (Cond.selects "LessonHorses$Plan" yX1_acceptsStart yX1_acceptsStart) ∈ wsG := gPr (q := (yX1_acceptsStart, 6)) (show _ ∈ lw_privs_1 ++ (lw_privs_2 ++ lw_privs_3) from List.mem_append_left _ (List.mem_of_getElem? (i := 14) rfl)) rfl
theorem sl_X1_acceptsSignBehindNumber : (Cond.selects "LessonHorses$Plan" yX1_acceptsSignBehindNumber yX1_acceptsSignBehindNumber) ∈ wsG := gPr (q := (yX1_acceptsSignBehindNumber, 6)) (show _ ∈ lw_privs_1 ++ (lw_privs_2 ++ lw_privs_3) from List.mem_append_left _ (List.mem_of_getElem? (i := 15) rfl)) rfl
theorem sl_X1_addEntry : (Cond.selects "LessonHorses$Plan" yX1_addEntry yX1_addEntry) ∈ wsG := gPr (q := (yX1_addEntry, 6)) (show _ ∈ lw_privs_1 ++ (lw_privs_2 ++ lw_privs_3) from List.mem_append_right _ (List.mem_append_left _ (List.mem_of_getElem? (i := 0) rfl))) rfl
theorem sl_X6_record : (Cond.selects "LessonHorsesModel" yX6_record yX6_record) ∈ wsG := gPr (q := (yX6_record, 14)) (show _ ∈ lw_privs_1 ++ (lw_privs_2 ++ lw_privs_3) from List.mem_append_right _ (List.mem_append_left _ (List.mem_of_getElem? (i := 1) rfl))) rfl
theorem sl_X6_putAside : (Cond.selects "LessonHorsesModel" yX6_putAside yX6_putAside) ∈ wsG := gPr (q := (yX6_putAside, 14)) (show _ ∈ lw_privs_1 ++ (lw_privs_2 ++ lw_privs_3) from List.mem_append_right _ (List.mem_append_left _ (List.mem_of_getElem? (i := 2) rfl))) rfl
theorem sl_X6_books : (Cond.selects "LessonHorsesModel" yX6_books yX6_books) ∈ wsG := gPr (q := (yX6_books, 14)) (show _ ∈ lw_privs_1 ++ (lw_privs_2 ++ lw_privs_3) from List.mem_append_right _ (List.mem_append_left _ (List.mem_of_getElem? (i := 3) rfl))) rfl
theorem sl_X6_bookingOf : (Cond.selects "LessonHorsesModel" yX6_bookingOf yX6_bookingOf) ∈ wsG := gPr (q := (yX6_bookingOf, 14)) (show _ ∈ lw_privs_1 ++ (lw_privs_2 ++ lw_privs_3) from List.mem_append_right _ (List.mem_append_left _ (List.mem_of_getElem? (i := 4) rfl))) rfl
theorem sl_X6_bookedFor : (Cond.selects "LessonHorsesModel" yX6_bookedFor yX6_bookedFor) ∈ wsG := gPr (q := (yX6_bookedFor, 14)) (show _ ∈ lw_privs_1 ++ (lw_privs_2 ++ lw_privs_3) from List.mem_append_right _ (List.mem_append_left _ (List.mem_of_getElem? (i := 5) rfl))) rfl
theorem sl_X6_recordAside : (Cond.selects "LessonHorsesModel" yX6_recordAside yX6_recordAside) ∈ wsG := gPr (q := (yX6_recordAside, 14)) (show _ ∈ lw_privs_1 ++ (lw_privs_2 ++ lw_privs_3) from List.mem_append_right _ (List.mem_append_left _ (List.mem_of_getElem? (i := 6) rfl))) rfl
theorem sl_X6_hour : (Cond.selects "LessonHorsesModel" yX6_hour yX6_hour) ∈ wsG := gPr (q := (yX6_hour, 14)) (show _ ∈ lw_privs_1 ++ (lw_privs_2 ++ lw_privs_3) from List.mem_append_right _ (List.mem_append_left _ (List.mem_of_getElem? (i := 7) rfl))) rfl
theorem sl_X6_shodHorse : (Cond.selects "LessonHorsesModel" yX6_shodHorse yX6_shodHorse) ∈ wsG := gPr (q := (yX6_shodHorse, 14)) (show _ ∈ lw_privs_1 ++ (lw_privs_2 ++ lw_privs_3) from List.mem_append_right _ (List.mem_append_left _ (List.mem_of_getElem? (i := 8) rfl))) rfl
theorem sl_X6_isFarrierThere : (Cond.selects "LessonHorsesModel" yX6_isFarrierThere yX6_isFarrierThere) ∈ wsG := gPr (q := (yX6_isFarrierThere, 14)) (show _ ∈ lw_privs_1 ++ (lw_privs_2 ++ lw_privs_3) from List.mem_append_right _ (List.mem_append_left _ (List.mem_of_getElem? (i := 9) rfl))) rfl
theorem sl_X6_frees : (Cond.selects "LessonHorsesModel" yX6_frees yX6_frees) ∈ wsG := gPr (q := (yX6_frees, 14)) (show _ ∈ lw_privs_1 ++ (lw_privs_2 ++ lw_privs_3) from List.mem_append_right _ (List.mem_append_left _ (List.mem_of_getElem? (i := 10) rfl))) rfl
theorem sl_X6_gives : (Cond.selects "LessonHorsesModel" yX6_gives yX6_gives) ∈ wsG := gPr (q := (yX6_gives, 14)) (show _ ∈ lw_privs_1 ++ (lw_privs_2 ++ lw_privs_3) from List.mem_append_right _ (List.mem_append_left _ (List.mem_of_getElem? (i := 11) rfl))) rfl
theorem sl_X6_rides : (Cond.selects "LessonHorsesModel" yX6_rides yX6_rides) ∈ wsG := gPr (q := (yX6_rides, 14)) (show _ ∈ lw_privs_1 ++ (lw_privs_2 ++ lw_privs_3) from List.mem_append_right _ (List.mem_append_left _ (List.mem_of_getElem? (i := 12) rfl))) rfl
theorem sl_X6_bestFor : (Cond.selects "LessonHorsesModel" yX6_bestFor yX6_bestFor) ∈ wsG := gPr (q := (yX6_bestFor, 14)) (show _ ∈ lw_privs_1 ++ (lw_privs_2 ++ lw_privs_3) from List.mem_append_right _ (List.mem_append_left _ (List.mem_of_getElem? (i := 13) rfl))) rfl
theorem sl_X6_hindrance : (Cond.selects "LessonHorsesModel" yX6_hindrance yX6_hindrance) ∈ wsG := gPr (q := (yX6_hindrance, 14)) (show _ ∈ lw_privs_1 ++ (lw_privs_2 ++ lw_privs_3) from List.mem_append_right _ (List.mem_append_left _ (List.mem_of_getElem? (i := 14) rfl))) rfl
theorem sl_X6_isBetter : (Cond.selects "LessonHorsesModel" yX6_isBetter yX6_isBetter) ∈ wsG := gPr (q := (yX6_isBetter, 14)) (show _ ∈ lw_privs_1 ++ (lw_privs_2 ++ lw_privs_3) from List.mem_append_right _ (List.mem_append_left _ (List.mem_of_getElem? (i := 15) rfl))) rfl
theorem sl_X6_can : (Cond.selects "LessonHorsesModel" yX6_can yX6_can) ∈ wsG := gPr (q := (yX6_can, 14)) (show _ ∈ lw_privs_1 ++ (lw_privs_2 ++ lw_privs_3) from List.mem_append_right _ (List.mem_append_right _ (List.mem_of_getElem? (i := 0) rfl))) rfl
theorem sl_X6_falls : (Cond.selects "LessonHorsesModel" yX6_falls yX6_falls) ∈ wsG := gPr (q := (yX6_falls, 14)) (show _ ∈ lw_privs_1 ++ (lw_privs_2 ++ lw_privs_3) from List.mem_append_right _ (List.mem_append_right _ (List.mem_of_getElem? (i := 1) rfl))) rfl
theorem sl_X6_learns : (Cond.selects "LessonHorsesModel" yX6_learns yX6_learns) ∈ wsG := gPr (q := (yX6_learns, 14)) (show _ ∈ lw_privs_1 ++ (lw_privs_2 ++ lw_privs_3) from List.mem_append_right _ (List.mem_append_right _ (List.mem_of_getElem? (i := 2) rfl))) rfl
theorem sl_X6_strains : (Cond.selects "LessonHorsesModel" yX6_strains yX6_strains) ∈ wsG := gPr (q := (yX6_strains, 14)) (show _ ∈ lw_privs_1 ++ (lw_privs_2 ++ lw_privs_3) from List.mem_append_right _ (List.mem_append_right _ (List.mem_of_getElem? (i := 3) rfl))) rfl
theorem sl_X6_rests : (Cond.selects "LessonHorsesModel" yX6_rests yX6_rests) ∈ wsG := gPr (q := (yX6_rests, 14)) (show _ ∈ lw_privs_1 ++ (lw_privs_2 ++ lw_privs_3) from List.mem_append_right _ (List.mem_append_right _ (List.mem_of_getElem? (i := 4) rfl))) rfl
theorem sl_X6_readsPlan : (Cond.selects "LessonHorsesModel" yX6_readsPlan yX6_readsPlan) ∈ wsG := gPr (q := (yX6_readsPlan, 14)) (show _ ∈ lw_privs_1 ++ (lw_privs_2 ++ lw_privs_3) from List.mem_append_right _ (List.mem_append_right _ (List.mem_of_getElem? (i := 5) rfl))) rfl
theorem sl_X6_readsBooking : (Cond.selects "LessonHorsesModel" yX6_readsBooking yX6_readsBooking) ∈ wsG := gPr (q := (yX6_readsBooking, 14)) (show _ ∈ lw_privs_1 ++ (lw_privs_2 ++ lw_privs_3) from List.mem_append_right _ (List.mem_append_right _ (List.mem_of_getElem? (i := 6) rfl))) rfl
theorem sl_X6_needs : (Cond.selects "LessonHorsesModel" yX6_needs yX6_needs) ∈ wsG := gPr (q := (yX6_needs, 14)) (show _ ∈ lw_privs_1 ++ (lw_privs_2 ++ lw_privs_3) from List.mem_append_right _ (List.mem_append_right _ (List.mem_of_getElem? (i := 7) rfl))) rfl
theorem sl_X6_isNext : (Cond.selects "LessonHorsesModel" yX6_isNext yX6_isNext) ∈ wsG := gPr (q := (yX6_isNext, 14)) (show _ ∈ lw_privs_1 ++ (lw_privs_2 ++ lw_privs_3) from List.mem_append_right _ (List.mem_append_right _ (List.mem_of_getElem? (i := 8) rfl))) rfl
theorem sl_X6_number : (Cond.selects "LessonHorsesModel" yX6_number yX6_number) ∈ wsG := gPr (q := (yX6_number, 14)) (show _ ∈ lw_privs_1 ++ (lw_privs_2 ++ lw_privs_3) from List.mem_append_right _ (List.mem_append_right _ (List.mem_of_getElem? (i := 9) rfl))) rfl
theorem sl_X6_reads : (Cond.selects "LessonHorsesModel" yX6_reads yX6_reads) ∈ wsG := gPr (q := (yX6_reads, 14)) (show _ ∈ lw_privs_1 ++ (lw_privs_2 ++ lw_privs_3) from List.mem_append_right _ (List.mem_append_right _ (List.mem_of_getElem? (i := 10) rfl))) rfl
theorem sl_X6_putBack : (Cond.selects "LessonHorsesModel" yX6_putBack yX6_putBack) ∈ wsG := gPr (q := (yX6_putBack, 14)) (show _ ∈ lw_privs_1 ++ (lw_privs_2 ++ lw_privs_3) from List.mem_append_right _ (List.mem_append_right _ (List.mem_of_getElem? (i := 11) rfl))) rfl
theorem sl_X6_bookingsOf : (Cond.selects "LessonHorsesModel" yX6_bookingsOf yX6_bookingsOf) ∈ wsG := gPr (q := (yX6_bookingsOf, 14)) (show _ ∈ lw_privs_1 ++ (lw_privs_2 ++ lw_privs_3) from List.mem_append_right _ (List.mem_append_right _ (List.mem_of_getElem? (i := 12) rfl))) rfl
theorem sl_X6_ridersFor : (Cond.selects "LessonHorsesModel" yX6_ridersFor yX6_ridersFor) ∈ wsG := gPr (q := (yX6_ridersFor, 14)) (show _ ∈ lw_privs_1 ++ (lw_privs_2 ++ lw_privs_3) from List.mem_append_right _ (List.mem_append_right _ (List.mem_of_getElem? (i := 13) rfl))) rfl
theorem sl_X6_lameHorses : (Cond.selects "LessonHorsesModel" yX6_lameHorses yX6_lameHorses) ∈ wsG := gPr (q := (yX6_lameHorses, 14)) (show _ ∈ lw_privs_1 ++ (lw_privs_2 ++ lw_privs_3) from List.mem_append_right _ (List.mem_append_right _ (List.mem_of_getElem? (i := 14) rfl))) rfl
theorem sl_X6_tiredness : (Cond.selects "LessonHorsesModel" yX6_tiredness yX6_tiredness) ∈ wsG := gPr (q := (yX6_tiredness, 14)) (show _ ∈ lw_privs_1 ++ (lw_privs_2 ++ lw_privs_3) from List.mem_append_right _ (List.mem_append_right _ (List.mem_of_getElem? (i := 15) rfl))) rfl
theorem hd_X5_init : yX5_init.cls = RX5 ∧ yX5_init.cls ≠ "java/lang/invoke/MethodHandle" ∧ yX5_init.cls ≠ "java/lang/invoke/VarHandle" ∧ (parseMethodDescriptor yX5_init.desc).map (fun d => d.parameters.length) = some 0 := by decide +kernel
theorem hd_X5_best : yX5_best.cls = RX5 ∧ yX5_best.cls ≠ "java/lang/invoke/MethodHandle" ∧ yX5_best.cls ≠ "java/lang/invoke/VarHandle" ∧ (parseMethodDescriptor yX5_best.desc).map (fun d => d.parameters.length) = some 1 := by decide +kernel
theorem hd_X5_book : yX5_book.cls = RX5 ∧ yX5_book.cls ≠ "java/lang/invoke/MethodHandle" ∧ yX5_book.cls ≠ "java/lang/invoke/VarHandle" ∧ (parseMethodDescriptor yX5_book.desc).map (fun d => d.parameters.length) = some 3 := by decide +kernel
theorem hd_X5_bookPlan : yX5_bookPlan.cls = RX5 ∧ yX5_bookPlan.cls ≠ "java/lang/invoke/MethodHandle" ∧ yX5_bookPlan.cls ≠ "java/lang/invoke/VarHandle" ∧ (parseMethodDescriptor yX5_bookPlan.desc).map (fun d => d.parameters.length) = some 0 := by decide +kernel
theorem hd_X5_busiest : yX5_busiest.cls = RX5 ∧ yX5_busiest.cls ≠ "java/lang/invoke/MethodHandle" ∧ yX5_busiest.cls ≠ "java/lang/invoke/VarHandle" ∧ (parseMethodDescriptor yX5_busiest.desc).map (fun d => d.parameters.length) = some 0 := by decide +kernel
theorem hd_X5_cancel : yX5_cancel.cls = RX5 ∧ yX5_cancel.cls ≠ "java/lang/invoke/MethodHandle" ∧ yX5_cancel.cls ≠ "java/lang/invoke/VarHandle" ∧ (parseMethodDescriptor yX5_cancel.desc).map (fun d => d.parameters.length) = some 2 := by decide +kernel
theorem hd_X5_clearText : yX5_clearText.cls = RX5 ∧ yX5_clearText.cls ≠ "java/lang/invoke/MethodHandle" ∧ yX5_clearText.cls ≠ "java/lang/invoke/VarHandle" ∧ (parseMethodDescriptor yX5_clearText.desc).map (fun d => d.parameters.length) = some 0 := by decide +kernel
theorem hd_X5_count : yX5_count.cls = RX5 ∧ yX5_count.cls ≠ "java/lang/invoke/MethodHandle" ∧ yX5_count.cls ≠ "java/lang/invoke/VarHandle" ∧ (parseMethodDescriptor yX5_count.desc).map (fun d => d.parameters.length) = some 1 := by decide +kernel
theorem hd_X5_entry : yX5_entry.cls = RX5 ∧ yX5_entry.cls ≠ "java/lang/invoke/MethodHandle" ∧ yX5_entry.cls ≠ "java/lang/invoke/VarHandle" ∧ (parseMethodDescriptor yX5_entry.desc).map (fun d => d.parameters.length) = some 2 := by decide +kernel
theorem hd_X5_fall : yX5_fall.cls = RX5 ∧ yX5_fall.cls ≠ "java/lang/invoke/MethodHandle" ∧ yX5_fall.cls ≠ "java/lang/invoke/VarHandle" ∧ (parseMethodDescriptor yX5_fall.desc).map (fun d => d.parameters.length) = some 2 := by decide +kernel
theorem hd_X5_horse : yX5_horse.cls = RX5 ∧ yX5_horse.cls ≠ "java/lang/invoke/MethodHandle" ∧ yX5_horse.cls ≠ "java/lang/invoke/VarHandle" ∧ (parseMethodDescriptor yX5_horse.desc).map (fun d => d.parameters.length) = some 2 := by decide +kernel
theorem hd_X5_ifPassed : yX5_ifPassed.cls = RX5 ∧ yX5_ifPassed.cls ≠ "java/lang/invoke/MethodHandle" ∧ yX5_ifPassed.cls ≠ "java/lang/invoke/VarHandle" ∧ (parseMethodDescriptor yX5_ifPassed.desc).map (fun d => d.parameters.length) = some 2 := by decide +kernel
theorem hd_X5_isNoHorse : yX5_isNoHorse.cls = RX5 ∧ yX5_isNoHorse.cls ≠ "java/lang/invoke/MethodHandle" ∧ yX5_isNoHorse.cls ≠ "java/lang/invoke/VarHandle" ∧ (parseMethodDescriptor yX5_isNoHorse.desc).map (fun d => d.parameters.length) = some 1 := by decide +kernel
theorem hd_X5_isNoRider : yX5_isNoRider.cls = RX5 ∧ yX5_isNoRider.cls ≠ "java/lang/invoke/MethodHandle" ∧ yX5_isNoRider.cls ≠ "java/lang/invoke/VarHandle" ∧ (parseMethodDescriptor yX5_isNoRider.desc).map (fun d => d.parameters.length) = some 1 := by decide +kernel
theorem hd_X5_isNoRing : yX5_isNoRing.cls = RX5 ∧ yX5_isNoRing.cls ≠ "java/lang/invoke/MethodHandle" ∧ yX5_isNoRing.cls ≠ "java/lang/invoke/VarHandle" ∧ (parseMethodDescriptor yX5_isNoRing.desc).map (fun d => d.parameters.length) = some 1 := by decide +kernel
theorem hd_X5_isOutside : yX5_isOutside.cls = RX5 ∧ yX5_isOutside.cls ≠ "java/lang/invoke/MethodHandle" ∧ yX5_isOutside.cls ≠ "java/lang/invoke/VarHandle" ∧ (parseMethodDescriptor yX5_isOutside.desc).map (fun d => d.parameters.length) = some 3 := by decide +kernel
theorem hd_X5_keep : yX5_keep.cls = RX5 ∧ yX5_keep.cls ≠ "java/lang/invoke/MethodHandle" ∧ yX5_keep.cls ≠ "java/lang/invoke/VarHandle" ∧ (parseMethodDescriptor yX5_keep.desc).map (fun d => d.parameters.length) = some 0 := by decide +kernel
theorem hd_X5_lesson : yX5_lesson.cls = RX5 ∧ yX5_lesson.cls ≠ "java/lang/invoke/MethodHandle" ∧ yX5_lesson.cls ≠ "java/lang/invoke/VarHandle" ∧ (parseMethodDescriptor yX5_lesson.desc).map (fun d => d.parameters.length) = some 3 := by decide +kernel
theorem hd_X5_pass : yX5_pass.cls = RX5 ∧ yX5_pass.cls ≠ "java/lang/invoke/MethodHandle" ∧ yX5_pass.cls ≠ "java/lang/invoke/VarHandle" ∧ (parseMethodDescriptor yX5_pass.desc).map (fun d => d.parameters.length) = some 1 := by decide +kernel
theorem hd_X5_reason : yX5_reason.cls = RX5 ∧ yX5_reason.cls ≠ "java/lang/invoke/MethodHandle" ∧ yX5_reason.cls ≠ "java/lang/invoke/VarHandle" ∧ (parseMethodDescriptor yX5_reason.desc).map (fun d => d.parameters.length) = some 2 := by decide +kernel
theorem hd_X5_restore : yX5_restore.cls = RX5 ∧ yX5_restore.cls ≠ "java/lang/invoke/MethodHandle" ∧ yX5_restore.cls ≠ "java/lang/invoke/VarHandle" ∧ (parseMethodDescriptor yX5_restore.desc).map (fun d => d.parameters.length) = some 0 := by decide +kernel
theorem hd_X5_rider : yX5_rider.cls = RX5 ∧ yX5_rider.cls ≠ "java/lang/invoke/MethodHandle" ∧ yX5_rider.cls ≠ "java/lang/invoke/VarHandle" ∧ (parseMethodDescriptor yX5_rider.desc).map (fun d => d.parameters.length) = some 2 := by decide +kernel
theorem hd_X5_set : yX5_set.cls = RX5 ∧ yX5_set.cls ≠ "java/lang/invoke/MethodHandle" ∧ yX5_set.cls ≠ "java/lang/invoke/VarHandle" ∧ (parseMethodDescriptor yX5_set.desc).map (fun d => d.parameters.length) = some 2 := by decide +kernel
theorem hd_X5_setHorse : yX5_setHorse.cls = RX5 ∧ yX5_setHorse.cls ≠ "java/lang/invoke/MethodHandle" ∧ yX5_setHorse.cls ≠ "java/lang/invoke/VarHandle" ∧ (parseMethodDescriptor yX5_setHorse.desc).map (fun d => d.parameters.length) = some 3 := by decide +kernel
theorem hd_X5_setRider : yX5_setRider.cls = RX5 ∧ yX5_setRider.cls ≠ "java/lang/invoke/MethodHandle" ∧ yX5_setRider.cls ≠ "java/lang/invoke/VarHandle" ∧ (parseMethodDescriptor yX5_setRider.desc).map (fun d => d.parameters.length) = some 3 := by decide +kernel
theorem hd_X5_takenIn : yX5_takenIn.cls = RX5 ∧ yX5_takenIn.cls ≠ "java/lang/invoke/MethodHandle" ∧ yX5_takenIn.cls ≠ "java/lang/invoke/VarHandle" ∧ (parseMethodDescriptor yX5_takenIn.desc).map (fun d => d.parameters.length) = some 2 := by decide +kernel
theorem hd_X5_type : yX5_type.cls = RX5 ∧ yX5_type.cls ≠ "java/lang/invoke/MethodHandle" ∧ yX5_type.cls ≠ "java/lang/invoke/VarHandle" ∧ (parseMethodDescriptor yX5_type.desc).map (fun d => d.parameters.length) = some 1 := by decide +kernel
theorem hd_X5_undo : yX5_undo.cls = RX5 ∧ yX5_undo.cls ≠ "java/lang/invoke/MethodHandle" ∧ yX5_undo.cls ≠ "java/lang/invoke/VarHandle" ∧ (parseMethodDescriptor yX5_undo.desc).map (fun d => d.parameters.length) = some 0 := by decide +kernel
theorem hd_X0_init : yX0_init.cls = RX0 ∧ yX0_init.cls ≠ "java/lang/invoke/MethodHandle" ∧ yX0_init.cls ≠ "java/lang/invoke/VarHandle" ∧ (parseMethodDescriptor yX0_init.desc).map (fun d => d.parameters.length) = some 0 := by decide +kernel
theorem hd_X0_record : yX0_record.cls = RX0 ∧ yX0_record.cls ≠ "java/lang/invoke/MethodHandle" ∧ yX0_record.cls ≠ "java/lang/invoke/VarHandle" ∧ (parseMethodDescriptor yX0_record.desc).map (fun d => d.parameters.length) = some 1 := by decide +kernel
theorem hd_X0_size : yX0_size.cls = RX0 ∧ yX0_size.cls ≠ "java/lang/invoke/MethodHandle" ∧ yX0_size.cls ≠ "java/lang/invoke/VarHandle" ∧ (parseMethodDescriptor yX0_size.desc).map (fun d => d.parameters.length) = some 0 := by decide +kernel
theorem hd_X0_stateAt : yX0_stateAt.cls = RX0 ∧ yX0_stateAt.cls ≠ "java/lang/invoke/MethodHandle" ∧ yX0_stateAt.cls ≠ "java/lang/invoke/VarHandle" ∧ (parseMethodDescriptor yX0_stateAt.desc).map (fun d => d.parameters.length) = some 1 := by decide +kernel
theorem hd_X0_takeBack : yX0_takeBack.cls = RX0 ∧ yX0_takeBack.cls ≠ "java/lang/invoke/MethodHandle" ∧ yX0_takeBack.cls ≠ "java/lang/invoke/VarHandle" ∧ (parseMethodDescriptor yX0_takeBack.desc).map (fun d => d.parameters.length) = some 1 := by decide +kernel
theorem hd_X1_init : yX1_init.cls = RX1 ∧ yX1_init.cls ≠ "java/lang/invoke/MethodHandle" ∧ yX1_init.cls ≠ "java/lang/invoke/VarHandle" ∧ (parseMethodDescriptor yX1_init.desc).map (fun d => d.parameters.length) = some 0 := by decide +kernel
theorem hd_X1_accepts : yX1_accepts.cls = RX1 ∧ yX1_accepts.cls ≠ "java/lang/invoke/MethodHandle" ∧ yX1_accepts.cls ≠ "java/lang/invoke/VarHandle" ∧ (parseMethodDescriptor yX1_accepts.desc).map (fun d => d.parameters.length) = some 1 := by decide +kernel
theorem hd_X1_acceptsDigit : yX1_acceptsDigit.cls = RX1 ∧ yX1_acceptsDigit.cls ≠ "java/lang/invoke/MethodHandle" ∧ yX1_acceptsDigit.cls ≠ "java/lang/invoke/VarHandle" ∧ (parseMethodDescriptor yX1_acceptsDigit.desc).map (fun d => d.parameters.length) = some 1 := by decide +kernel
theorem hd_X1_acceptsSignBehindNumber : yX1_acceptsSignBehindNumber.cls = RX1 ∧ yX1_acceptsSignBehindNumber.cls ≠ "java/lang/invoke/MethodHandle" ∧ yX1_acceptsSignBehindNumber.cls ≠ "java/lang/invoke/VarHandle" ∧ (parseMethodDescriptor yX1_acceptsSignBehindNumber.desc).map (fun d => d.parameters.length) = some 1 := by decide +kernel
theorem hd_X1_acceptsStart : yX1_acceptsStart.cls = RX1 ∧ yX1_acceptsStart.cls ≠ "java/lang/invoke/MethodHandle" ∧ yX1_acceptsStart.cls ≠ "java/lang/invoke/VarHandle" ∧ (parseMethodDescriptor yX1_acceptsStart.desc).map (fun d => d.parameters.length) = some 0 := by decide +kernel
theorem hd_X1_addEntry : yX1_addEntry.cls = RX1 ∧ yX1_addEntry.cls ≠ "java/lang/invoke/MethodHandle" ∧ yX1_addEntry.cls ≠ "java/lang/invoke/VarHandle" ∧ (parseMethodDescriptor yX1_addEntry.desc).map (fun d => d.parameters.length) = some 0 := by decide +kernel
theorem hd_X1_hoursAt : yX1_hoursAt.cls = RX1 ∧ yX1_hoursAt.cls ≠ "java/lang/invoke/MethodHandle" ∧ yX1_hoursAt.cls ≠ "java/lang/invoke/VarHandle" ∧ (parseMethodDescriptor yX1_hoursAt.desc).map (fun d => d.parameters.length) = some 1 := by decide +kernel
theorem hd_X1_moveTo : yX1_moveTo.cls = RX1 ∧ yX1_moveTo.cls ≠ "java/lang/invoke/MethodHandle" ∧ yX1_moveTo.cls ≠ "java/lang/invoke/VarHandle" ∧ (parseMethodDescriptor yX1_moveTo.desc).map (fun d => d.parameters.length) = some 1 := by decide +kernel
theorem hd_X1_read : yX1_read.cls = RX1 ∧ yX1_read.cls ≠ "java/lang/invoke/MethodHandle" ∧ yX1_read.cls ≠ "java/lang/invoke/VarHandle" ∧ (parseMethodDescriptor yX1_read.desc).map (fun d => d.parameters.length) = some 1 := by decide +kernel
theorem hd_X1_riderAt : yX1_riderAt.cls = RX1 ∧ yX1_riderAt.cls ≠ "java/lang/invoke/MethodHandle" ∧ yX1_riderAt.cls ≠ "java/lang/invoke/VarHandle" ∧ (parseMethodDescriptor yX1_riderAt.desc).map (fun d => d.parameters.length) = some 1 := by decide +kernel
theorem hd_X1_ringAt : yX1_ringAt.cls = RX1 ∧ yX1_ringAt.cls ≠ "java/lang/invoke/MethodHandle" ∧ yX1_ringAt.cls ≠ "java/lang/invoke/VarHandle" ∧ (parseMethodDescriptor yX1_ringAt.desc).map (fun d => d.parameters.length) = some 1 := by decide +kernel
theorem hd_X1_size : yX1_size.cls = RX1 ∧ yX1_size.cls ≠ "java/lang/invoke/MethodHandle" ∧ yX1_size.cls ≠ "java/lang/invoke/VarHandle" ∧ (parseMethodDescriptor yX1_size.desc).map (fun d => d.parameters.length) = some 0 := by decide +kernel
theorem hd_X2_init : yX2_init.cls = RX2 ∧ yX2_init.cls ≠ "java/lang/invoke/MethodHandle" ∧ yX2_init.cls ≠ "java/lang/invoke/VarHandle" ∧ (parseMethodDescriptor yX2_init.desc).map (fun d => d.parameters.length) = some 0 := by decide +kernel
theorem hd_X2_abilityOf : yX2_abilityOf.cls = RX2 ∧ yX2_abilityOf.cls ≠ "java/lang/invoke/MethodHandle" ∧ yX2_abilityOf.cls ≠ "java/lang/invoke/VarHandle" ∧ (parseMethodDescriptor yX2_abilityOf.desc).map (fun d => d.parameters.length) = some 1 := by decide +kernel
theorem hd_X2_addBooking : yX2_addBooking.cls = RX2 ∧ yX2_addBooking.cls ≠ "java/lang/invoke/MethodHandle" ∧ yX2_addBooking.cls ≠ "java/lang/invoke/VarHandle" ∧ (parseMethodDescriptor yX2_addBooking.desc).map (fun d => d.parameters.length) = some 3 := by decide +kernel
theorem hd_X2_bestHorse : yX2_bestHorse.cls = RX2 ∧ yX2_bestHorse.cls ≠ "java/lang/invoke/MethodHandle" ∧ yX2_bestHorse.cls ≠ "java/lang/invoke/VarHandle" ∧ (parseMethodDescriptor yX2_bestHorse.desc).map (fun d => d.parameters.length) = some 3 := by decide +kernel
theorem hd_X2_bookedFor : yX2_bookedFor.cls = RX2 ∧ yX2_bookedFor.cls ≠ "java/lang/invoke/MethodHandle" ∧ yX2_bookedFor.cls ≠ "java/lang/invoke/VarHandle" ∧ (parseMethodDescriptor yX2_bookedFor.desc).map (fun d => d.parameters.length) = some 2 := by decide +kernel
theorem hd_X2_bookedInAllRings : yX2_bookedInAllRings.cls = RX2 ∧ yX2_bookedInAllRings.cls ≠ "java/lang/invoke/MethodHandle" ∧ yX2_bookedInAllRings.cls ≠ "java/lang/invoke/VarHandle" ∧ (parseMethodDescriptor yX2_bookedInAllRings.desc).map (fun d => d.parameters.length) = some 1 := by decide +kernel
theorem hd_X2_bookingError : yX2_bookingError.cls = RX2 ∧ yX2_bookingError.cls ≠ "java/lang/invoke/MethodHandle" ∧ yX2_bookingError.cls ≠ "java/lang/invoke/VarHandle" ∧ (parseMethodDescriptor yX2_bookingError.desc).map (fun d => d.parameters.length) = some 3 := by decide +kernel
theorem hd_X2_bookingsOf : yX2_bookingsOf.cls = RX2 ∧ yX2_bookingsOf.cls ≠ "java/lang/invoke/MethodHandle" ∧ yX2_bookingsOf.cls ≠ "java/lang/invoke/VarHandle" ∧ (parseMethodDescriptor yX2_bookingsOf.desc).map (fun d => d.parameters.length) = some 1 := by decide +kernel
theorem hd_X2_bookingsWaiting : yX2_bookingsWaiting.cls = RX2 ∧ yX2_bookingsWaiting.cls ≠ "java/lang/invoke/MethodHandle" ∧ yX2_bookingsWaiting.cls ≠ "java/lang/invoke/VarHandle" ∧ (parseMethodDescriptor yX2_bookingsWaiting.desc).map (fun d => d.parameters.length) = some 0 := by decide +kernel
theorem hd_X2_changeHorse : yX2_changeHorse.cls = RX2 ∧ yX2_changeHorse.cls ≠ "java/lang/invoke/MethodHandle" ∧ yX2_changeHorse.cls ≠ "java/lang/invoke/VarHandle" ∧ (parseMethodDescriptor yX2_changeHorse.desc).map (fun d => d.parameters.length) = some 3 := by decide +kernel
theorem hd_X2_changeRider : yX2_changeRider.cls = RX2 ∧ yX2_changeRider.cls ≠ "java/lang/invoke/MethodHandle" ∧ yX2_changeRider.cls ≠ "java/lang/invoke/VarHandle" ∧ (parseMethodDescriptor yX2_changeRider.desc).map (fun d => d.parameters.length) = some 3 := by decide +kernel
theorem hd_X2_changeSetting : yX2_changeSetting.cls = RX2 ∧ yX2_changeSetting.cls ≠ "java/lang/invoke/MethodHandle" ∧ yX2_changeSetting.cls ≠ "java/lang/invoke/VarHandle" ∧ (parseMethodDescriptor yX2_changeSetting.desc).map (fun d => d.parameters.length) = some 2 := by decide +kernel
theorem hd_X2_copyFrom : yX2_copyFrom.cls = RX2 ∧ yX2_copyFrom.cls ≠ "java/lang/invoke/MethodHandle" ∧ yX2_copyFrom.cls ≠ "java/lang/invoke/VarHandle" ∧ (parseMethodDescriptor yX2_copyFrom.desc).map (fun d => d.parameters.length) = some 1 := by decide +kernel
theorem hd_X2_fallsSoFar : yX2_fallsSoFar.cls = RX2 ∧ yX2_fallsSoFar.cls ≠ "java/lang/invoke/MethodHandle" ∧ yX2_fallsSoFar.cls ≠ "java/lang/invoke/VarHandle" ∧ (parseMethodDescriptor yX2_fallsSoFar.desc).map (fun d => d.parameters.length) = some 0 := by decide +kernel
theorem hd_X2_farriersHorse : yX2_farriersHorse.cls = RX2 ∧ yX2_farriersHorse.cls ≠ "java/lang/invoke/MethodHandle" ∧ yX2_farriersHorse.cls ≠ "java/lang/invoke/VarHandle" ∧ (parseMethodDescriptor yX2_farriersHorse.desc).map (fun d => d.parameters.length) = some 0 := by decide +kernel
theorem hd_X2_findBooking : yX2_findBooking.cls = RX2 ∧ yX2_findBooking.cls ≠ "java/lang/invoke/MethodHandle" ∧ yX2_findBooking.cls ≠ "java/lang/invoke/VarHandle" ∧ (parseMethodDescriptor yX2_findBooking.desc).map (fun d => d.parameters.length) = some 2 := by decide +kernel
theorem hd_X2_giveLesson : yX2_giveLesson.cls = RX2 ∧ yX2_giveLesson.cls ≠ "java/lang/invoke/MethodHandle" ∧ yX2_giveLesson.cls ≠ "java/lang/invoke/VarHandle" ∧ (parseMethodDescriptor yX2_giveLesson.desc).map (fun d => d.parameters.length) = some 3 := by decide +kernel
theorem hd_X2_giveLessons : yX2_giveLessons.cls = RX2 ∧ yX2_giveLessons.cls ≠ "java/lang/invoke/MethodHandle" ∧ yX2_giveLessons.cls ≠ "java/lang/invoke/VarHandle" ∧ (parseMethodDescriptor yX2_giveLessons.desc).map (fun d => d.parameters.length) = some 1 := by decide +kernel
theorem hd_X2_hindrance : yX2_hindrance.cls = RX2 ∧ yX2_hindrance.cls ≠ "java/lang/invoke/MethodHandle" ∧ yX2_hindrance.cls ≠ "java/lang/invoke/VarHandle" ∧ (parseMethodDescriptor yX2_hindrance.desc).map (fun d => d.parameters.length) = some 3 := by decide +kernel
theorem hd_X2_isBetter : yX2_isBetter.cls = RX2 ∧ yX2_isBetter.cls ≠ "java/lang/invoke/MethodHandle" ∧ yX2_isBetter.cls ≠ "java/lang/invoke/VarHandle" ∧ (parseMethodDescriptor yX2_isBetter.desc).map (fun d => d.parameters.length) = some 3 := by decide +kernel
theorem hd_X2_isBooked : yX2_isBooked.cls = RX2 ∧ yX2_isBooked.cls ≠ "java/lang/invoke/MethodHandle" ∧ yX2_isBooked.cls ≠ "java/lang/invoke/VarHandle" ∧ (parseMethodDescriptor yX2_isBooked.desc).map (fun d => d.parameters.length) = some 2 := by decide +kernel
theorem hd_X2_isBooked_ : yX2_isBooked_.cls = RX2 ∧ yX2_isBooked_.cls ≠ "java/lang/invoke/MethodHandle" ∧ yX2_isBooked_.cls ≠ "java/lang/invoke/VarHandle" ∧ (parseMethodDescriptor yX2_isBooked_.desc).map (fun d => d.parameters.length) = some 3 := by decide +kernel
theorem hd_X2_isFarrierThere : yX2_isFarrierThere.cls = RX2 ∧ yX2_isFarrierThere.cls ≠ "java/lang/invoke/MethodHandle" ∧ yX2_isFarrierThere.cls ≠ "java/lang/invoke/VarHandle" ∧ (parseMethodDescriptor yX2_isFarrierThere.desc).map (fun d => d.parameters.length) = some 0 := by decide +kernel
theorem hd_X2_lameHorses : yX2_lameHorses.cls = RX2 ∧ yX2_lameHorses.cls ≠ "java/lang/invoke/MethodHandle" ∧ yX2_lameHorses.cls ≠ "java/lang/invoke/VarHandle" ∧ (parseMethodDescriptor yX2_lameHorses.desc).map (fun d => d.parameters.length) = some 0 := by decide +kernel
theorem hd_X2_letFall : yX2_letFall.cls = RX2 ∧ yX2_letFall.cls ≠ "java/lang/invoke/MethodHandle" ∧ yX2_letFall.cls ≠ "java/lang/invoke/VarHandle" ∧ (parseMethodDescriptor yX2_letFall.desc).map (fun d => d.parameters.length) = some 2 := by decide +kernel
theorem hd_X2_letLearn : yX2_letLearn.cls = RX2 ∧ yX2_letLearn.cls ≠ "java/lang/invoke/MethodHandle" ∧ yX2_letLearn.cls ≠ "java/lang/invoke/VarHandle" ∧ (parseMethodDescriptor yX2_letLearn.desc).map (fun d => d.parameters.length) = some 1 := by decide +kernel
theorem hd_X2_ofFall : yX2_ofFall.cls = RX2 ∧ yX2_ofFall.cls ≠ "java/lang/invoke/MethodHandle" ∧ yX2_ofFall.cls ≠ "java/lang/invoke/VarHandle" ∧ (parseMethodDescriptor yX2_ofFall.desc).map (fun d => d.parameters.length) = some 2 := by decide +kernel
theorem hd_X2_ofHorse : yX2_ofHorse.cls = RX2 ∧ yX2_ofHorse.cls ≠ "java/lang/invoke/MethodHandle" ∧ yX2_ofHorse.cls ≠ "java/lang/invoke/VarHandle" ∧ (parseMethodDescriptor yX2_ofHorse.desc).map (fun d => d.parameters.length) = some 2 := by decide +kernel
theorem hd_X2_ofRider : yX2_ofRider.cls = RX2 ∧ yX2_ofRider.cls ≠ "java/lang/invoke/MethodHandle" ∧ yX2_ofRider.cls ≠ "java/lang/invoke/VarHandle" ∧ (parseMethodDescriptor yX2_ofRider.desc).map (fun d => d.parameters.length) = some 2 := by decide +kernel
theorem hd_X2_passHour : yX2_passHour.cls = RX2 ∧ yX2_passHour.cls ≠ "java/lang/invoke/MethodHandle" ∧ yX2_passHour.cls ≠ "java/lang/invoke/VarHandle" ∧ (parseMethodDescriptor yX2_passHour.desc).map (fun d => d.parameters.length) = some 1 := by decide +kernel
theorem hd_X2_removeBooking : yX2_removeBooking.cls = RX2 ∧ yX2_removeBooking.cls ≠ "java/lang/invoke/MethodHandle" ∧ yX2_removeBooking.cls ≠ "java/lang/invoke/VarHandle" ∧ (parseMethodDescriptor yX2_removeBooking.desc).map (fun d => d.parameters.length) = some 1 := by decide +kernel
theorem hd_X2_ringOfBooking : yX2_ringOfBooking.cls = RX2 ∧ yX2_ringOfBooking.cls ≠ "java/lang/invoke/MethodHandle" ∧ yX2_ringOfBooking.cls ≠ "java/lang/invoke/VarHandle" ∧ (parseMethodDescriptor yX2_ringOfBooking.desc).map (fun d => d.parameters.length) = some 1 := by decide +kernel
theorem hd_X2_setOfRiders : yX2_setOfRiders.cls = RX2 ∧ yX2_setOfRiders.cls ≠ "java/lang/invoke/MethodHandle" ∧ yX2_setOfRiders.cls ≠ "java/lang/invoke/VarHandle" ∧ (parseMethodDescriptor yX2_setOfRiders.desc).map (fun d => d.parameters.length) = some 2 := by decide +kernel
theorem hd_X2_setting : yX2_setting.cls = RX2 ∧ yX2_setting.cls ≠ "java/lang/invoke/MethodHandle" ∧ yX2_setting.cls ≠ "java/lang/invoke/VarHandle" ∧ (parseMethodDescriptor yX2_setting.desc).map (fun d => d.parameters.length) = some 1 := by decide +kernel
theorem hd_X2_strain : yX2_strain.cls = RX2 ∧ yX2_strain.cls ≠ "java/lang/invoke/MethodHandle" ∧ yX2_strain.cls ≠ "java/lang/invoke/VarHandle" ∧ (parseMethodDescriptor yX2_strain.desc).map (fun d => d.parameters.length) = some 2 := by decide +kernel
theorem hd_X2_sumOfHorses : yX2_sumOfHorses.cls = RX2 ∧ yX2_sumOfHorses.cls ≠ "java/lang/invoke/MethodHandle" ∧ yX2_sumOfHorses.cls ≠ "java/lang/invoke/VarHandle" ∧ (parseMethodDescriptor yX2_sumOfHorses.desc).map (fun d => d.parameters.length) = some 1 := by decide +kernel
theorem hd_X2_sumOfRiders : yX2_sumOfRiders.cls = RX2 ∧ yX2_sumOfRiders.cls ≠ "java/lang/invoke/MethodHandle" ∧ yX2_sumOfRiders.cls ≠ "java/lang/invoke/VarHandle" ∧ (parseMethodDescriptor yX2_sumOfRiders.desc).map (fun d => d.parameters.length) = some 1 := by decide +kernel
theorem hd_X2_time : yX2_time.cls = RX2 ∧ yX2_time.cls ≠ "java/lang/invoke/MethodHandle" ∧ yX2_time.cls ≠ "java/lang/invoke/VarHandle" ∧ (parseMethodDescriptor yX2_time.desc).map (fun d => d.parameters.length) = some 0 := by decide +kernel
theorem hd_X3_init : yX3_init.cls = RX3 ∧ yX3_init.cls ≠ "java/lang/invoke/MethodHandle" ∧ yX3_init.cls ≠ "java/lang/invoke/VarHandle" ∧ (parseMethodDescriptor yX3_init.desc).map (fun d => d.parameters.length) = some 2 := by decide +kernel
theorem hd_X3_add : yX3_add.cls = RX3 ∧ yX3_add.cls ≠ "java/lang/invoke/MethodHandle" ∧ yX3_add.cls ≠ "java/lang/invoke/VarHandle" ∧ (parseMethodDescriptor yX3_add.desc).map (fun d => d.parameters.length) = some 3 := by decide +kernel
theorem hd_X3_addUpTo : yX3_addUpTo.cls = RX3 ∧ yX3_addUpTo.cls ≠ "java/lang/invoke/MethodHandle" ∧ yX3_addUpTo.cls ≠ "java/lang/invoke/VarHandle" ∧ (parseMethodDescriptor yX3_addUpTo.desc).map (fun d => d.parameters.length) = some 3 := by decide +kernel
theorem hd_X3_at : yX3_at.cls = RX3 ∧ yX3_at.cls ≠ "java/lang/invoke/MethodHandle" ∧ yX3_at.cls ≠ "java/lang/invoke/VarHandle" ∧ (parseMethodDescriptor yX3_at.desc).map (fun d => d.parameters.length) = some 2 := by decide +kernel
theorem hd_X3_copyFrom : yX3_copyFrom.cls = RX3 ∧ yX3_copyFrom.cls ≠ "java/lang/invoke/MethodHandle" ∧ yX3_copyFrom.cls ≠ "java/lang/invoke/VarHandle" ∧ (parseMethodDescriptor yX3_copyFrom.desc).map (fun d => d.parameters.length) = some 1 := by decide +kernel
theorem hd_X3_moveColumn : yX3_moveColumn.cls = RX3 ∧ yX3_moveColumn.cls ≠ "java/lang/invoke/MethodHandle" ∧ yX3_moveColumn.cls ≠ "java/lang/invoke/VarHandle" ∧ (parseMethodDescriptor yX3_moveColumn.desc).map (fun d => d.parameters.length) = some 3 := by decide +kernel
theorem hd_X3_put : yX3_put.cls = RX3 ∧ yX3_put.cls ≠ "java/lang/invoke/MethodHandle" ∧ yX3_put.cls ≠ "java/lang/invoke/VarHandle" ∧ (parseMethodDescriptor yX3_put.desc).map (fun d => d.parameters.length) = some 3 := by decide +kernel
theorem hd_X3_sum : yX3_sum.cls = RX3 ∧ yX3_sum.cls ≠ "java/lang/invoke/MethodHandle" ∧ yX3_sum.cls ≠ "java/lang/invoke/VarHandle" ∧ (parseMethodDescriptor yX3_sum.desc).map (fun d => d.parameters.length) = some 1 := by decide +kernel
theorem hd_X3_takeAway : yX3_takeAway.cls = RX3 ∧ yX3_takeAway.cls ≠ "java/lang/invoke/MethodHandle" ∧ yX3_takeAway.cls ≠ "java/lang/invoke/VarHandle" ∧ (parseMethodDescriptor yX3_takeAway.desc).map (fun d => d.parameters.length) = some 3 := by decide +kernel
theorem hd_X4_init : yX4_init.cls = RX4 ∧ yX4_init.cls ≠ "java/lang/invoke/MethodHandle" ∧ yX4_init.cls ≠ "java/lang/invoke/VarHandle" ∧ (parseMethodDescriptor yX4_init.desc).map (fun d => d.parameters.length) = some 0 := by decide +kernel
theorem hd_X4_append : yX4_append.cls = RX4 ∧ yX4_append.cls ≠ "java/lang/invoke/MethodHandle" ∧ yX4_append.cls ≠ "java/lang/invoke/VarHandle" ∧ (parseMethodDescriptor yX4_append.desc).map (fun d => d.parameters.length) = some 1 := by decide +kernel
theorem hd_X4_characterAt : yX4_characterAt.cls = RX4 ∧ yX4_characterAt.cls ≠ "java/lang/invoke/MethodHandle" ∧ yX4_characterAt.cls ≠ "java/lang/invoke/VarHandle" ∧ (parseMethodDescriptor yX4_characterAt.desc).map (fun d => d.parameters.length) = some 1 := by decide +kernel
theorem hd_X4_empty : yX4_empty.cls = RX4 ∧ yX4_empty.cls ≠ "java/lang/invoke/MethodHandle" ∧ yX4_empty.cls ≠ "java/lang/invoke/VarHandle" ∧ (parseMethodDescriptor yX4_empty.desc).map (fun d => d.parameters.length) = some 0 := by decide +kernel
theorem hd_X4_length : yX4_length.cls = RX4 ∧ yX4_length.cls ≠ "java/lang/invoke/MethodHandle" ∧ yX4_length.cls ≠ "java/lang/invoke/VarHandle" ∧ (parseMethodDescriptor yX4_length.desc).map (fun d => d.parameters.length) = some 0 := by decide +kernel
theorem hd_X6_init : yX6_init.cls = RX6 ∧ yX6_init.cls ≠ "java/lang/invoke/MethodHandle" ∧ yX6_init.cls ≠ "java/lang/invoke/VarHandle" ∧ (parseMethodDescriptor yX6_init.desc).map (fun d => d.parameters.length) = some 0 := by decide +kernel
theorem hd_X6_best : yX6_best.cls = RX6 ∧ yX6_best.cls ≠ "java/lang/invoke/MethodHandle" ∧ yX6_best.cls ≠ "java/lang/invoke/VarHandle" ∧ (parseMethodDescriptor yX6_best.desc).map (fun d => d.parameters.length) = some 1 := by decide +kernel
theorem hd_X6_bestFor : yX6_bestFor.cls = RX6 ∧ yX6_bestFor.cls ≠ "java/lang/invoke/MethodHandle" ∧ yX6_bestFor.cls ≠ "java/lang/invoke/VarHandle" ∧ (parseMethodDescriptor yX6_bestFor.desc).map (fun d => d.parameters.length) = some 2 := by decide +kernel
theorem hd_X6_book : yX6_book.cls = RX6 ∧ yX6_book.cls ≠ "java/lang/invoke/MethodHandle" ∧ yX6_book.cls ≠ "java/lang/invoke/VarHandle" ∧ (parseMethodDescriptor yX6_book.desc).map (fun d => d.parameters.length) = some 3 := by decide +kernel
theorem hd_X6_bookPlan : yX6_bookPlan.cls = RX6 ∧ yX6_bookPlan.cls ≠ "java/lang/invoke/MethodHandle" ∧ yX6_bookPlan.cls ≠ "java/lang/invoke/VarHandle" ∧ (parseMethodDescriptor yX6_bookPlan.desc).map (fun d => d.parameters.length) = some 0 := by decide +kernel
theorem hd_X6_bookedFor : yX6_bookedFor.cls = RX6 ∧ yX6_bookedFor.cls ≠ "java/lang/invoke/MethodHandle" ∧ yX6_bookedFor.cls ≠ "java/lang/invoke/VarHandle" ∧ (parseMethodDescriptor yX6_bookedFor.desc).map (fun d => d.parameters.length) = some 2 := by decide +kernel
theorem hd_X6_bookingOf : yX6_bookingOf.cls = RX6 ∧ yX6_bookingOf.cls ≠ "java/lang/invoke/MethodHandle" ∧ yX6_bookingOf.cls ≠ "java/lang/invoke/VarHandle" ∧ (parseMethodDescriptor yX6_bookingOf.desc).map (fun d => d.parameters.length) = some 2 := by decide +kernel
theorem hd_X6_bookingsOf : yX6_bookingsOf.cls = RX6 ∧ yX6_bookingsOf.cls ≠ "java/lang/invoke/MethodHandle" ∧ yX6_bookingsOf.cls ≠ "java/lang/invoke/VarHandle" ∧ (parseMethodDescriptor yX6_bookingsOf.desc).map (fun d => d.parameters.length) = some 1 := by decide +kernel
theorem hd_X6_books : yX6_books.cls = RX6 ∧ yX6_books.cls ≠ "java/lang/invoke/MethodHandle" ∧ yX6_books.cls ≠ "java/lang/invoke/VarHandle" ∧ (parseMethodDescriptor yX6_books.desc).map (fun d => d.parameters.length) = some 3 := by decide +kernel
theorem hd_X6_busiest : yX6_busiest.cls = RX6 ∧ yX6_busiest.cls ≠ "java/lang/invoke/MethodHandle" ∧ yX6_busiest.cls ≠ "java/lang/invoke/VarHandle" ∧ (parseMethodDescriptor yX6_busiest.desc).map (fun d => d.parameters.length) = some 0 := by decide +kernel
theorem hd_X6_can : yX6_can.cls = RX6 ∧ yX6_can.cls ≠ "java/lang/invoke/MethodHandle" ∧ yX6_can.cls ≠ "java/lang/invoke/VarHandle" ∧ (parseMethodDescriptor yX6_can.desc).map (fun d => d.parameters.length) = some 1 := by decide +kernel
theorem hd_X6_cancel : yX6_cancel.cls = RX6 ∧ yX6_cancel.cls ≠ "java/lang/invoke/MethodHandle" ∧ yX6_cancel.cls ≠ "java/lang/invoke/VarHandle" ∧ (parseMethodDescriptor yX6_cancel.desc).map (fun d => d.parameters.length) = some 2 := by decide +kernel
theorem hd_X6_clearText : yX6_clearText.cls = RX6 ∧ yX6_clearText.cls ≠ "java/lang/invoke/MethodHandle" ∧ yX6_clearText.cls ≠ "java/lang/invoke/VarHandle" ∧ (parseMethodDescriptor yX6_clearText.desc).map (fun d => d.parameters.length) = some 0 := by decide +kernel
theorem hd_X6_count : yX6_count.cls = RX6 ∧ yX6_count.cls ≠ "java/lang/invoke/MethodHandle" ∧ yX6_count.cls ≠ "java/lang/invoke/VarHandle" ∧ (parseMethodDescriptor yX6_count.desc).map (fun d => d.parameters.length) = some 1 := by decide +kernel
theorem hd_X6_fall : yX6_fall.cls = RX6 ∧ yX6_fall.cls ≠ "java/lang/invoke/MethodHandle" ∧ yX6_fall.cls ≠ "java/lang/invoke/VarHandle" ∧ (parseMethodDescriptor yX6_fall.desc).map (fun d => d.parameters.length) = some 2 := by decide +kernel
theorem hd_X6_falls : yX6_falls.cls = RX6 ∧ yX6_falls.cls ≠ "java/lang/invoke/MethodHandle" ∧ yX6_falls.cls ≠ "java/lang/invoke/VarHandle" ∧ (parseMethodDescriptor yX6_falls.desc).map (fun d => d.parameters.length) = some 2 := by decide +kernel
theorem hd_X6_frees : yX6_frees.cls = RX6 ∧ yX6_frees.cls ≠ "java/lang/invoke/MethodHandle" ∧ yX6_frees.cls ≠ "java/lang/invoke/VarHandle" ∧ (parseMethodDescriptor yX6_frees.desc).map (fun d => d.parameters.length) = some 0 := by decide +kernel
theorem hd_X6_gives : yX6_gives.cls = RX6 ∧ yX6_gives.cls ≠ "java/lang/invoke/MethodHandle" ∧ yX6_gives.cls ≠ "java/lang/invoke/VarHandle" ∧ (parseMethodDescriptor yX6_gives.desc).map (fun d => d.parameters.length) = some 1 := by decide +kernel
theorem hd_X6_hindrance : yX6_hindrance.cls = RX6 ∧ yX6_hindrance.cls ≠ "java/lang/invoke/MethodHandle" ∧ yX6_hindrance.cls ≠ "java/lang/invoke/VarHandle" ∧ (parseMethodDescriptor yX6_hindrance.desc).map (fun d => d.parameters.length) = some 3 := by decide +kernel
theorem hd_X6_horse : yX6_horse.cls = RX6 ∧ yX6_horse.cls ≠ "java/lang/invoke/MethodHandle" ∧ yX6_horse.cls ≠ "java/lang/invoke/VarHandle" ∧ (parseMethodDescriptor yX6_horse.desc).map (fun d => d.parameters.length) = some 2 := by decide +kernel
theorem hd_X6_hour : yX6_hour.cls = RX6 ∧ yX6_hour.cls ≠ "java/lang/invoke/MethodHandle" ∧ yX6_hour.cls ≠ "java/lang/invoke/VarHandle" ∧ (parseMethodDescriptor yX6_hour.desc).map (fun d => d.parameters.length) = some 1 := by decide +kernel
theorem hd_X6_ifPassed : yX6_ifPassed.cls = RX6 ∧ yX6_ifPassed.cls ≠ "java/lang/invoke/MethodHandle" ∧ yX6_ifPassed.cls ≠ "java/lang/invoke/VarHandle" ∧ (parseMethodDescriptor yX6_ifPassed.desc).map (fun d => d.parameters.length) = some 2 := by decide +kernel
theorem hd_X6_in : yX6_in.cls = RX6 ∧ yX6_in.cls ≠ "java/lang/invoke/MethodHandle" ∧ yX6_in.cls ≠ "java/lang/invoke/VarHandle" ∧ (parseMethodDescriptor yX6_in.desc).map (fun d => d.parameters.length) = some 3 := by decide +kernel
theorem hd_X6_isAhead : yX6_isAhead.cls = RX6 ∧ yX6_isAhead.cls ≠ "java/lang/invoke/MethodHandle" ∧ yX6_isAhead.cls ≠ "java/lang/invoke/VarHandle" ∧ (parseMethodDescriptor yX6_isAhead.desc).map (fun d => d.parameters.length) = some 1 := by decide +kernel
theorem hd_X6_isBetter : yX6_isBetter.cls = RX6 ∧ yX6_isBetter.cls ≠ "java/lang/invoke/MethodHandle" ∧ yX6_isBetter.cls ≠ "java/lang/invoke/VarHandle" ∧ (parseMethodDescriptor yX6_isBetter.desc).map (fun d => d.parameters.length) = some 3 := by decide +kernel
theorem hd_X6_isFarrierThere : yX6_isFarrierThere.cls = RX6 ∧ yX6_isFarrierThere.cls ≠ "java/lang/invoke/MethodHandle" ∧ yX6_isFarrierThere.cls ≠ "java/lang/invoke/VarHandle" ∧ (parseMethodDescriptor yX6_isFarrierThere.desc).map (fun d => d.parameters.length) = some 0 := by decide +kernel
theorem hd_X6_isHorse : yX6_isHorse.cls = RX6 ∧ yX6_isHorse.cls ≠ "java/lang/invoke/MethodHandle" ∧ yX6_isHorse.cls ≠ "java/lang/invoke/VarHandle" ∧ (parseMethodDescriptor yX6_isHorse.desc).map (fun d => d.parameters.length) = some 1 := by decide +kernel
theorem hd_X6_isNext : yX6_isNext.cls = RX6 ∧ yX6_isNext.cls ≠ "java/lang/invoke/MethodHandle" ∧ yX6_isNext.cls ≠ "java/lang/invoke/VarHandle" ∧ (parseMethodDescriptor yX6_isNext.desc).map (fun d => d.parameters.length) = some 2 := by decide +kernel
theorem hd_X6_isRider : yX6_isRider.cls = RX6 ∧ yX6_isRider.cls ≠ "java/lang/invoke/MethodHandle" ∧ yX6_isRider.cls ≠ "java/lang/invoke/VarHandle" ∧ (parseMethodDescriptor yX6_isRider.desc).map (fun d => d.parameters.length) = some 1 := by decide +kernel
theorem hd_X6_isRing : yX6_isRing.cls = RX6 ∧ yX6_isRing.cls ≠ "java/lang/invoke/MethodHandle" ∧ yX6_isRing.cls ≠ "java/lang/invoke/VarHandle" ∧ (parseMethodDescriptor yX6_isRing.desc).map (fun d => d.parameters.length) = some 1 := by decide +kernel
theorem hd_X6_keep : yX6_keep.cls = RX6 ∧ yX6_keep.cls ≠ "java/lang/invoke/MethodHandle" ∧ yX6_keep.cls ≠ "java/lang/invoke/VarHandle" ∧ (parseMethodDescriptor yX6_keep.desc).map (fun d => d.parameters.length) = some 0 := by decide +kernel
theorem hd_X6_lameHorses : yX6_lameHorses.cls = RX6 ∧ yX6_lameHorses.cls ≠ "java/lang/invoke/MethodHandle" ∧ yX6_lameHorses.cls ≠ "java/lang/invoke/VarHandle" ∧ (parseMethodDescriptor yX6_lameHorses.desc).map (fun d => d.parameters.length) = some 0 := by decide +kernel
theorem hd_X6_learns : yX6_learns.cls = RX6 ∧ yX6_learns.cls ≠ "java/lang/invoke/MethodHandle" ∧ yX6_learns.cls ≠ "java/lang/invoke/VarHandle" ∧ (parseMethodDescriptor yX6_learns.desc).map (fun d => d.parameters.length) = some 1 := by decide +kernel
theorem hd_X6_least : yX6_least.cls = RX6 ∧ yX6_least.cls ≠ "java/lang/invoke/MethodHandle" ∧ yX6_least.cls ≠ "java/lang/invoke/VarHandle" ∧ (parseMethodDescriptor yX6_least.desc).map (fun d => d.parameters.length) = some 1 := by decide +kernel
theorem hd_X6_lesson : yX6_lesson.cls = RX6 ∧ yX6_lesson.cls ≠ "java/lang/invoke/MethodHandle" ∧ yX6_lesson.cls ≠ "java/lang/invoke/VarHandle" ∧ (parseMethodDescriptor yX6_lesson.desc).map (fun d => d.parameters.length) = some 3 := by decide +kernel
theorem hd_X6_most : yX6_most.cls = RX6 ∧ yX6_most.cls ≠ "java/lang/invoke/MethodHandle" ∧ yX6_most.cls ≠ "java/lang/invoke/VarHandle" ∧ (parseMethodDescriptor yX6_most.desc).map (fun d => d.parameters.length) = some 1 := by decide +kernel
theorem hd_X6_needs : yX6_needs.cls = RX6 ∧ yX6_needs.cls ≠ "java/lang/invoke/MethodHandle" ∧ yX6_needs.cls ≠ "java/lang/invoke/VarHandle" ∧ (parseMethodDescriptor yX6_needs.desc).map (fun d => d.parameters.length) = some 1 := by decide +kernel
theorem hd_X6_number : yX6_number.cls = RX6 ∧ yX6_number.cls ≠ "java/lang/invoke/MethodHandle" ∧ yX6_number.cls ≠ "java/lang/invoke/VarHandle" ∧ (parseMethodDescriptor yX6_number.desc).map (fun d => d.parameters.length) = some 1 := by decide +kernel
theorem hd_X6_of : yX6_of.cls = RX6 ∧ yX6_of.cls ≠ "java/lang/invoke/MethodHandle" ∧ yX6_of.cls ≠ "java/lang/invoke/VarHandle" ∧ (parseMethodDescriptor yX6_of.desc).map (fun d => d.parameters.length) = some 2 := by decide +kernel
theorem hd_X6_ofBooking : yX6_ofBooking.cls = RX6 ∧ yX6_ofBooking.cls ≠ "java/lang/invoke/MethodHandle" ∧ yX6_ofBooking.cls ≠ "java/lang/invoke/VarHandle" ∧ (parseMethodDescriptor yX6_ofBooking.desc).map (fun d => d.parameters.length) = some 2 := by decide +kernel
theorem hd_X6_ofRider : yX6_ofRider.cls = RX6 ∧ yX6_ofRider.cls ≠ "java/lang/invoke/MethodHandle" ∧ yX6_ofRider.cls ≠ "java/lang/invoke/VarHandle" ∧ (parseMethodDescriptor yX6_ofRider.desc).map (fun d => d.parameters.length) = some 2 := by decide +kernel
theorem hd_X6_pass : yX6_pass.cls = RX6 ∧ yX6_pass.cls ≠ "java/lang/invoke/MethodHandle" ∧ yX6_pass.cls ≠ "java/lang/invoke/VarHandle" ∧ (parseMethodDescriptor yX6_pass.desc).map (fun d => d.parameters.length) = some 1 := by decide +kernel
theorem hd_X6_putAside : yX6_putAside.cls = RX6 ∧ yX6_putAside.cls ≠ "java/lang/invoke/MethodHandle" ∧ yX6_putAside.cls ≠ "java/lang/invoke/VarHandle" ∧ (parseMethodDescriptor yX6_putAside.desc).map (fun d => d.parameters.length) = some 0 := by decide +kernel
theorem hd_X6_putBack : yX6_putBack.cls = RX6 ∧ yX6_putBack.cls ≠ "java/lang/invoke/MethodHandle" ∧ yX6_putBack.cls ≠ "java/lang/invoke/VarHandle" ∧ (parseMethodDescriptor yX6_putBack.desc).map (fun d => d.parameters.length) = some 0 := by decide +kernel
theorem hd_X6_reads : yX6_reads.cls = RX6 ∧ yX6_reads.cls ≠ "java/lang/invoke/MethodHandle" ∧ yX6_reads.cls ≠ "java/lang/invoke/VarHandle" ∧ (parseMethodDescriptor yX6_reads.desc).map (fun d => d.parameters.length) = some 3 := by decide +kernel
theorem hd_X6_readsBooking : yX6_readsBooking.cls = RX6 ∧ yX6_readsBooking.cls ≠ "java/lang/invoke/MethodHandle" ∧ yX6_readsBooking.cls ≠ "java/lang/invoke/VarHandle" ∧ (parseMethodDescriptor yX6_readsBooking.desc).map (fun d => d.parameters.length) = some 1 := by decide +kernel
theorem hd_X6_readsPlan : yX6_readsPlan.cls = RX6 ∧ yX6_readsPlan.cls ≠ "java/lang/invoke/MethodHandle" ∧ yX6_readsPlan.cls ≠ "java/lang/invoke/VarHandle" ∧ (parseMethodDescriptor yX6_readsPlan.desc).map (fun d => d.parameters.length) = some 1 := by decide +kernel
theorem hd_X6_reason : yX6_reason.cls = RX6 ∧ yX6_reason.cls ≠ "java/lang/invoke/MethodHandle" ∧ yX6_reason.cls ≠ "java/lang/invoke/VarHandle" ∧ (parseMethodDescriptor yX6_reason.desc).map (fun d => d.parameters.length) = some 2 := by decide +kernel
theorem hd_X6_record : yX6_record.cls = RX6 ∧ yX6_record.cls ≠ "java/lang/invoke/MethodHandle" ∧ yX6_record.cls ≠ "java/lang/invoke/VarHandle" ∧ (parseMethodDescriptor yX6_record.desc).map (fun d => d.parameters.length) = some 0 := by decide +kernel
theorem hd_X6_recordAside : yX6_recordAside.cls = RX6 ∧ yX6_recordAside.cls ≠ "java/lang/invoke/MethodHandle" ∧ yX6_recordAside.cls ≠ "java/lang/invoke/VarHandle" ∧ (parseMethodDescriptor yX6_recordAside.desc).map (fun d => d.parameters.length) = some 0 := by decide +kernel
theorem hd_X6_restore : yX6_restore.cls = RX6 ∧ yX6_restore.cls ≠ "java/lang/invoke/MethodHandle" ∧ yX6_restore.cls ≠ "java/lang/invoke/VarHandle" ∧ (parseMethodDescriptor yX6_restore.desc).map (fun d => d.parameters.length) = some 0 := by decide +kernel
theorem hd_X6_rests : yX6_rests.cls = RX6 ∧ yX6_rests.cls ≠ "java/lang/invoke/MethodHandle" ∧ yX6_rests.cls ≠ "java/lang/invoke/VarHandle" ∧ (parseMethodDescriptor yX6_rests.desc).map (fun d => d.parameters.length) = some 2 := by decide +kernel
theorem hd_X6_rider : yX6_rider.cls = RX6 ∧ yX6_rider.cls ≠ "java/lang/invoke/MethodHandle" ∧ yX6_rider.cls ≠ "java/lang/invoke/VarHandle" ∧ (parseMethodDescriptor yX6_rider.desc).map (fun d => d.parameters.length) = some 2 := by decide +kernel
theorem hd_X6_ridersFor : yX6_ridersFor.cls = RX6 ∧ yX6_ridersFor.cls ≠ "java/lang/invoke/MethodHandle" ∧ yX6_ridersFor.cls ≠ "java/lang/invoke/VarHandle" ∧ (parseMethodDescriptor yX6_ridersFor.desc).map (fun d => d.parameters.length) = some 2 := by decide +kernel
theorem hd_X6_rides : yX6_rides.cls = RX6 ∧ yX6_rides.cls ≠ "java/lang/invoke/MethodHandle" ∧ yX6_rides.cls ≠ "java/lang/invoke/VarHandle" ∧ (parseMethodDescriptor yX6_rides.desc).map (fun d => d.parameters.length) = some 2 := by decide +kernel
theorem hd_X6_set : yX6_set.cls = RX6 ∧ yX6_set.cls ≠ "java/lang/invoke/MethodHandle" ∧ yX6_set.cls ≠ "java/lang/invoke/VarHandle" ∧ (parseMethodDescriptor yX6_set.desc).map (fun d => d.parameters.length) = some 2 := by decide +kernel
theorem hd_X6_setHorse : yX6_setHorse.cls = RX6 ∧ yX6_setHorse.cls ≠ "java/lang/invoke/MethodHandle" ∧ yX6_setHorse.cls ≠ "java/lang/invoke/VarHandle" ∧ (parseMethodDescriptor yX6_setHorse.desc).map (fun d => d.parameters.length) = some 3 := by decide +kernel
theorem hd_X6_setRider : yX6_setRider.cls = RX6 ∧ yX6_setRider.cls ≠ "java/lang/invoke/MethodHandle" ∧ yX6_setRider.cls ≠ "java/lang/invoke/VarHandle" ∧ (parseMethodDescriptor yX6_setRider.desc).map (fun d => d.parameters.length) = some 3 := by decide +kernel
theorem hd_X6_shodHorse : yX6_shodHorse.cls = RX6 ∧ yX6_shodHorse.cls ≠ "java/lang/invoke/MethodHandle" ∧ yX6_shodHorse.cls ≠ "java/lang/invoke/VarHandle" ∧ (parseMethodDescriptor yX6_shodHorse.desc).map (fun d => d.parameters.length) = some 0 := by decide +kernel
theorem hd_X6_strains : yX6_strains.cls = RX6 ∧ yX6_strains.cls ≠ "java/lang/invoke/MethodHandle" ∧ yX6_strains.cls ≠ "java/lang/invoke/VarHandle" ∧ (parseMethodDescriptor yX6_strains.desc).map (fun d => d.parameters.length) = some 1 := by decide +kernel
theorem hd_X6_takenIn : yX6_takenIn.cls = RX6 ∧ yX6_takenIn.cls ≠ "java/lang/invoke/MethodHandle" ∧ yX6_takenIn.cls ≠ "java/lang/invoke/VarHandle" ∧ (parseMethodDescriptor yX6_takenIn.desc).map (fun d => d.parameters.length) = some 2 := by decide +kernel
theorem hd_X6_tiredness : yX6_tiredness.cls = RX6 ∧ yX6_tiredness.cls ≠ "java/lang/invoke/MethodHandle" ∧ yX6_tiredness.cls ≠ "java/lang/invoke/VarHandle" ∧ (parseMethodDescriptor yX6_tiredness.desc).map (fun d => d.parameters.length) = some 0 := by decide +kernel
theorem hd_X6_type : yX6_type.cls = RX6 ∧ yX6_type.cls ≠ "java/lang/invoke/MethodHandle" ∧ yX6_type.cls ≠ "java/lang/invoke/VarHandle" ∧ (parseMethodDescriptor yX6_type.desc).map (fun d => d.parameters.length) = some 1 := by decide +kernel
theorem hd_X6_undo : yX6_undo.cls = RX6 ∧ yX6_undo.cls ≠ "java/lang/invoke/MethodHandle" ∧ yX6_undo.cls ≠ "java/lang/invoke/VarHandle" ∧ (parseMethodDescriptor yX6_undo.desc).map (fun d => d.parameters.length) = some 0 := by decide +kernel
theorem layX0 : ∀ w ∈ u_ws RX0 TX0 3, w ∈ wsG := show ∀ w ∈ ([u_lay RX0 TX0 0, u_lay RX0 TX0 1, u_lay RX0 TX0 2] : List Cond), w ∈ wsG from List.forall_mem_cons.mpr ⟨ly_X0_states, List.forall_mem_cons.mpr ⟨ly_X0_next, List.forall_mem_cons.mpr ⟨ly_X0_size, List.forall_mem_nil _⟩⟩⟩
theorem layX1 : ∀ w ∈ u_ws RX1 TX1 6, w ∈ wsG := show ∀ w ∈ ([u_lay RX1 TX1 0, u_lay RX1 TX1 1, u_lay RX1 TX1 2, u_lay RX1 TX1 3, u_lay RX1 TX1 4, u_lay RX1 TX1 5] : List Cond), w ∈ wsG from List.forall_mem_cons.mpr ⟨ly_X1_entries, List.forall_mem_cons.mpr ⟨ly_X1_size, List.forall_mem_cons.mpr ⟨ly_X1_place, List.forall_mem_cons.mpr ⟨ly_X1_number, List.forall_mem_cons.mpr ⟨ly_X1_hours, List.forall_mem_cons.mpr ⟨ly_X1_ring, List.forall_mem_nil _⟩⟩⟩⟩⟩⟩
theorem layX2 : ∀ w ∈ u_ws RX2 TX2 8, w ∈ wsG := show ∀ w ∈ ([u_lay RX2 TX2 0, u_lay RX2 TX2 1, u_lay RX2 TX2 2, u_lay RX2 TX2 3, u_lay RX2 TX2 4, u_lay RX2 TX2 5, u_lay RX2 TX2 6, u_lay RX2 TX2 7] : List Cond), w ∈ wsG from List.forall_mem_cons.mpr ⟨ly_X2_time, List.forall_mem_cons.mpr ⟨ly_X2_settings, List.forall_mem_cons.mpr ⟨ly_X2_horses, List.forall_mem_cons.mpr ⟨ly_X2_riders, List.forall_mem_cons.mpr ⟨ly_X2_bookings, List.forall_mem_cons.mpr ⟨ly_X2_bookingCount, List.forall_mem_cons.mpr ⟨ly_X2_falls, List.forall_mem_cons.mpr ⟨ly_X2_fallCount, List.forall_mem_nil _⟩⟩⟩⟩⟩⟩⟩⟩
theorem layX3 : ∀ w ∈ u_ws RX3 TX3 2, w ∈ wsG := show ∀ w ∈ ([u_lay RX3 TX3 0, u_lay RX3 TX3 1] : List Cond), w ∈ wsG from List.forall_mem_cons.mpr ⟨ly_X3_width, List.forall_mem_cons.mpr ⟨ly_X3_cells, List.forall_mem_nil _⟩⟩
theorem layX4 : ∀ w ∈ u_ws RX4 TX4 2, w ∈ wsG := show ∀ w ∈ ([u_lay RX4 TX4 0, u_lay RX4 TX4 1] : List Cond), w ∈ wsG from List.forall_mem_cons.mpr ⟨ly_X4_characters, List.forall_mem_cons.mpr ⟨ly_X4_length, List.forall_mem_nil _⟩⟩
theorem layX5 : ∀ w ∈ u_ws RX5 TX5 7, w ∈ wsG := show ∀ w ∈ ([u_lay RX5 TX5 0, u_lay RX5 TX5 1, u_lay RX5 TX5 2, u_lay RX5 TX5 3, u_lay RX5 TX5 4, u_lay RX5 TX5 5, u_lay RX5 TX5 6] : List Cond), w ∈ wsG from List.forall_mem_cons.mpr ⟨ly_X5_now, List.forall_mem_cons.mpr ⟨ly_X5_ahead, List.forall_mem_cons.mpr ⟨ly_X5_snapshot, List.forall_mem_cons.mpr ⟨ly_X5_hasSnapshot, List.forall_mem_cons.mpr ⟨ly_X5_history, List.forall_mem_cons.mpr ⟨ly_X5_text, List.forall_mem_cons.mpr ⟨ly_X5_plan, List.forall_mem_nil _⟩⟩⟩⟩⟩⟩⟩
theorem layX6 : ∀ w ∈ u_ws RX6 TX6 14, w ∈ wsG := show ∀ w ∈ ([u_lay RX6 TX6 0, u_lay RX6 TX6 1, u_lay RX6 TX6 2, u_lay RX6 TX6 3, u_lay RX6 TX6 4, u_lay RX6 TX6 5, u_lay RX6 TX6 6, u_lay RX6 TX6 7, u_lay RX6 TX6 8, u_lay RX6 TX6 9, u_lay RX6 TX6 10, u_lay RX6 TX6 11, u_lay RX6 TX6 12, u_lay RX6 TX6 13] : List Cond), w ∈ wsG from List.forall_mem_cons.mpr ⟨ly_X6_s, List.forall_mem_cons.mpr ⟨ly_X6_aside, List.forall_mem_cons.mpr ⟨ly_X6_history, List.forall_mem_cons.mpr ⟨ly_X6_known, List.forall_mem_cons.mpr ⟨ly_X6_snapshot, List.forall_mem_cons.mpr ⟨ly_X6_isKept, List.forall_mem_cons.mpr ⟨ly_X6_text, List.forall_mem_cons.mpr ⟨ly_X6_length, List.forall_mem_cons.mpr ⟨ly_X6_isTaken, List.forall_mem_cons.mpr ⟨ly_X6_wasLame, List.forall_mem_cons.mpr ⟨ly_X6_spot, List.forall_mem_cons.mpr ⟨ly_X6_isWrong, List.forall_mem_cons.mpr ⟨ly_X6_riders, List.forall_mem_cons.mpr ⟨ly_X6_error, List.forall_mem_nil _⟩⟩⟩⟩⟩⟩⟩⟩⟩⟩⟩⟩⟩⟩
