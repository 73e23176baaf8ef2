def RX0 : String := "LessonHorses$History"
def TX0 : u_T := fun k => match k with
  | 0 => ("LessonHorses$History", "states", "[LLessonHorses$Stable;", true)
  | 1 => ("LessonHorses$History", "next", "I", false)
  | _ => ("LessonHorses$History", "size", "I", false)
def tyX0 : Nat → FieldType := fun k => match k with
  | 0 => .array (.object "LessonHorses$Stable")
  | 1 => .int
  | _ => .int
abbrev wsX00 : List Cond := u_ws RX0 TX0 3
theorem nmX0 : ∀ a, a < 3 → ∀ b, b < 3 → a ≠ b → (TX0 a).2.1 ≠ (TX0 b).2.1 := by decide +kernel
theorem tyX0_ok : ∀ k, k < 3 → parseFieldDescriptor (TX0 k).2.2.1 = some (tyX0 k) := by decide +kernel
abbrev cX0_init : ByteArray := prog_2_method_1_code
def yX0_init : MethodName := ⟨RX0, "<init>", "()V"⟩
abbrev cX0_size : ByteArray := prog_2_method_2_code
def yX0_size : MethodName := ⟨RX0, "size", "()I"⟩
abbrev cX0_stateAt : ByteArray := prog_2_method_3_code
def yX0_stateAt : MethodName := ⟨RX0, "stateAt", "(I)LLessonHorses$Stable;"⟩
abbrev cX0_record : ByteArray := prog_2_method_4_code
def yX0_record : MethodName := ⟨RX0, "record", "(LLessonHorses$Stable;)V"⟩
abbrev cX0_takeBack : ByteArray := prog_2_method_5_code
def yX0_takeBack : MethodName := ⟨RX0, "takeBack", "(LLessonHorses$Stable;)V"⟩
def RX1 : String := "LessonHorses$Plan"
def TX1 : u_T := fun k => match k with
  | 0 => ("LessonHorses$Plan", "entries", "LLessonHorses$Table;", true)
  | 1 => ("LessonHorses$Plan", "size", "I", false)
  | 2 => ("LessonHorses$Plan", "place", "I", false)
  | 3 => ("LessonHorses$Plan", "number", "I", false)
  | 4 => ("LessonHorses$Plan", "hours", "I", false)
  | _ => ("LessonHorses$Plan", "ring", "I", false)
def tyX1 : Nat → FieldType := fun k => match k with
  | 0 => .object "LessonHorses$Table"
  | 1 => .int
  | 2 => .int
  | 3 => .int
  | 4 => .int
  | _ => .int
abbrev wsX10 : List Cond := u_ws RX1 TX1 6
theorem nmX1 : ∀ a, a < 6 → ∀ b, b < 6 → a ≠ b → (TX1 a).2.1 ≠ (TX1 b).2.1 := by decide +kernel
theorem tyX1_ok : ∀ k, k < 6 → parseFieldDescriptor (TX1 k).2.2.1 = some (tyX1 k) := by decide +kernel
abbrev cX1_init : ByteArray := prog_3_method_1_code
def yX1_init : MethodName := ⟨RX1, "<init>", "()V"⟩
def RX2 : String := "LessonHorses$Stable"
def TX2 : u_T := fun k => match k with
  | 0 => ("LessonHorses$Stable", "time", "I", false)
  | 1 => ("LessonHorses$Stable", "settings", "LLessonHorses$Table;", true)
  | 2 => ("LessonHorses$Stable", "horses", "LLessonHorses$Table;", true)
  | 3 => ("LessonHorses$Stable", "riders", "LLessonHorses$Table;", true)
  | 4 => ("LessonHorses$Stable", "bookings", "LLessonHorses$Table;", true)
  | 5 => ("LessonHorses$Stable", "bookingCount", "I", false)
  | 6 => ("LessonHorses$Stable", "falls", "LLessonHorses$Table;", true)
  | _ => ("LessonHorses$Stable", "fallCount", "I", false)
def tyX2 : Nat → FieldType := fun k => match k with
  | 0 => .int
  | 1 => .object "LessonHorses$Table"
  | 2 => .object "LessonHorses$Table"
  | 3 => .object "LessonHorses$Table"
  | 4 => .object "LessonHorses$Table"
  | 5 => .int
  | 6 => .object "LessonHorses$Table"
  | _ => .int
abbrev wsX20 : List Cond := u_ws RX2 TX2 8
theorem nmX2 : ∀ a, a < 8 → ∀ b, b < 8 → a ≠ b → (TX2 a).2.1 ≠ (TX2 b).2.1 := by decide +kernel
theorem tyX2_ok : ∀ k, k < 8 → parseFieldDescriptor (TX2 k).2.2.1 = some (tyX2 k) := by decide +kernel
abbrev cX2_init : ByteArray := prog_4_method_1_code
def yX2_init : MethodName := ⟨RX2, "<init>", "()V"⟩
abbrev cX2_copyFrom : ByteArray := prog_4_method_2_code
def yX2_copyFrom : MethodName := ⟨RX2, "copyFrom", "(LLessonHorses$Stable;)V"⟩
abbrev cX2_time : ByteArray := prog_4_method_3_code
def yX2_time : MethodName := ⟨RX2, "time", "()I"⟩
abbrev cX2_setting : ByteArray := prog_4_method_4_code
def yX2_setting : MethodName := ⟨RX2, "setting", "(I)I"⟩
abbrev cX2_changeSetting : ByteArray := prog_4_method_5_code
def yX2_changeSetting : MethodName := ⟨RX2, "changeSetting", "(II)V"⟩
abbrev cX2_ofHorse : ByteArray := prog_4_method_6_code
def yX2_ofHorse : MethodName := ⟨RX2, "ofHorse", "(II)I"⟩
abbrev cX2_changeHorse : ByteArray := prog_4_method_7_code
def yX2_changeHorse : MethodName := ⟨RX2, "changeHorse", "(III)V"⟩
abbrev cX2_sumOfHorses : ByteArray := prog_4_method_8_code
def yX2_sumOfHorses : MethodName := ⟨RX2, "sumOfHorses", "(I)I"⟩
abbrev cX2_lameHorses : ByteArray := prog_4_method_9_code
def yX2_lameHorses : MethodName := ⟨RX2, "lameHorses", "()I"⟩
abbrev cX2_ofRider : ByteArray := prog_4_method_10_code
def yX2_ofRider : MethodName := ⟨RX2, "ofRider", "(II)I"⟩
abbrev cX2_changeRider : ByteArray := prog_4_method_11_code
def yX2_changeRider : MethodName := ⟨RX2, "changeRider", "(III)V"⟩
abbrev cX2_sumOfRiders : ByteArray := prog_4_method_12_code
def yX2_sumOfRiders : MethodName := ⟨RX2, "sumOfRiders", "(I)I"⟩
abbrev cX2_abilityOf : ByteArray := prog_4_method_13_code
def yX2_abilityOf : MethodName := ⟨RX2, "abilityOf", "(I)I"⟩
abbrev cX2_bookingsWaiting : ByteArray := prog_4_method_14_code
def yX2_bookingsWaiting : MethodName := ⟨RX2, "bookingsWaiting", "()I"⟩
abbrev cX2_ringOfBooking : ByteArray := prog_4_method_15_code
def yX2_ringOfBooking : MethodName := ⟨RX2, "ringOfBooking", "(I)I"⟩
abbrev cX2_isBooked : ByteArray := prog_4_method_16_code
def yX2_isBooked : MethodName := ⟨RX2, "isBooked", "(II)Z"⟩
abbrev cX2_isBooked_ : ByteArray := prog_4_method_17_code
def yX2_isBooked_ : MethodName := ⟨RX2, "isBooked", "(III)Z"⟩
abbrev cX2_findBooking : ByteArray := prog_4_method_18_code
def yX2_findBooking : MethodName := ⟨RX2, "findBooking", "(II)I"⟩
abbrev cX2_bookedFor : ByteArray := prog_4_method_19_code
def yX2_bookedFor : MethodName := ⟨RX2, "bookedFor", "(II)I"⟩
abbrev cX2_bookedInAllRings : ByteArray := prog_4_method_20_code
def yX2_bookedInAllRings : MethodName := ⟨RX2, "bookedInAllRings", "(I)I"⟩
abbrev cX2_setOfRiders : ByteArray := prog_4_method_21_code
def yX2_setOfRiders : MethodName := ⟨RX2, "setOfRiders", "(II)I"⟩
abbrev cX2_bookingsOf : ByteArray := prog_4_method_22_code
def yX2_bookingsOf : MethodName := ⟨RX2, "bookingsOf", "(I)I"⟩
abbrev cX2_bookingError : ByteArray := prog_4_method_23_code
def yX2_bookingError : MethodName := ⟨RX2, "bookingError", "(III)I"⟩
abbrev cX2_addBooking : ByteArray := prog_4_method_24_code
def yX2_addBooking : MethodName := ⟨RX2, "addBooking", "(III)V"⟩
abbrev cX2_removeBooking : ByteArray := prog_4_method_25_code
def yX2_removeBooking : MethodName := ⟨RX2, "removeBooking", "(I)V"⟩
abbrev cX2_isFarrierThere : ByteArray := prog_4_method_26_code
def yX2_isFarrierThere : MethodName := ⟨RX2, "isFarrierThere", "()Z"⟩
abbrev cX2_farriersHorse : ByteArray := prog_4_method_27_code
def yX2_farriersHorse : MethodName := ⟨RX2, "farriersHorse", "()I"⟩
abbrev cX2_hindrance : ByteArray := prog_4_method_28_code
def yX2_hindrance : MethodName := ⟨RX2, "hindrance", "(III)I"⟩
abbrev cX2_bestHorse : ByteArray := prog_4_method_29_code
def yX2_bestHorse : MethodName := ⟨RX2, "bestHorse", "(III)I"⟩
abbrev cX2_isBetter : ByteArray := prog_4_method_30_code
def yX2_isBetter : MethodName := ⟨RX2, "isBetter", "(III)Z"⟩
abbrev cX2_passHour : ByteArray := prog_4_method_31_code
def yX2_passHour : MethodName := ⟨RX2, "passHour", "(Z)V"⟩
abbrev cX2_giveLessons : ByteArray := prog_4_method_32_code
def yX2_giveLessons : MethodName := ⟨RX2, "giveLessons", "(I)I"⟩
abbrev cX2_giveLesson : ByteArray := prog_4_method_33_code
def yX2_giveLesson : MethodName := ⟨RX2, "giveLesson", "(III)I"⟩
abbrev cX2_letFall : ByteArray := prog_4_method_34_code
def yX2_letFall : MethodName := ⟨RX2, "letFall", "(II)V"⟩
abbrev cX2_letLearn : ByteArray := prog_4_method_35_code
def yX2_letLearn : MethodName := ⟨RX2, "letLearn", "(I)V"⟩
abbrev cX2_strain : ByteArray := prog_4_method_36_code
def yX2_strain : MethodName := ⟨RX2, "strain", "(II)V"⟩
abbrev cX2_fallsSoFar : ByteArray := prog_4_method_37_code
def yX2_fallsSoFar : MethodName := ⟨RX2, "fallsSoFar", "()I"⟩
abbrev cX2_ofFall : ByteArray := prog_4_method_38_code
def yX2_ofFall : MethodName := ⟨RX2, "ofFall", "(II)I"⟩
def RX3 : String := "LessonHorses$Table"
def TX3 : u_T := fun k => match k with
  | 0 => ("LessonHorses$Table", "width", "I", true)
  | _ => ("LessonHorses$Table", "cells", "[I", true)
def tyX3 : Nat → FieldType := fun k => match k with
  | 0 => .int
  | _ => .array .int
abbrev wsX30 : List Cond := u_ws RX3 TX3 2
theorem nmX3 : ∀ a, a < 2 → ∀ b, b < 2 → a ≠ b → (TX3 a).2.1 ≠ (TX3 b).2.1 := by decide +kernel
theorem tyX3_ok : ∀ k, k < 2 → parseFieldDescriptor (TX3 k).2.2.1 = some (tyX3 k) := by decide +kernel
abbrev cX3_init : ByteArray := prog_5_method_1_code
def yX3_init : MethodName := ⟨RX3, "<init>", "(II)V"⟩
abbrev cX3_at : ByteArray := prog_5_method_2_code
def yX3_at : MethodName := ⟨RX3, "at", "(II)I"⟩
abbrev cX3_put : ByteArray := prog_5_method_3_code
def yX3_put : MethodName := ⟨RX3, "put", "(III)V"⟩
abbrev cX3_add : ByteArray := prog_5_method_4_code
def yX3_add : MethodName := ⟨RX3, "add", "(III)V"⟩
abbrev cX3_takeAway : ByteArray := prog_5_method_5_code
def yX3_takeAway : MethodName := ⟨RX3, "takeAway", "(III)V"⟩
abbrev cX3_addUpTo : ByteArray := prog_5_method_6_code
def yX3_addUpTo : MethodName := ⟨RX3, "addUpTo", "(III)V"⟩
abbrev cX3_sum : ByteArray := prog_5_method_7_code
def yX3_sum : MethodName := ⟨RX3, "sum", "(I)I"⟩
abbrev cX3_moveColumn : ByteArray := prog_5_method_8_code
def yX3_moveColumn : MethodName := ⟨RX3, "moveColumn", "(III)V"⟩
abbrev cX3_copyFrom : ByteArray := prog_5_method_9_code
def yX3_copyFrom : MethodName := ⟨RX3, "copyFrom", "(LLessonHorses$Table;)V"⟩
def RX4 : String := "LessonHorses$Text"
def TX4 : u_T := fun k => match k with
  | 0 => ("LessonHorses$Text", "characters", "[C", true)
  | _ => ("LessonHorses$Text", "length", "I", false)
def tyX4 : Nat → FieldType := fun k => match k with
  | 0 => .array .char
  | _ => .int
abbrev wsX40 : List Cond := u_ws RX4 TX4 2
theorem nmX4 : ∀ a, a < 2 → ∀ b, b < 2 → a ≠ b → (TX4 a).2.1 ≠ (TX4 b).2.1 := by decide +kernel
theorem tyX4_ok : ∀ k, k < 2 → parseFieldDescriptor (TX4 k).2.2.1 = some (tyX4 k) := by decide +kernel
abbrev cX4_init : ByteArray := prog_6_method_1_code
def yX4_init : MethodName := ⟨RX4, "<init>", "()V"⟩
abbrev cX4_length : ByteArray := prog_6_method_2_code
def yX4_length : MethodName := ⟨RX4, "length", "()I"⟩
def RX5 : String := "LessonHorses"
def TX5 : u_T := fun k => match k with
  | 0 => ("LessonHorses", "now", "LLessonHorses$Stable;", true)
  | 1 => ("LessonHorses", "ahead", "LLessonHorses$Stable;", true)
  | 2 => ("LessonHorses", "snapshot", "LLessonHorses$Stable;", true)
  | 3 => ("LessonHorses", "hasSnapshot", "Z", false)
  | 4 => ("LessonHorses", "history", "LLessonHorses$History;", true)
  | 5 => ("LessonHorses", "text", "LLessonHorses$Text;", true)
  | _ => ("LessonHorses", "plan", "LLessonHorses$Plan;", true)
def tyX5 : Nat → FieldType := fun k => match k with
  | 0 => .object "LessonHorses$Stable"
  | 1 => .object "LessonHorses$Stable"
  | 2 => .object "LessonHorses$Stable"
  | 3 => .boolean
  | 4 => .object "LessonHorses$History"
  | 5 => .object "LessonHorses$Text"
  | _ => .object "LessonHorses$Plan"
abbrev wsX50 : List Cond := u_ws RX5 TX5 7
theorem nmX5 : ∀ a, a < 7 → ∀ b, b < 7 → a ≠ b → (TX5 a).2.1 ≠ (TX5 b).2.1 := by decide +kernel
theorem tyX5_ok : ∀ k, k < 7 → parseFieldDescriptor (TX5 k).2.2.1 = some (tyX5 k) := by decide +kernel
abbrev cX5_init : ByteArray := prog_1_method_1_code
def yX5_init : MethodName := ⟨RX5, "<init>", "()V"⟩
abbrev cX5_setHorse : ByteArray := prog_1_method_2_code
def yX5_setHorse : MethodName := ⟨RX5, "setHorse", "(III)I"⟩
abbrev cX5_setRider : ByteArray := prog_1_method_3_code
def yX5_setRider : MethodName := ⟨RX5, "setRider", "(III)I"⟩
abbrev cX5_set : ByteArray := prog_1_method_4_code
def yX5_set : MethodName := ⟨RX5, "set", "(II)I"⟩
abbrev cX5_book : ByteArray := prog_1_method_5_code
def yX5_book : MethodName := ⟨RX5, "book", "(III)I"⟩
abbrev cX5_cancel : ByteArray := prog_1_method_6_code
def yX5_cancel : MethodName := ⟨RX5, "cancel", "(II)I"⟩
abbrev cX5_pass : ByteArray := prog_1_method_7_code
def yX5_pass : MethodName := ⟨RX5, "pass", "(I)I"⟩
abbrev cX5_undo : ByteArray := prog_1_method_11_code
def yX5_undo : MethodName := ⟨RX5, "undo", "()I"⟩
abbrev cX5_horse : ByteArray := prog_1_method_14_code
def yX5_horse : MethodName := ⟨RX5, "horse", "(II)I"⟩
abbrev cX5_rider : ByteArray := prog_1_method_15_code
def yX5_rider : MethodName := ⟨RX5, "rider", "(II)I"⟩
abbrev cX5_lesson : ByteArray := prog_1_method_16_code
def yX5_lesson : MethodName := ⟨RX5, "lesson", "(III)I"⟩
abbrev cX5_fall : ByteArray := prog_1_method_17_code
def yX5_fall : MethodName := ⟨RX5, "fall", "(II)I"⟩
abbrev cX5_reason : ByteArray := prog_1_method_18_code
def yX5_reason : MethodName := ⟨RX5, "reason", "(II)I"⟩
abbrev cX5_best : ByteArray := prog_1_method_19_code
def yX5_best : MethodName := ⟨RX5, "best", "(I)I"⟩
abbrev cX5_takenIn : ByteArray := prog_1_method_20_code
def yX5_takenIn : MethodName := ⟨RX5, "takenIn", "(II)I"⟩
abbrev cX5_busiest : ByteArray := prog_1_method_22_code
def yX5_busiest : MethodName := ⟨RX5, "busiest", "()I"⟩
abbrev cX5_count : ByteArray := prog_1_method_23_code
def yX5_count : MethodName := ⟨RX5, "count", "(I)I"⟩
abbrev cX5_isOutside : ByteArray := prog_1_method_24_code
def yX5_isOutside : MethodName := ⟨RX5, "isOutside", "(III)Z"⟩
abbrev cX5_isNoHorse : ByteArray := prog_1_method_25_code
def yX5_isNoHorse : MethodName := ⟨RX5, "isNoHorse", "(I)Z"⟩
abbrev cX5_isNoRider : ByteArray := prog_1_method_26_code
def yX5_isNoRider : MethodName := ⟨RX5, "isNoRider", "(I)Z"⟩
abbrev cX5_isNoRing : ByteArray := prog_1_method_27_code
def yX5_isNoRing : MethodName := ⟨RX5, "isNoRing", "(I)Z"⟩
abbrev cX5_entry : ByteArray := prog_1_method_28_code
def yX5_entry : MethodName := ⟨RX5, "entry", "([II)I"⟩
def RX6 : String := "LessonHorsesModel"
def TX6 : u_T := fun k => match k with
  | _ => ("", "", "", false)
def tyX6 : Nat → FieldType := fun k => match k with
  | _ => .int
abbrev wsX60 : List Cond := u_ws RX6 TX6 0
theorem nmX6 : ∀ a, a < 0 → ∀ b, b < 0 → a ≠ b → (TX6 a).2.1 ≠ (TX6 b).2.1 := by decide +kernel
theorem tyX6_ok : ∀ k, k < 0 → parseFieldDescriptor (TX6 k).2.2.1 = some (tyX6 k) := by decide +kernel
def RJ9 : String := "java/lang/Math"
def TJ9 : u_T := fun k => match k with
  | _ => ("", "", "", false)
def tyJ9 : Nat → FieldType := fun k => match k with
  | _ => .int
abbrev wsJ90 : List Cond := u_ws RJ9 TJ9 0
theorem nmJ9 : ∀ a, a < 0 → ∀ b, b < 0 → a ≠ b → (TJ9 a).2.1 ≠ (TJ9 b).2.1 := by decide +kernel
theorem tyJ9_ok : ∀ k, k < 0 → parseFieldDescriptor (TJ9 k).2.2.1 = some (tyJ9 k) := by decide +kernel
abbrev cJ9_max_7cf53 : ByteArray := prog_9_method_65_code
def yJ9_max_7cf53 : MethodName := ⟨RJ9, "max", "(II)I"⟩
abbrev cJ9_min_7cf53 : ByteArray := prog_9_method_69_code
def yJ9_min_7cf53 : MethodName := ⟨RJ9, "min", "(II)I"⟩
def RJ10 : String := "java/lang/System"
def TJ10 : u_T := fun k => match k with
  | _ => ("", "", "", false)
def tyJ10 : Nat → FieldType := fun k => match k with
  | _ => .int
abbrev wsJ100 : List Cond := u_ws RJ10 TJ10 0
theorem nmJ10 : ∀ a, a < 0 → ∀ b, b < 0 → a ≠ b → (TJ10 a).2.1 ≠ (TJ10 b).2.1 := by decide +kernel
theorem tyJ10_ok : ∀ k, k < 0 → parseFieldDescriptor (TJ10 k).2.2.1 = some (tyJ10 k) := by decide +kernel
def RL : String := "LessonHorsesLaw"
abbrev cL_cell : ByteArray := method_2_code
def yL_cell : MethodName := ⟨RL, "cell", "([II)I"⟩
abbrev cL_low : ByteArray := method_3_code
def yL_low : MethodName := ⟨RL, "low", "(II)I"⟩
abbrev cL_act : ByteArray := method_4_code
def yL_act : MethodName := ⟨RL, "act", "(LLessonHorses;I)I"⟩
abbrev cL_areAlike : ByteArray := method_5_code
def yL_areAlike : MethodName := ⟨RL, "areAlike", "(LLessonHorses;LLessonHorses;)Z"⟩
abbrev cL_areSums : ByteArray := method_6_code
def yL_areSums : MethodName := ⟨RL, "areSums", "(LLessonHorses;)Z"⟩
abbrev cL_areLessonsSo : ByteArray := method_7_code
def yL_areLessonsSo : MethodName := ⟨RL, "areLessonsSo", "(LLessonHorses;)Z"⟩
abbrev cL_isBestSo : ByteArray := method_8_code
def yL_isBestSo : MethodName := ⟨RL, "isBestSo", "(LLessonHorses;I)Z"⟩
abbrev cL_law : ByteArray := code
def yL_law : MethodName := ⟨RL, "law", "([I)Z"⟩
abbrev vwCl : List vw_C := [(RX0, TX0, 3), (RX1, TX1, 6), (RX2, TX2, 8), (RX3, TX3, 2), (RX4, TX4, 2), (RX5, TX5, 7)]
/-- every word that may ride in a contract -/
def wsG : List Cond := lw_tbl.filter goodWord
theorem wsG_in : ∀ w ∈ wsG, w ∈ lw_tbl := fun _ h => (List.mem_filter.mp h).1
theorem wsG_good : ∀ w ∈ wsG, (w.onTables && w.keeps) = true ∨ ∃ ty, w = .arrayClass ty := fun _ h => good_of_word (List.mem_filter.mp h).2
theorem gTb1 {w : Cond} (h : w ∈ tables_1_1) : w ∈ lw_tbl := List.mem_append_right _ (show w ∈ tables_1_1 ++ tables_1_2 from List.mem_append_left _ h)
theorem gIn1 {w : Cond} (i : Nat) (h : tables_1_1[i]? = some w) (g : goodWord w = true) : w ∈ wsG := List.mem_filter.mpr ⟨gTb1 (List.mem_of_getElem? h), g⟩
theorem gTb2 {w : Cond} (h : w ∈ tables_1_2) : w ∈ lw_tbl := List.mem_append_right _ (show w ∈ tables_1_1 ++ tables_1_2 from List.mem_append_right _ (h))
theorem gIn2 {w : Cond} (i : Nat) (h : tables_1_2[i]? = some w) (g : goodWord w = true) : w ∈ wsG := List.mem_filter.mpr ⟨gTb2 (List.mem_of_getElem? h), g⟩
theorem in_L : (Cond.initialized "LessonHorsesLaw") ∈ wsG := gIn1 0 rfl rfl
theorem in_X5 : (Cond.initialized "LessonHorses") ∈ wsG := gIn1 1 rfl rfl
theorem in_X2 : (Cond.initialized "LessonHorses$Stable") ∈ wsG := gIn1 2 rfl rfl
theorem in_X3 : (Cond.initialized "LessonHorses$Table") ∈ wsG := gIn1 3 rfl rfl
theorem in_X0 : (Cond.initialized "LessonHorses$History") ∈ wsG := gIn1 4 rfl rfl
theorem in_X4 : (Cond.initialized "LessonHorses$Text") ∈ wsG := gIn1 5 rfl rfl
theorem in_X1 : (Cond.initialized "LessonHorses$Plan") ∈ wsG := gIn1 6 rfl rfl
theorem in_J10 : (Cond.initialized "java/lang/System") ∈ wsG := gIn1 7 rfl rfl
theorem in_J9 : (Cond.initialized "java/lang/Math") ∈ wsG := gIn1 8 rfl rfl
theorem cl_L_15 : (Cond.classLink "LessonHorsesLaw" 15 "LessonHorses") ∈ wsG := gIn1 9 rfl rfl
theorem is_X5 : (Cond.instantiable "LessonHorses" 7) ∈ wsG := gIn1 10 rfl rfl
theorem ml_L_64 : (Cond.methodLink "LessonHorsesLaw" 64 yX5_init) ∈ wsG := gIn1 11 rfl rfl
theorem im_X5_init : (Cond.instanceMethod yX5_init) ∈ wsG := gIn1 12 rfl rfl
theorem cd_X5_init : (Cond.code yX5_init prog_1_method_1_code 1 (Option.none)) ∈ wsG := gIn1 13 rfl rfl
theorem ml_X5_1 : (Cond.methodLink "LessonHorses" 1 ⟨"java/lang/Object", "<init>", "()V"⟩) ∈ wsG := gIn1 14 rfl rfl
theorem im_Obj_init : (Cond.instanceMethod ⟨"java/lang/Object", "<init>", "()V"⟩) ∈ wsG := gIn1 15 rfl rfl
theorem cd_Obj_init : (Cond.code ⟨"java/lang/Object", "<init>", "()V"⟩ object_method_1_code 1 (Option.none)) ∈ wsG := gIn1 16 rfl rfl
theorem cl_X5_7 : (Cond.classLink "LessonHorses" 7 "LessonHorses$Stable") ∈ wsG := gIn1 17 rfl rfl
theorem is_X2 : (Cond.instantiable "LessonHorses$Stable" 8) ∈ wsG := gIn1 18 rfl rfl
theorem ml_X5_9 : (Cond.methodLink "LessonHorses" 9 yX2_init) ∈ wsG := gIn1 19 rfl rfl
theorem im_X2_init : (Cond.instanceMethod yX2_init) ∈ wsG := gIn1 20 rfl rfl
theorem cd_X2_init : (Cond.code yX2_init prog_4_method_1_code 2 (Option.none)) ∈ wsG := gIn1 21 rfl rfl
theorem ml_X2_3 : (Cond.methodLink "LessonHorses$Stable" 3 ⟨"java/lang/Object", "<init>", "()V"⟩) ∈ wsG := gIn1 22 rfl rfl
theorem cl_X2_9 : (Cond.classLink "LessonHorses$Stable" 9 "LessonHorses$Table") ∈ wsG := gIn1 23 rfl rfl
theorem is_X3 : (Cond.instantiable "LessonHorses$Table" 2) ∈ wsG := gIn1 24 rfl rfl
theorem ml_X2_11 : (Cond.methodLink "LessonHorses$Stable" 11 yX3_init) ∈ wsG := gIn1 25 rfl rfl
theorem im_X3_init : (Cond.instanceMethod yX3_init) ∈ wsG := gIn1 26 rfl rfl
theorem cd_X3_init : (Cond.code yX3_init prog_5_method_1_code 4 (Option.none)) ∈ wsG := gIn1 27 rfl rfl
theorem ml_X3_1 : (Cond.methodLink "LessonHorses$Table" 1 ⟨"java/lang/Object", "<init>", "()V"⟩) ∈ wsG := gIn1 28 rfl rfl
theorem fl_X3_7 : (Cond.fieldLink "LessonHorses$Table" 7 "LessonHorses$Table" "width" "I") ∈ wsG := gIn1 29 rfl rfl
theorem fl_X3_13 : (Cond.fieldLink "LessonHorses$Table" 13 "LessonHorses$Table" "cells" "[I") ∈ wsG := gIn1 30 rfl rfl
theorem ly_X3_width : (Cond.laysFinal "LessonHorses$Table" "LessonHorses$Table" "width" "I") ∈ wsG := gIn1 31 rfl rfl
theorem ly_X3_cells : (Cond.laysFinal "LessonHorses$Table" "LessonHorses$Table" "cells" "[I") ∈ wsG := gIn1 33 rfl rfl
theorem ac_int : (Cond.arrayClass .int) ∈ wsG := gIn1 36 rfl rfl
theorem fn_X2_32 : (Cond.fieldLinkNest "LessonHorses$Stable" 32 "LessonHorses" "FIRST_OF_SETTING" "[I" "LessonHorses") ∈ lw_tbl := gTb1 (List.mem_of_getElem? (i := 37) rfl)
theorem ls_X5_FIRST_OF_SETTING : (Cond.laysStatic "LessonHorses" "FIRST_OF_SETTING" "[I") ∈ lw_tbl := gTb1 (List.mem_of_getElem? (i := 38) rfl)
theorem mn_X2_36 : (Cond.methodLinkNest "LessonHorses$Stable" 36 yX5_entry "LessonHorses") ∈ lw_tbl := gTb1 (List.mem_of_getElem? (i := 39) rfl)
theorem st_X5_entry : (Cond.static yX5_entry) ∈ wsG := gIn1 40 rfl rfl
theorem cd_X5_entry : (Cond.code yX5_entry prog_1_method_28_code 2 (Option.some FieldType.int)) ∈ wsG := gIn1 41 rfl rfl
theorem ml_X2_40 : (Cond.methodLink "LessonHorses$Stable" 40 yX3_put) ∈ wsG := gIn1 42 rfl rfl
theorem im_X3_put : (Cond.instanceMethod yX3_put) ∈ wsG := gIn1 43 rfl rfl
theorem sl_X3_put : (Cond.selects "LessonHorses$Table" yX3_put yX3_put) ∈ wsG := gIn1 44 rfl rfl
theorem cd_X3_put : (Cond.code yX3_put prog_5_method_3_code 5 (Option.none)) ∈ wsG := gIn1 45 rfl rfl
theorem fl_X2_44 : (Cond.fieldLink "LessonHorses$Stable" 44 "LessonHorses$Stable" "time" "I") ∈ wsG := gIn1 46 rfl rfl
theorem fl_X2_14 : (Cond.fieldLink "LessonHorses$Stable" 14 "LessonHorses$Stable" "settings" "LLessonHorses$Table;") ∈ wsG := gIn1 47 rfl rfl
theorem fl_X2_20 : (Cond.fieldLink "LessonHorses$Stable" 20 "LessonHorses$Stable" "horses" "LLessonHorses$Table;") ∈ wsG := gIn1 48 rfl rfl
theorem fl_X2_23 : (Cond.fieldLink "LessonHorses$Stable" 23 "LessonHorses$Stable" "riders" "LLessonHorses$Table;") ∈ wsG := gIn1 49 rfl rfl
theorem fl_X2_26 : (Cond.fieldLink "LessonHorses$Stable" 26 "LessonHorses$Stable" "bookings" "LLessonHorses$Table;") ∈ wsG := gIn1 50 rfl rfl
theorem fl_X2_52 : (Cond.fieldLink "LessonHorses$Stable" 52 "LessonHorses$Stable" "bookingCount" "I") ∈ wsG := gIn1 51 rfl rfl
theorem fl_X2_29 : (Cond.fieldLink "LessonHorses$Stable" 29 "LessonHorses$Stable" "falls" "LLessonHorses$Table;") ∈ wsG := gIn1 52 rfl rfl
theorem fl_X2_55 : (Cond.fieldLink "LessonHorses$Stable" 55 "LessonHorses$Stable" "fallCount" "I") ∈ wsG := gIn1 53 rfl rfl
theorem ly_X2_time : (Cond.lays "LessonHorses$Stable" "LessonHorses$Stable" "time" "I") ∈ wsG := gIn1 54 rfl rfl
theorem ly_X2_settings : (Cond.laysFinal "LessonHorses$Stable" "LessonHorses$Stable" "settings" "LLessonHorses$Table;") ∈ wsG := gIn1 56 rfl rfl
theorem ly_X2_horses : (Cond.laysFinal "LessonHorses$Stable" "LessonHorses$Stable" "horses" "LLessonHorses$Table;") ∈ wsG := gIn1 58 rfl rfl
theorem ly_X2_riders : (Cond.laysFinal "LessonHorses$Stable" "LessonHorses$Stable" "riders" "LLessonHorses$Table;") ∈ wsG := gIn1 60 rfl rfl
theorem ly_X2_bookings : (Cond.laysFinal "LessonHorses$Stable" "LessonHorses$Stable" "bookings" "LLessonHorses$Table;") ∈ wsG := gIn1 62 rfl rfl
theorem ly_X2_bookingCount : (Cond.lays "LessonHorses$Stable" "LessonHorses$Stable" "bookingCount" "I") ∈ wsG := gIn1 64 rfl rfl
theorem ly_X2_falls : (Cond.laysFinal "LessonHorses$Stable" "LessonHorses$Stable" "falls" "LLessonHorses$Table;") ∈ wsG := gIn1 66 rfl rfl
theorem ly_X2_fallCount : (Cond.lays "LessonHorses$Stable" "LessonHorses$Stable" "fallCount" "I") ∈ wsG := gIn1 68 rfl rfl
theorem cl_X5_22 : (Cond.classLink "LessonHorses" 22 "LessonHorses$History") ∈ wsG := gIn1 71 rfl rfl
theorem is_X0 : (Cond.instantiable "LessonHorses$History" 3) ∈ wsG := gIn1 72 rfl rfl
theorem ml_X5_24 : (Cond.methodLink "LessonHorses" 24 yX0_init) ∈ wsG := gIn1 73 rfl rfl
theorem im_X0_init : (Cond.instanceMethod yX0_init) ∈ wsG := gIn1 74 rfl rfl
theorem cd_X0_init : (Cond.code yX0_init prog_2_method_1_code 2 (Option.none)) ∈ wsG := gIn1 75 rfl rfl
theorem ml_X0_3 : (Cond.methodLink "LessonHorses$History" 3 ⟨"java/lang/Object", "<init>", "()V"⟩) ∈ wsG := gIn1 76 rfl rfl
theorem cl_X0_9 : (Cond.classLink "LessonHorses$History" 9 "LessonHorses$Stable") ∈ wsG := gIn1 77 rfl rfl
theorem ao_Stable : (Cond.arrayOver (FieldType.object "LessonHorses$Stable")) ∈ lw_tbl := gTb1 (List.mem_of_getElem? (i := 78) rfl)
theorem ml_X0_17 : (Cond.methodLink "LessonHorses$History" 17 yX2_init) ∈ wsG := gIn1 79 rfl rfl
theorem fl_X0_11 : (Cond.fieldLink "LessonHorses$History" 11 "LessonHorses$History" "states" "[LLessonHorses$Stable;") ∈ wsG := gIn1 80 rfl rfl
theorem fl_X0_22 : (Cond.fieldLink "LessonHorses$History" 22 "LessonHorses$History" "next" "I") ∈ wsG := gIn1 81 rfl rfl
theorem fl_X0_18 : (Cond.fieldLink "LessonHorses$History" 18 "LessonHorses$History" "size" "I") ∈ wsG := gIn1 82 rfl rfl
theorem ly_X0_states : (Cond.laysFinal "LessonHorses$History" "LessonHorses$History" "states" "[LLessonHorses$Stable;") ∈ wsG := gIn1 83 rfl rfl
theorem ly_X0_next : (Cond.lays "LessonHorses$History" "LessonHorses$History" "next" "I") ∈ wsG := gIn1 85 rfl rfl
theorem ly_X0_size : (Cond.lays "LessonHorses$History" "LessonHorses$History" "size" "I") ∈ wsG := gIn1 87 rfl rfl
theorem cl_X5_29 : (Cond.classLink "LessonHorses" 29 "LessonHorses$Text") ∈ wsG := gIn1 90 rfl rfl
theorem is_X4 : (Cond.instantiable "LessonHorses$Text" 2) ∈ wsG := gIn1 91 rfl rfl
theorem mn_X5_31 : (Cond.methodLinkNest "LessonHorses" 31 yX4_init "LessonHorses") ∈ lw_tbl := gTb1 (List.mem_of_getElem? (i := 92) rfl)
theorem im_X4_init : (Cond.instanceMethod yX4_init) ∈ wsG := gIn1 93 rfl rfl
theorem cd_X4_init : (Cond.code yX4_init prog_6_method_1_code 1 (Option.none)) ∈ wsG := gIn1 94 rfl rfl
theorem ml_X4_3 : (Cond.methodLink "LessonHorses$Text" 3 ⟨"java/lang/Object", "<init>", "()V"⟩) ∈ wsG := gIn1 95 rfl rfl
theorem fl_X4_9 : (Cond.fieldLink "LessonHorses$Text" 9 "LessonHorses$Text" "characters" "[C") ∈ wsG := gIn1 96 rfl rfl
theorem fl_X4_15 : (Cond.fieldLink "LessonHorses$Text" 15 "LessonHorses$Text" "length" "I") ∈ wsG := gIn1 97 rfl rfl
theorem ly_X4_characters : (Cond.laysFinal "LessonHorses$Text" "LessonHorses$Text" "characters" "[C") ∈ wsG := gIn1 98 rfl rfl
theorem ly_X4_length : (Cond.lays "LessonHorses$Text" "LessonHorses$Text" "length" "I") ∈ wsG := gIn1 100 rfl rfl
theorem ac_char : (Cond.arrayClass .char) ∈ wsG := gIn1 103 rfl rfl
theorem cl_X5_36 : (Cond.classLink "LessonHorses" 36 "LessonHorses$Plan") ∈ wsG := gIn1 104 rfl rfl
theorem is_X1 : (Cond.instantiable "LessonHorses$Plan" 6) ∈ wsG := gIn1 105 rfl rfl
theorem mn_X5_38 : (Cond.methodLinkNest "LessonHorses" 38 yX1_init "LessonHorses") ∈ lw_tbl := gTb1 (List.mem_of_getElem? (i := 106) rfl)
theorem im_X1_init : (Cond.instanceMethod yX1_init) ∈ wsG := gIn1 107 rfl rfl
theorem cd_X1_init : (Cond.code yX1_init prog_3_method_1_code 1 (Option.none)) ∈ wsG := gIn1 108 rfl rfl
theorem ml_X1_3 : (Cond.methodLink "LessonHorses$Plan" 3 ⟨"java/lang/Object", "<init>", "()V"⟩) ∈ wsG := gIn1 109 rfl rfl
theorem cl_X1_9 : (Cond.classLink "LessonHorses$Plan" 9 "LessonHorses$Table") ∈ wsG := gIn1 110 rfl rfl
theorem ml_X1_13 : (Cond.methodLink "LessonHorses$Plan" 13 yX3_init) ∈ wsG := gIn1 111 rfl rfl
theorem fl_X1_16 : (Cond.fieldLink "LessonHorses$Plan" 16 "LessonHorses$Plan" "entries" "LLessonHorses$Table;") ∈ wsG := gIn1 112 rfl rfl
theorem ly_X1_entries : (Cond.laysFinal "LessonHorses$Plan" "LessonHorses$Plan" "entries" "LLessonHorses$Table;") ∈ wsG := gIn1 113 rfl rfl
theorem ly_X1_size : (Cond.lays "LessonHorses$Plan" "LessonHorses$Plan" "size" "I") ∈ wsG := gIn1 115 rfl rfl
theorem ly_X1_place : (Cond.lays "LessonHorses$Plan" "LessonHorses$Plan" "place" "I") ∈ wsG := gIn1 117 rfl rfl
theorem ly_X1_number : (Cond.lays "LessonHorses$Plan" "LessonHorses$Plan" "number" "I") ∈ wsG := gIn1 119 rfl rfl
theorem ly_X1_hours : (Cond.lays "LessonHorses$Plan" "LessonHorses$Plan" "hours" "I") ∈ wsG := gIn1 121 rfl rfl
theorem ly_X1_ring : (Cond.lays "LessonHorses$Plan" "LessonHorses$Plan" "ring" "I") ∈ wsG := gIn1 123 rfl rfl
theorem fl_X5_10 : (Cond.fieldLink "LessonHorses" 10 "LessonHorses" "now" "LLessonHorses$Stable;") ∈ wsG := gIn1 126 rfl rfl
theorem fl_X5_16 : (Cond.fieldLink "LessonHorses" 16 "LessonHorses" "ahead" "LLessonHorses$Stable;") ∈ wsG := gIn1 127 rfl rfl
theorem fl_X5_19 : (Cond.fieldLink "LessonHorses" 19 "LessonHorses" "snapshot" "LLessonHorses$Stable;") ∈ wsG := gIn1 128 rfl rfl
theorem fl_X5_25 : (Cond.fieldLink "LessonHorses" 25 "LessonHorses" "history" "LLessonHorses$History;") ∈ wsG := gIn1 129 rfl rfl
theorem fl_X5_32 : (Cond.fieldLink "LessonHorses" 32 "LessonHorses" "text" "LLessonHorses$Text;") ∈ wsG := gIn1 130 rfl rfl
theorem fl_X5_39 : (Cond.fieldLink "LessonHorses" 39 "LessonHorses" "plan" "LLessonHorses$Plan;") ∈ wsG := gIn1 131 rfl rfl
theorem ly_X5_now : (Cond.laysFinal "LessonHorses" "LessonHorses" "now" "LLessonHorses$Stable;") ∈ wsG := gIn1 132 rfl rfl
theorem ly_X5_ahead : (Cond.laysFinal "LessonHorses" "LessonHorses" "ahead" "LLessonHorses$Stable;") ∈ wsG := gIn1 134 rfl rfl
theorem ly_X5_snapshot : (Cond.laysFinal "LessonHorses" "LessonHorses" "snapshot" "LLessonHorses$Stable;") ∈ wsG := gIn1 136 rfl rfl
theorem ly_X5_hasSnapshot : (Cond.lays "LessonHorses" "LessonHorses" "hasSnapshot" "Z") ∈ wsG := gIn1 138 rfl rfl
theorem ly_X5_history : (Cond.laysFinal "LessonHorses" "LessonHorses" "history" "LLessonHorses$History;") ∈ wsG := gIn1 140 rfl rfl
theorem ly_X5_text : (Cond.laysFinal "LessonHorses" "LessonHorses" "text" "LLessonHorses$Text;") ∈ wsG := gIn1 142 rfl rfl
theorem ly_X5_plan : (Cond.laysFinal "LessonHorses" "LessonHorses" "plan" "LLessonHorses$Plan;") ∈ wsG := gIn1 144 rfl rfl
theorem ml_L_77 : (Cond.methodLink "LessonHorsesLaw" 77 yX5_undo) ∈ wsG := gIn1 147 rfl rfl
theorem im_X5_undo : (Cond.instanceMethod yX5_undo) ∈ wsG := gIn1 148 rfl rfl
theorem sl_X5_undo : (Cond.selects "LessonHorses" yX5_undo yX5_undo) ∈ wsG := gIn1 149 rfl rfl
theorem cd_X5_undo : (Cond.code yX5_undo prog_1_method_11_code 1 (Option.some FieldType.int)) ∈ wsG := gIn1 150 rfl rfl
theorem ml_X5_154 : (Cond.methodLink "LessonHorses" 154 yX0_size) ∈ wsG := gIn1 151 rfl rfl
theorem im_X0_size : (Cond.instanceMethod yX0_size) ∈ wsG := gIn1 152 rfl rfl
theorem sl_X0_size : (Cond.selects "LessonHorses$History" yX0_size yX0_size) ∈ wsG := gIn1 153 rfl rfl
theorem cd_X0_size : (Cond.code yX0_size prog_2_method_2_code 1 (Option.some FieldType.int)) ∈ wsG := gIn1 154 rfl rfl
theorem ml_X5_155 : (Cond.methodLink "LessonHorses" 155 yX0_takeBack) ∈ wsG := gIn1 155 rfl rfl
theorem im_X0_takeBack : (Cond.instanceMethod yX0_takeBack) ∈ wsG := gIn1 156 rfl rfl
theorem sl_X0_takeBack : (Cond.selects "LessonHorses$History" yX0_takeBack yX0_takeBack) ∈ wsG := gIn1 157 rfl rfl
theorem cd_X0_takeBack : (Cond.code yX0_takeBack prog_2_method_5_code 3 (Option.none)) ∈ wsG := gIn1 158 rfl rfl
theorem ml_X0_39 : (Cond.methodLink "LessonHorses$History" 39 yJ9_max_7cf53) ∈ wsG := gIn1 159 rfl rfl
theorem st_J9_max_7cf53 : (Cond.static yJ9_max_7cf53) ∈ wsG := gIn1 160 rfl rfl
theorem cd_J9_max_7cf53 : (Cond.code yJ9_max_7cf53 prog_9_method_65_code 2 (Option.some FieldType.int)) ∈ wsG := gIn1 161 rfl rfl
theorem ml_X0_25 : (Cond.methodLink "LessonHorses$History" 25 yX0_stateAt) ∈ wsG := gIn1 162 rfl rfl
theorem im_X0_stateAt : (Cond.instanceMethod yX0_stateAt) ∈ wsG := gIn1 164 rfl rfl
theorem cd_X0_stateAt : (Cond.code yX0_stateAt prog_2_method_3_code 2 (Option.some (FieldType.object "LessonHorses$Stable"))) ∈ wsG := gIn1 165 rfl rfl
theorem ml_X0_29 : (Cond.methodLink "LessonHorses$History" 29 yX2_copyFrom) ∈ wsG := gIn1 166 rfl rfl
theorem im_X2_copyFrom : (Cond.instanceMethod yX2_copyFrom) ∈ wsG := gIn1 167 rfl rfl
theorem sl_X2_copyFrom : (Cond.selects "LessonHorses$Stable" yX2_copyFrom yX2_copyFrom) ∈ wsG := gIn1 168 rfl rfl
theorem cd_X2_copyFrom : (Cond.code yX2_copyFrom prog_4_method_2_code 2 (Option.none)) ∈ wsG := gIn1 169 rfl rfl
theorem ml_X2_48 : (Cond.methodLink "LessonHorses$Stable" 48 yX3_copyFrom) ∈ wsG := gIn1 170 rfl rfl
theorem im_X3_copyFrom : (Cond.instanceMethod yX3_copyFrom) ∈ wsG := gIn1 171 rfl rfl
theorem sl_X3_copyFrom : (Cond.selects "LessonHorses$Table" yX3_copyFrom yX3_copyFrom) ∈ wsG := gIn1 172 rfl rfl
theorem cd_X3_copyFrom : (Cond.code yX3_copyFrom prog_5_method_9_code 2 (Option.none)) ∈ wsG := gIn1 173 rfl rfl
theorem ml_X3_33 : (Cond.methodLink "LessonHorses$Table" 33 ⟨"java/lang/System", "arraycopy", "(Ljava/lang/Object;ILjava/lang/Object;II)V"⟩) ∈ wsG := gIn1 174 rfl rfl
theorem st_System_arraycopy : (Cond.static ⟨"java/lang/System", "arraycopy", "(Ljava/lang/Object;ILjava/lang/Object;II)V"⟩) ∈ wsG := gIn1 175 rfl rfl
theorem na_System_arraycopy : (Cond.native ⟨"java/lang/System", "arraycopy", "(Ljava/lang/Object;ILjava/lang/Object;II)V"⟩) ∈ wsG := gIn1 176 rfl rfl
theorem ml_L_36 : (Cond.methodLink "LessonHorsesLaw" 36 yX5_count) ∈ wsG := gIn1 177 rfl rfl
theorem im_X5_count : (Cond.instanceMethod yX5_count) ∈ wsG := gIn1 178 rfl rfl
theorem sl_X5_count : (Cond.selects "LessonHorses" yX5_count yX5_count) ∈ wsG := gIn1 179 rfl rfl
theorem cd_X5_count : (Cond.code yX5_count prog_1_method_23_code 2 (Option.some FieldType.int)) ∈ wsG := gIn1 180 rfl rfl
theorem ml_X5_114 : (Cond.methodLink "LessonHorses" 114 yX2_time) ∈ wsG := gIn1 181 rfl rfl
theorem im_X2_time : (Cond.instanceMethod yX2_time) ∈ wsG := gIn1 182 rfl rfl
theorem sl_X2_time : (Cond.selects "LessonHorses$Stable" yX2_time yX2_time) ∈ wsG := gIn1 183 rfl rfl
theorem cd_X2_time : (Cond.code yX2_time prog_4_method_3_code 1 (Option.some FieldType.int)) ∈ wsG := gIn1 184 rfl rfl
theorem ml_X5_192 : (Cond.methodLink "LessonHorses" 192 yX2_bookingsWaiting) ∈ wsG := gIn1 185 rfl rfl
theorem im_X2_bookingsWaiting : (Cond.instanceMethod yX2_bookingsWaiting) ∈ wsG := gIn1 186 rfl rfl
theorem sl_X2_bookingsWaiting : (Cond.selects "LessonHorses$Stable" yX2_bookingsWaiting yX2_bookingsWaiting) ∈ wsG := gIn1 187 rfl rfl
theorem cd_X2_bookingsWaiting : (Cond.code yX2_bookingsWaiting prog_4_method_14_code 1 (Option.some FieldType.int)) ∈ wsG := gIn1 188 rfl rfl
theorem ml_X5_118 : (Cond.methodLink "LessonHorses" 118 yX2_sumOfHorses) ∈ wsG := gIn1 189 rfl rfl
theorem im_X2_sumOfHorses : (Cond.instanceMethod yX2_sumOfHorses) ∈ wsG := gIn1 190 rfl rfl
theorem sl_X2_sumOfHorses : (Cond.selects "LessonHorses$Stable" yX2_sumOfHorses yX2_sumOfHorses) ∈ wsG := gIn1 191 rfl rfl
theorem cd_X2_sumOfHorses : (Cond.code yX2_sumOfHorses prog_4_method_8_code 2 (Option.some FieldType.int)) ∈ wsG := gIn1 192 rfl rfl
theorem ml_X2_62 : (Cond.methodLink "LessonHorses$Stable" 62 yX3_sum) ∈ wsG := gIn1 193 rfl rfl
theorem im_X3_sum : (Cond.instanceMethod yX3_sum) ∈ wsG := gIn1 194 rfl rfl
theorem sl_X3_sum : (Cond.selects "LessonHorses$Table" yX3_sum yX3_sum) ∈ wsG := gIn1 195 rfl rfl
theorem cd_X3_sum : (Cond.code yX3_sum prog_5_method_7_code 4 (Option.some FieldType.int)) ∈ wsG := gIn1 196 rfl rfl
theorem ml_X3_17 : (Cond.methodLink "LessonHorses$Table" 17 yX3_at) ∈ wsG := gIn1 197 rfl rfl
theorem im_X3_at : (Cond.instanceMethod yX3_at) ∈ wsG := gIn1 198 rfl rfl
theorem sl_X3_at : (Cond.selects "LessonHorses$Table" yX3_at yX3_at) ∈ wsG := gIn1 199 rfl rfl
theorem cd_X3_at : (Cond.code yX3_at prog_5_method_2_code 4 (Option.some FieldType.int)) ∈ wsG := gIn1 200 rfl rfl
theorem ml_X5_183 : (Cond.methodLink "LessonHorses" 183 yX2_fallsSoFar) ∈ wsG := gIn1 201 rfl rfl
theorem im_X2_fallsSoFar : (Cond.instanceMethod yX2_fallsSoFar) ∈ wsG := gIn1 202 rfl rfl
theorem sl_X2_fallsSoFar : (Cond.selects "LessonHorses$Stable" yX2_fallsSoFar yX2_fallsSoFar) ∈ wsG := gIn1 203 rfl rfl
theorem cd_X2_fallsSoFar : (Cond.code yX2_fallsSoFar prog_4_method_37_code 1 (Option.some FieldType.int)) ∈ wsG := gIn1 204 rfl rfl
theorem ml_X5_180 : (Cond.methodLink "LessonHorses" 180 yX2_sumOfRiders) ∈ wsG := gIn1 205 rfl rfl
theorem im_X2_sumOfRiders : (Cond.instanceMethod yX2_sumOfRiders) ∈ wsG := gIn1 206 rfl rfl
theorem sl_X2_sumOfRiders : (Cond.selects "LessonHorses$Stable" yX2_sumOfRiders yX2_sumOfRiders) ∈ wsG := gIn1 207 rfl rfl
theorem cd_X2_sumOfRiders : (Cond.code yX2_sumOfRiders prog_4_method_12_code 2 (Option.some FieldType.int)) ∈ wsG := gIn1 208 rfl rfl
theorem ml_X5_186 : (Cond.methodLink "LessonHorses" 186 yX2_lameHorses) ∈ wsG := gIn1 209 rfl rfl
theorem im_X2_lameHorses : (Cond.instanceMethod yX2_lameHorses) ∈ wsG := gIn1 210 rfl rfl
theorem sl_X2_lameHorses : (Cond.selects "LessonHorses$Stable" yX2_lameHorses yX2_lameHorses) ∈ wsG := gIn1 211 rfl rfl
theorem cd_X2_lameHorses : (Cond.code yX2_lameHorses prog_4_method_9_code 3 (Option.some FieldType.int)) ∈ wsG := gIn1 212 rfl rfl
theorem ml_X2_58 : (Cond.methodLink "LessonHorses$Stable" 58 yX3_at) ∈ wsG := gIn1 213 rfl rfl
theorem ml_X5_195 : (Cond.methodLink "LessonHorses" 195 yX2_isFarrierThere) ∈ wsG := gIn1 214 rfl rfl
theorem im_X2_isFarrierThere : (Cond.instanceMethod yX2_isFarrierThere) ∈ wsG := gIn1 215 rfl rfl
theorem sl_X2_isFarrierThere : (Cond.selects "LessonHorses$Stable" yX2_isFarrierThere yX2_isFarrierThere) ∈ wsG := gIn1 216 rfl rfl
theorem cd_X2_isFarrierThere : (Cond.code yX2_isFarrierThere prog_4_method_26_code 2 (Option.some FieldType.boolean)) ∈ wsG := gIn1 217 rfl rfl
theorem ml_X5_171 : (Cond.methodLink "LessonHorses" 171 yX2_farriersHorse) ∈ wsG := gIn1 218 rfl rfl
theorem im_X2_farriersHorse : (Cond.instanceMethod yX2_farriersHorse) ∈ wsG := gIn1 219 rfl rfl
theorem sl_X2_farriersHorse : (Cond.selects "LessonHorses$Stable" yX2_farriersHorse yX2_farriersHorse) ∈ wsG := gIn1 220 rfl rfl
theorem cd_X2_farriersHorse : (Cond.code yX2_farriersHorse prog_4_method_27_code 5 (Option.some FieldType.int)) ∈ wsG := gIn1 221 rfl rfl
theorem ml_X2_99 : (Cond.methodLink "LessonHorses$Stable" 99 yX2_isFarrierThere) ∈ wsG := gIn1 222 rfl rfl
theorem ml_X5_83 : (Cond.methodLink "LessonHorses" 83 yX2_setting) ∈ wsG := gIn1 223 rfl rfl
theorem im_X2_setting : (Cond.instanceMethod yX2_setting) ∈ wsG := gIn1 224 rfl rfl
theorem sl_X2_setting : (Cond.selects "LessonHorses$Stable" yX2_setting yX2_setting) ∈ wsG := gIn1 225 rfl rfl
theorem cd_X2_setting : (Cond.code yX2_setting prog_4_method_4_code 2 (Option.some FieldType.int)) ∈ wsG := gIn1 226 rfl rfl
theorem ml_X5_129 : (Cond.methodLink "LessonHorses" 129 yX4_length) ∈ wsG := gIn1 227 rfl rfl
theorem im_X4_length : (Cond.instanceMethod yX4_length) ∈ wsG := gIn1 228 rfl rfl
theorem sl_X4_length : (Cond.selects "LessonHorses$Text" yX4_length yX4_length) ∈ wsG := gIn1 229 rfl rfl
theorem cd_X4_length : (Cond.code yX4_length prog_6_method_2_code 1 (Option.some FieldType.int)) ∈ wsG := gIn1 230 rfl rfl
theorem ml_L_65 : (Cond.methodLink "LessonHorsesLaw" 65 yL_cell) ∈ wsG := gIn1 231 rfl rfl
theorem st_L_cell : (Cond.static yL_cell) ∈ wsG := gIn1 232 rfl rfl
theorem cd_L_cell : (Cond.code yL_cell method_2_code 2 (Option.some FieldType.int)) ∈ wsG := gIn1 233 rfl rfl
theorem ml_L_8 : (Cond.methodLink "LessonHorsesLaw" 8 yL_low) ∈ wsG := gIn1 234 rfl rfl
theorem st_L_low : (Cond.static yL_low) ∈ wsG := gIn1 235 rfl rfl
theorem cd_L_low : (Cond.code yL_low method_3_code 2 (Option.some FieldType.int)) ∈ wsG := gIn1 236 rfl rfl
theorem kt_L_7 : (Cond.constant "LessonHorsesLaw" 7 (2147483647)) ∈ wsG := gIn1 237 rfl rfl
theorem ml_L_69 : (Cond.methodLink "LessonHorsesLaw" 69 yL_act) ∈ wsG := gIn1 238 rfl rfl
theorem st_L_act : (Cond.static yL_act) ∈ wsG := gIn1 239 rfl rfl
theorem cd_L_act : (Cond.code yL_act method_4_code 4 (Option.some FieldType.int)) ∈ wsG := gIn2 0 rfl rfl
theorem ml_L_14 : (Cond.methodLink "LessonHorsesLaw" 14 yX5_book) ∈ wsG := gIn2 1 rfl rfl
theorem im_X5_book : (Cond.instanceMethod yX5_book) ∈ wsG := gIn2 2 rfl rfl
theorem sl_X5_book : (Cond.selects "LessonHorses" yX5_book yX5_book) ∈ wsG := gIn2 3 rfl rfl
theorem cd_X5_book : (Cond.code yX5_book prog_1_method_5_code 5 (Option.some FieldType.int)) ∈ wsG := gIn2 4 rfl rfl
theorem ml_X5_91 : (Cond.methodLink "LessonHorses" 91 yX5_isNoRing) ∈ wsG := gIn2 5 rfl rfl
theorem st_X5_isNoRing : (Cond.static yX5_isNoRing) ∈ wsG := gIn2 6 rfl rfl
theorem cd_X5_isNoRing : (Cond.code yX5_isNoRing prog_1_method_27_code 1 (Option.some FieldType.boolean)) ∈ wsG := gIn2 7 rfl rfl
theorem ml_X5_47 : (Cond.methodLink "LessonHorses" 47 yX5_isOutside) ∈ wsG := gIn2 8 rfl rfl
theorem st_X5_isOutside : (Cond.static yX5_isOutside) ∈ wsG := gIn2 9 rfl rfl
theorem cd_X5_isOutside : (Cond.code yX5_isOutside prog_1_method_24_code 3 (Option.some FieldType.boolean)) ∈ wsG := gIn2 10 rfl rfl
theorem ml_X5_63 : (Cond.methodLink "LessonHorses" 63 yX5_isNoRider) ∈ wsG := gIn2 11 rfl rfl
theorem st_X5_isNoRider : (Cond.static yX5_isNoRider) ∈ wsG := gIn2 12 rfl rfl
theorem cd_X5_isNoRider : (Cond.code yX5_isNoRider prog_1_method_26_code 1 (Option.some FieldType.boolean)) ∈ wsG := gIn2 13 rfl rfl
theorem ml_X5_94 : (Cond.methodLink "LessonHorses" 94 yX2_bookingError) ∈ wsG := gIn2 14 rfl rfl
theorem im_X2_bookingError : (Cond.instanceMethod yX2_bookingError) ∈ wsG := gIn2 15 rfl rfl
theorem sl_X2_bookingError : (Cond.selects "LessonHorses$Stable" yX2_bookingError yX2_bookingError) ∈ wsG := gIn2 16 rfl rfl
theorem cd_X2_bookingError : (Cond.code yX2_bookingError prog_4_method_23_code 5 (Option.some FieldType.int)) ∈ wsG := gIn2 17 rfl rfl
theorem ml_X2_84 : (Cond.methodLink "LessonHorses$Stable" 84 yX2_findBooking) ∈ wsG := gIn2 18 rfl rfl
theorem im_X2_findBooking : (Cond.instanceMethod yX2_findBooking) ∈ wsG := gIn2 19 rfl rfl
theorem sl_X2_findBooking : (Cond.selects "LessonHorses$Stable" yX2_findBooking yX2_findBooking) ∈ wsG := gIn2 20 rfl rfl
theorem cd_X2_findBooking : (Cond.code yX2_findBooking prog_4_method_18_code 4 (Option.some FieldType.int)) ∈ wsG := gIn2 21 rfl rfl
theorem ml_X2_77 : (Cond.methodLink "LessonHorses$Stable" 77 yX2_isBooked) ∈ wsG := gIn2 22 rfl rfl
theorem im_X2_isBooked : (Cond.instanceMethod yX2_isBooked) ∈ wsG := gIn2 24 rfl rfl
theorem cd_X2_isBooked : (Cond.code yX2_isBooked prog_4_method_16_code 3 (Option.some FieldType.boolean)) ∈ wsG := gIn2 25 rfl rfl
theorem ml_X2_87 : (Cond.methodLink "LessonHorses$Stable" 87 yX2_bookedFor) ∈ wsG := gIn2 26 rfl rfl
theorem im_X2_bookedFor : (Cond.instanceMethod yX2_bookedFor) ∈ wsG := gIn2 27 rfl rfl
theorem sl_X2_bookedFor : (Cond.selects "LessonHorses$Stable" yX2_bookedFor yX2_bookedFor) ∈ wsG := gIn2 28 rfl rfl
theorem cd_X2_bookedFor : (Cond.code yX2_bookedFor prog_4_method_19_code 5 (Option.some FieldType.int)) ∈ wsG := gIn2 29 rfl rfl
theorem ml_X2_81 : (Cond.methodLink "LessonHorses$Stable" 81 yX2_isBooked_) ∈ wsG := gIn2 30 rfl rfl
theorem im_X2_isBooked_ : (Cond.instanceMethod yX2_isBooked_) ∈ wsG := gIn2 32 rfl rfl
theorem cd_X2_isBooked_ : (Cond.code yX2_isBooked_ prog_4_method_17_code 4 (Option.some FieldType.boolean)) ∈ wsG := gIn2 33 rfl rfl
theorem fn_X2_90 : (Cond.fieldLinkNest "LessonHorses$Stable" 90 "LessonHorses" "ROOM_OF_RING" "[I" "LessonHorses") ∈ lw_tbl := gTb2 (List.mem_of_getElem? (i := 34) rfl)
theorem ls_X5_ROOM_OF_RING : (Cond.laysStatic "LessonHorses" "ROOM_OF_RING" "[I") ∈ lw_tbl := gTb2 (List.mem_of_getElem? (i := 35) rfl)
theorem ml_X5_55 : (Cond.methodLink "LessonHorses" 55 yX0_record) ∈ wsG := gIn2 36 rfl rfl
theorem im_X0_record : (Cond.instanceMethod yX0_record) ∈ wsG := gIn2 37 rfl rfl
theorem sl_X0_record : (Cond.selects "LessonHorses$History" yX0_record yX0_record) ∈ wsG := gIn2 38 rfl rfl
theorem cd_X0_record : (Cond.code yX0_record prog_2_method_4_code 3 (Option.none)) ∈ wsG := gIn2 39 rfl rfl
theorem ml_X0_33 : (Cond.methodLink "LessonHorses$History" 33 yJ9_min_7cf53) ∈ wsG := gIn2 40 rfl rfl
theorem st_J9_min_7cf53 : (Cond.static yJ9_min_7cf53) ∈ wsG := gIn2 41 rfl rfl
theorem cd_J9_min_7cf53 : (Cond.code yJ9_min_7cf53 prog_9_method_69_code 2 (Option.some FieldType.int)) ∈ wsG := gIn2 42 rfl rfl
theorem ml_X5_98 : (Cond.methodLink "LessonHorses" 98 yX2_addBooking) ∈ wsG := gIn2 43 rfl rfl
theorem im_X2_addBooking : (Cond.instanceMethod yX2_addBooking) ∈ wsG := gIn2 44 rfl rfl
theorem sl_X2_addBooking : (Cond.selects "LessonHorses$Stable" yX2_addBooking yX2_addBooking) ∈ wsG := gIn2 45 rfl rfl
theorem cd_X2_addBooking : (Cond.code yX2_addBooking prog_4_method_24_code 4 (Option.none)) ∈ wsG := gIn2 46 rfl rfl
theorem ml_X2_93 : (Cond.methodLink "LessonHorses$Stable" 93 yJ9_min_7cf53) ∈ wsG := gIn2 47 rfl rfl
theorem ml_X5_101 : (Cond.methodLink "LessonHorses" 101 yX2_bookedFor) ∈ wsG := gIn2 48 rfl rfl
theorem ml_L_20 : (Cond.methodLink "LessonHorsesLaw" 20 yX5_cancel) ∈ wsG := gIn2 49 rfl rfl
theorem im_X5_cancel : (Cond.instanceMethod yX5_cancel) ∈ wsG := gIn2 50 rfl rfl
theorem sl_X5_cancel : (Cond.selects "LessonHorses" yX5_cancel yX5_cancel) ∈ wsG := gIn2 51 rfl rfl
theorem cd_X5_cancel : (Cond.code yX5_cancel prog_1_method_6_code 5 (Option.some FieldType.int)) ∈ wsG := gIn2 52 rfl rfl
theorem ml_X5_104 : (Cond.methodLink "LessonHorses" 104 yX2_findBooking) ∈ wsG := gIn2 53 rfl rfl
theorem ml_X5_107 : (Cond.methodLink "LessonHorses" 107 yX2_ringOfBooking) ∈ wsG := gIn2 54 rfl rfl
theorem im_X2_ringOfBooking : (Cond.instanceMethod yX2_ringOfBooking) ∈ wsG := gIn2 55 rfl rfl
theorem sl_X2_ringOfBooking : (Cond.selects "LessonHorses$Stable" yX2_ringOfBooking yX2_ringOfBooking) ∈ wsG := gIn2 56 rfl rfl
theorem cd_X2_ringOfBooking : (Cond.code yX2_ringOfBooking prog_4_method_15_code 2 (Option.some FieldType.int)) ∈ wsG := gIn2 57 rfl rfl
theorem ml_X5_110 : (Cond.methodLink "LessonHorses" 110 yX2_removeBooking) ∈ wsG := gIn2 58 rfl rfl
theorem im_X2_removeBooking : (Cond.instanceMethod yX2_removeBooking) ∈ wsG := gIn2 59 rfl rfl
theorem sl_X2_removeBooking : (Cond.selects "LessonHorses$Stable" yX2_removeBooking yX2_removeBooking) ∈ wsG := gIn2 60 rfl rfl
theorem cd_X2_removeBooking : (Cond.code yX2_removeBooking prog_4_method_25_code 3 (Option.none)) ∈ wsG := gIn2 61 rfl rfl
theorem ml_X2_96 : (Cond.methodLink "LessonHorses$Stable" 96 yX3_moveColumn) ∈ wsG := gIn2 62 rfl rfl
theorem im_X3_moveColumn : (Cond.instanceMethod yX3_moveColumn) ∈ wsG := gIn2 63 rfl rfl
theorem sl_X3_moveColumn : (Cond.selects "LessonHorses$Table" yX3_moveColumn yX3_moveColumn) ∈ wsG := gIn2 64 rfl rfl
theorem cd_X3_moveColumn : (Cond.code yX3_moveColumn prog_5_method_8_code 5 (Option.none)) ∈ wsG := gIn2 65 rfl rfl
theorem ml_X3_21 : (Cond.methodLink "LessonHorses$Table" 21 yX3_put) ∈ wsG := gIn2 66 rfl rfl
theorem ml_X2_72 : (Cond.methodLink "LessonHorses$Stable" 72 yJ9_max_7cf53) ∈ wsG := gIn2 67 rfl rfl
theorem ml_L_23 : (Cond.methodLink "LessonHorsesLaw" 23 yX5_setHorse) ∈ wsG := gIn2 68 rfl rfl
theorem im_X5_setHorse : (Cond.instanceMethod yX5_setHorse) ∈ wsG := gIn2 69 rfl rfl
theorem sl_X5_setHorse : (Cond.selects "LessonHorses" yX5_setHorse yX5_setHorse) ∈ wsG := gIn2 70 rfl rfl
theorem cd_X5_setHorse : (Cond.code yX5_setHorse prog_1_method_2_code 5 (Option.some FieldType.int)) ∈ wsG := gIn2 71 rfl rfl
theorem ml_X5_43 : (Cond.methodLink "LessonHorses" 43 yX5_isNoHorse) ∈ wsG := gIn2 72 rfl rfl
theorem st_X5_isNoHorse : (Cond.static yX5_isNoHorse) ∈ wsG := gIn2 73 rfl rfl
theorem cd_X5_isNoHorse : (Cond.code yX5_isNoHorse prog_1_method_25_code 1 (Option.some FieldType.boolean)) ∈ wsG := gIn2 74 rfl rfl
theorem ml_X5_51 : (Cond.methodLink "LessonHorses" 51 yX2_ofHorse) ∈ wsG := gIn2 75 rfl rfl
theorem im_X2_ofHorse : (Cond.instanceMethod yX2_ofHorse) ∈ wsG := gIn2 76 rfl rfl
theorem sl_X2_ofHorse : (Cond.selects "LessonHorses$Stable" yX2_ofHorse yX2_ofHorse) ∈ wsG := gIn2 77 rfl rfl
theorem cd_X2_ofHorse : (Cond.code yX2_ofHorse prog_4_method_6_code 3 (Option.some FieldType.int)) ∈ wsG := gIn2 78 rfl rfl
theorem ml_X5_59 : (Cond.methodLink "LessonHorses" 59 yX2_changeHorse) ∈ wsG := gIn2 79 rfl rfl
theorem im_X2_changeHorse : (Cond.instanceMethod yX2_changeHorse) ∈ wsG := gIn2 80 rfl rfl
theorem sl_X2_changeHorse : (Cond.selects "LessonHorses$Stable" yX2_changeHorse yX2_changeHorse) ∈ wsG := gIn2 81 rfl rfl
theorem cd_X2_changeHorse : (Cond.code yX2_changeHorse prog_4_method_7_code 4 (Option.none)) ∈ wsG := gIn2 82 rfl rfl
theorem ml_L_26 : (Cond.methodLink "LessonHorsesLaw" 26 yX5_setRider) ∈ wsG := gIn2 83 rfl rfl
theorem im_X5_setRider : (Cond.instanceMethod yX5_setRider) ∈ wsG := gIn2 84 rfl rfl
theorem sl_X5_setRider : (Cond.selects "LessonHorses" yX5_setRider yX5_setRider) ∈ wsG := gIn2 85 rfl rfl
theorem cd_X5_setRider : (Cond.code yX5_setRider prog_1_method_3_code 5 (Option.some FieldType.int)) ∈ wsG := gIn2 86 rfl rfl
theorem ml_X5_66 : (Cond.methodLink "LessonHorses" 66 yX2_ofRider) ∈ wsG := gIn2 87 rfl rfl
theorem im_X2_ofRider : (Cond.instanceMethod yX2_ofRider) ∈ wsG := gIn2 88 rfl rfl
theorem sl_X2_ofRider : (Cond.selects "LessonHorses$Stable" yX2_ofRider yX2_ofRider) ∈ wsG := gIn2 89 rfl rfl
theorem cd_X2_ofRider : (Cond.code yX2_ofRider prog_4_method_10_code 3 (Option.some FieldType.int)) ∈ wsG := gIn2 90 rfl rfl
theorem ml_X2_66 : (Cond.methodLink "LessonHorses$Stable" 66 yX2_abilityOf) ∈ wsG := gIn2 91 rfl rfl
theorem im_X2_abilityOf : (Cond.instanceMethod yX2_abilityOf) ∈ wsG := gIn2 93 rfl rfl
theorem cd_X2_abilityOf : (Cond.code yX2_abilityOf prog_4_method_13_code 2 (Option.some FieldType.int)) ∈ wsG := gIn2 94 rfl rfl
theorem ml_X2_69 : (Cond.methodLink "LessonHorses$Stable" 69 yX2_bookingsOf) ∈ wsG := gIn2 95 rfl rfl
theorem im_X2_bookingsOf : (Cond.instanceMethod yX2_bookingsOf) ∈ wsG := gIn2 97 rfl rfl
theorem cd_X2_bookingsOf : (Cond.code yX2_bookingsOf prog_4_method_22_code 4 (Option.some FieldType.int)) ∈ wsG := gIn2 98 rfl rfl
theorem ml_X5_69 : (Cond.methodLink "LessonHorses" 69 yX2_changeRider) ∈ wsG := gIn2 99 rfl rfl
theorem im_X2_changeRider : (Cond.instanceMethod yX2_changeRider) ∈ wsG := gIn2 100 rfl rfl
theorem sl_X2_changeRider : (Cond.selects "LessonHorses$Stable" yX2_changeRider yX2_changeRider) ∈ wsG := gIn2 101 rfl rfl
theorem cd_X2_changeRider : (Cond.code yX2_changeRider prog_4_method_11_code 4 (Option.none)) ∈ wsG := gIn2 102 rfl rfl
theorem ml_L_29 : (Cond.methodLink "LessonHorsesLaw" 29 yX5_set) ∈ wsG := gIn2 103 rfl rfl
theorem im_X5_set : (Cond.instanceMethod yX5_set) ∈ wsG := gIn2 104 rfl rfl
theorem sl_X5_set : (Cond.selects "LessonHorses" yX5_set yX5_set) ∈ wsG := gIn2 105 rfl rfl
theorem cd_X5_set : (Cond.code yX5_set prog_1_method_4_code 4 (Option.some FieldType.int)) ∈ wsG := gIn2 106 rfl rfl
theorem fl_X5_72 : (Cond.fieldLink "LessonHorses" 72 "LessonHorses" "LEAST_OF_SETTING" "[I") ∈ wsG := gIn2 107 rfl rfl
theorem ls_X5_LEAST_OF_SETTING : (Cond.laysStatic "LessonHorses" "LEAST_OF_SETTING" "[I") ∈ lw_tbl := gTb2 (List.mem_of_getElem? (i := 108) rfl)
theorem ml_X5_76 : (Cond.methodLink "LessonHorses" 76 yX5_entry) ∈ wsG := gIn2 109 rfl rfl
theorem fl_X5_80 : (Cond.fieldLink "LessonHorses" 80 "LessonHorses" "MOST_OF_SETTING" "[I") ∈ wsG := gIn2 110 rfl rfl
theorem ls_X5_MOST_OF_SETTING : (Cond.laysStatic "LessonHorses" "MOST_OF_SETTING" "[I") ∈ lw_tbl := gTb2 (List.mem_of_getElem? (i := 111) rfl)
theorem ml_X5_87 : (Cond.methodLink "LessonHorses" 87 yX2_changeSetting) ∈ wsG := gIn2 112 rfl rfl
theorem im_X2_changeSetting : (Cond.instanceMethod yX2_changeSetting) ∈ wsG := gIn2 113 rfl rfl
theorem sl_X2_changeSetting : (Cond.selects "LessonHorses$Stable" yX2_changeSetting yX2_changeSetting) ∈ wsG := gIn2 114 rfl rfl
theorem cd_X2_changeSetting : (Cond.code yX2_changeSetting prog_4_method_5_code 3 (Option.none)) ∈ wsG := gIn2 115 rfl rfl
theorem ml_L_32 : (Cond.methodLink "LessonHorsesLaw" 32 yX5_pass) ∈ wsG := gIn2 116 rfl rfl
theorem im_X5_pass : (Cond.instanceMethod yX5_pass) ∈ wsG := gIn2 117 rfl rfl
theorem sl_X5_pass : (Cond.selects "LessonHorses" yX5_pass yX5_pass) ∈ wsG := gIn2 118 rfl rfl
theorem cd_X5_pass : (Cond.code yX5_pass prog_1_method_7_code 4 (Option.some FieldType.int)) ∈ wsG := gIn2 119 rfl rfl
theorem ml_X5_121 : (Cond.methodLink "LessonHorses" 121 yX2_passHour) ∈ wsG := gIn2 120 rfl rfl
theorem im_X2_passHour : (Cond.instanceMethod yX2_passHour) ∈ wsG := gIn2 121 rfl rfl
theorem sl_X2_passHour : (Cond.selects "LessonHorses$Stable" yX2_passHour yX2_passHour) ∈ wsG := gIn2 122 rfl rfl
theorem cd_X2_passHour : (Cond.code yX2_passHour prog_4_method_31_code 5 (Option.none)) ∈ wsG := gIn2 123 rfl rfl
theorem ml_X2_110 : (Cond.methodLink "LessonHorses$Stable" 110 yX2_farriersHorse) ∈ wsG := gIn2 124 rfl rfl
theorem ml_X2_114 : (Cond.methodLink "LessonHorses$Stable" 114 yX2_giveLessons) ∈ wsG := gIn2 125 rfl rfl
theorem im_X2_giveLessons : (Cond.instanceMethod yX2_giveLessons) ∈ wsG := gIn2 127 rfl rfl
theorem cd_X2_giveLessons : (Cond.code yX2_giveLessons prog_4_method_32_code 5 (Option.some FieldType.int)) ∈ wsG := gIn2 128 rfl rfl
theorem ml_X2_123 : (Cond.methodLink "LessonHorses$Stable" 123 yX2_giveLesson) ∈ wsG := gIn2 129 rfl rfl
theorem im_X2_giveLesson : (Cond.instanceMethod yX2_giveLesson) ∈ wsG := gIn2 131 rfl rfl
theorem cd_X2_giveLesson : (Cond.code yX2_giveLesson prog_4_method_33_code 5 (Option.some FieldType.int)) ∈ wsG := gIn2 132 rfl rfl
theorem ml_X2_126 : (Cond.methodLink "LessonHorses$Stable" 126 yX2_bestHorse) ∈ wsG := gIn2 133 rfl rfl
theorem im_X2_bestHorse : (Cond.instanceMethod yX2_bestHorse) ∈ wsG := gIn2 134 rfl rfl
theorem sl_X2_bestHorse : (Cond.selects "LessonHorses$Stable" yX2_bestHorse yX2_bestHorse) ∈ wsG := gIn2 135 rfl rfl
theorem cd_X2_bestHorse : (Cond.code yX2_bestHorse prog_4_method_29_code 7 (Option.some FieldType.int)) ∈ wsG := gIn2 136 rfl rfl
theorem ml_X2_103 : (Cond.methodLink "LessonHorses$Stable" 103 yX2_hindrance) ∈ wsG := gIn2 137 rfl rfl
theorem im_X2_hindrance : (Cond.instanceMethod yX2_hindrance) ∈ wsG := gIn2 138 rfl rfl
theorem sl_X2_hindrance : (Cond.selects "LessonHorses$Stable" yX2_hindrance yX2_hindrance) ∈ wsG := gIn2 139 rfl rfl
theorem cd_X2_hindrance : (Cond.code yX2_hindrance prog_4_method_28_code 4 (Option.some FieldType.int)) ∈ wsG := gIn2 140 rfl rfl
theorem ml_X2_107 : (Cond.methodLink "LessonHorses$Stable" 107 yX2_isBetter) ∈ wsG := gIn2 141 rfl rfl
theorem im_X2_isBetter : (Cond.instanceMethod yX2_isBetter) ∈ wsG := gIn2 143 rfl rfl
theorem cd_X2_isBetter : (Cond.code yX2_isBetter prog_4_method_30_code 8 (Option.some FieldType.boolean)) ∈ wsG := gIn2 144 rfl rfl
theorem ml_X2_117 : (Cond.methodLink "LessonHorses$Stable" 117 yX3_add) ∈ wsG := gIn2 145 rfl rfl
theorem im_X3_add : (Cond.instanceMethod yX3_add) ∈ wsG := gIn2 146 rfl rfl
theorem sl_X3_add : (Cond.selects "LessonHorses$Table" yX3_add yX3_add) ∈ wsG := gIn2 147 rfl rfl
theorem cd_X3_add : (Cond.code yX3_add prog_5_method_4_code 4 (Option.none)) ∈ wsG := gIn2 148 rfl rfl
theorem ml_X2_129 : (Cond.methodLink "LessonHorses$Stable" 129 yX2_letFall) ∈ wsG := gIn2 149 rfl rfl
theorem im_X2_letFall : (Cond.instanceMethod yX2_letFall) ∈ wsG := gIn2 151 rfl rfl
theorem cd_X2_letFall : (Cond.code yX2_letFall prog_4_method_34_code 4 (Option.none)) ∈ wsG := gIn2 152 rfl rfl
theorem ml_X2_139 : (Cond.methodLink "LessonHorses$Stable" 139 yX3_addUpTo) ∈ wsG := gIn2 153 rfl rfl
theorem im_X3_addUpTo : (Cond.instanceMethod yX3_addUpTo) ∈ wsG := gIn2 154 rfl rfl
theorem sl_X3_addUpTo : (Cond.selects "LessonHorses$Table" yX3_addUpTo yX3_addUpTo) ∈ wsG := gIn2 155 rfl rfl
theorem cd_X3_addUpTo : (Cond.code yX3_addUpTo prog_5_method_6_code 4 (Option.none)) ∈ wsG := gIn2 156 rfl rfl
theorem ml_X3_30 : (Cond.methodLink "LessonHorses$Table" 30 yJ9_min_7cf53) ∈ wsG := gIn2 157 rfl rfl
theorem ml_X2_132 : (Cond.methodLink "LessonHorses$Stable" 132 yX2_letLearn) ∈ wsG := gIn2 158 rfl rfl
theorem im_X2_letLearn : (Cond.instanceMethod yX2_letLearn) ∈ wsG := gIn2 160 rfl rfl
theorem cd_X2_letLearn : (Cond.code yX2_letLearn prog_4_method_35_code 2 (Option.none)) ∈ wsG := gIn2 161 rfl rfl
theorem ml_X2_120 : (Cond.methodLink "LessonHorses$Stable" 120 yX3_takeAway) ∈ wsG := gIn2 162 rfl rfl
theorem im_X3_takeAway : (Cond.instanceMethod yX3_takeAway) ∈ wsG := gIn2 163 rfl rfl
theorem sl_X3_takeAway : (Cond.selects "LessonHorses$Table" yX3_takeAway yX3_takeAway) ∈ wsG := gIn2 164 rfl rfl
theorem cd_X3_takeAway : (Cond.code yX3_takeAway prog_5_method_5_code 4 (Option.none)) ∈ wsG := gIn2 165 rfl rfl
theorem ml_X3_25 : (Cond.methodLink "LessonHorses$Table" 25 yJ9_max_7cf53) ∈ wsG := gIn2 166 rfl rfl
theorem ml_X2_136 : (Cond.methodLink "LessonHorses$Stable" 136 yX2_strain) ∈ wsG := gIn2 167 rfl rfl
theorem im_X2_strain : (Cond.instanceMethod yX2_strain) ∈ wsG := gIn2 169 rfl rfl
theorem cd_X2_strain : (Cond.code yX2_strain prog_4_method_36_code 3 (Option.none)) ∈ wsG := gIn2 170 rfl rfl
theorem ml_L_73 : (Cond.methodLink "LessonHorsesLaw" 73 yL_areAlike) ∈ wsG := gIn2 171 rfl rfl
theorem st_L_areAlike : (Cond.static yL_areAlike) ∈ wsG := gIn2 172 rfl rfl
theorem cd_L_areAlike : (Cond.code yL_areAlike method_5_code 4 (Option.some FieldType.boolean)) ∈ wsG := gIn2 173 rfl rfl
theorem ml_L_39 : (Cond.methodLink "LessonHorsesLaw" 39 yX5_horse) ∈ wsG := gIn2 174 rfl rfl
theorem im_X5_horse : (Cond.instanceMethod yX5_horse) ∈ wsG := gIn2 175 rfl rfl
theorem sl_X5_horse : (Cond.selects "LessonHorses" yX5_horse yX5_horse) ∈ wsG := gIn2 176 rfl rfl
theorem cd_X5_horse : (Cond.code yX5_horse prog_1_method_14_code 3 (Option.some FieldType.int)) ∈ wsG := gIn2 177 rfl rfl
theorem ml_L_42 : (Cond.methodLink "LessonHorsesLaw" 42 yX5_rider) ∈ wsG := gIn2 178 rfl rfl
theorem im_X5_rider : (Cond.instanceMethod yX5_rider) ∈ wsG := gIn2 179 rfl rfl
theorem sl_X5_rider : (Cond.selects "LessonHorses" yX5_rider yX5_rider) ∈ wsG := gIn2 180 rfl rfl
theorem cd_X5_rider : (Cond.code yX5_rider prog_1_method_15_code 3 (Option.some FieldType.int)) ∈ wsG := gIn2 181 rfl rfl
theorem ml_L_45 : (Cond.methodLink "LessonHorsesLaw" 45 yX5_fall) ∈ wsG := gIn2 182 rfl rfl
theorem im_X5_fall : (Cond.instanceMethod yX5_fall) ∈ wsG := gIn2 183 rfl rfl
theorem sl_X5_fall : (Cond.selects "LessonHorses" yX5_fall yX5_fall) ∈ wsG := gIn2 184 rfl rfl
theorem cd_X5_fall : (Cond.code yX5_fall prog_1_method_17_code 3 (Option.some FieldType.int)) ∈ wsG := gIn2 185 rfl rfl
theorem ml_X5_168 : (Cond.methodLink "LessonHorses" 168 yX2_ofFall) ∈ wsG := gIn2 186 rfl rfl
theorem im_X2_ofFall : (Cond.instanceMethod yX2_ofFall) ∈ wsG := gIn2 187 rfl rfl
theorem sl_X2_ofFall : (Cond.selects "LessonHorses$Stable" yX2_ofFall yX2_ofFall) ∈ wsG := gIn2 188 rfl rfl
theorem cd_X2_ofFall : (Cond.code yX2_ofFall prog_4_method_38_code 3 (Option.some FieldType.int)) ∈ wsG := gIn2 189 rfl rfl
theorem ml_L_48 : (Cond.methodLink "LessonHorsesLaw" 48 yX5_lesson) ∈ wsG := gIn2 190 rfl rfl
theorem im_X5_lesson : (Cond.instanceMethod yX5_lesson) ∈ wsG := gIn2 191 rfl rfl
theorem sl_X5_lesson : (Cond.selects "LessonHorses" yX5_lesson yX5_lesson) ∈ wsG := gIn2 192 rfl rfl
theorem cd_X5_lesson : (Cond.code yX5_lesson prog_1_method_16_code 5 (Option.some FieldType.int)) ∈ wsG := gIn2 193 rfl rfl
theorem ml_X5_162 : (Cond.methodLink "LessonHorses" 162 yX2_setOfRiders) ∈ wsG := gIn2 194 rfl rfl
theorem im_X2_setOfRiders : (Cond.instanceMethod yX2_setOfRiders) ∈ wsG := gIn2 195 rfl rfl
theorem sl_X2_setOfRiders : (Cond.selects "LessonHorses$Stable" yX2_setOfRiders yX2_setOfRiders) ∈ wsG := gIn2 196 rfl rfl
theorem cd_X2_setOfRiders : (Cond.code yX2_setOfRiders prog_4_method_21_code 5 (Option.some FieldType.int)) ∈ wsG := gIn2 197 rfl rfl
theorem fl_X5_165 : (Cond.fieldLink "LessonHorses" 165 "LessonHorses" "ROOM_OF_RING" "[I") ∈ wsG := gIn2 198 rfl rfl
theorem ml_L_80 : (Cond.methodLink "LessonHorsesLaw" 80 yL_areSums) ∈ wsG := gIn2 199 rfl rfl
theorem st_L_areSums : (Cond.static yL_areSums) ∈ wsG := gIn2 200 rfl rfl
theorem cd_L_areSums : (Cond.code yL_areSums method_6_code 13 (Option.some FieldType.boolean)) ∈ wsG := gIn2 201 rfl rfl
theorem ml_L_84 : (Cond.methodLink "LessonHorsesLaw" 84 yL_areLessonsSo) ∈ wsG := gIn2 202 rfl rfl
theorem st_L_areLessonsSo : (Cond.static yL_areLessonsSo) ∈ wsG := gIn2 203 rfl rfl
theorem cd_L_areLessonsSo : (Cond.code yL_areLessonsSo method_7_code 12 (Option.some FieldType.boolean)) ∈ wsG := gIn2 204 rfl rfl
theorem ml_L_51 : (Cond.methodLink "LessonHorsesLaw" 51 yX5_busiest) ∈ wsG := gIn2 205 rfl rfl
theorem im_X5_busiest : (Cond.instanceMethod yX5_busiest) ∈ wsG := gIn2 206 rfl rfl
theorem sl_X5_busiest : (Cond.selects "LessonHorses" yX5_busiest yX5_busiest) ∈ wsG := gIn2 207 rfl rfl
theorem cd_X5_busiest : (Cond.code yX5_busiest prog_1_method_22_code 5 (Option.some FieldType.int)) ∈ wsG := gIn2 208 rfl rfl
theorem ml_X5_189 : (Cond.methodLink "LessonHorses" 189 yX2_bookedInAllRings) ∈ wsG := gIn2 209 rfl rfl
theorem im_X2_bookedInAllRings : (Cond.instanceMethod yX2_bookedInAllRings) ∈ wsG := gIn2 210 rfl rfl
theorem sl_X2_bookedInAllRings : (Cond.selects "LessonHorses$Stable" yX2_bookedInAllRings yX2_bookedInAllRings) ∈ wsG := gIn2 211 rfl rfl
theorem cd_X2_bookedInAllRings : (Cond.code yX2_bookedInAllRings prog_4_method_20_code 4 (Option.some FieldType.int)) ∈ wsG := gIn2 212 rfl rfl
theorem ml_L_87 : (Cond.methodLink "LessonHorsesLaw" 87 yL_isBestSo) ∈ wsG := gIn2 213 rfl rfl
theorem st_L_isBestSo : (Cond.static yL_isBestSo) ∈ wsG := gIn2 214 rfl rfl
theorem cd_L_isBestSo : (Cond.code yL_isBestSo method_8_code 10 (Option.some FieldType.boolean)) ∈ wsG := gIn2 215 rfl rfl
theorem ml_L_55 : (Cond.methodLink "LessonHorsesLaw" 55 yX5_best) ∈ wsG := gIn2 216 rfl rfl
theorem im_X5_best : (Cond.instanceMethod yX5_best) ∈ wsG := gIn2 217 rfl rfl
theorem sl_X5_best : (Cond.selects "LessonHorses" yX5_best yX5_best) ∈ wsG := gIn2 218 rfl rfl
theorem cd_X5_best : (Cond.code yX5_best prog_1_method_19_code 2 (Option.some FieldType.int)) ∈ wsG := gIn2 219 rfl rfl
theorem ml_X5_177 : (Cond.methodLink "LessonHorses" 177 yX2_bestHorse) ∈ wsG := gIn2 220 rfl rfl
theorem ml_L_58 : (Cond.methodLink "LessonHorsesLaw" 58 yX5_reason) ∈ wsG := gIn2 221 rfl rfl
theorem im_X5_reason : (Cond.instanceMethod yX5_reason) ∈ wsG := gIn2 222 rfl rfl
theorem sl_X5_reason : (Cond.selects "LessonHorses" yX5_reason yX5_reason) ∈ wsG := gIn2 223 rfl rfl
theorem cd_X5_reason : (Cond.code yX5_reason prog_1_method_18_code 3 (Option.some FieldType.int)) ∈ wsG := gIn2 224 rfl rfl
theorem ml_X5_174 : (Cond.methodLink "LessonHorses" 174 yX2_hindrance) ∈ wsG := gIn2 225 rfl rfl
theorem ml_L_61 : (Cond.methodLink "LessonHorsesLaw" 61 yX5_takenIn) ∈ wsG := gIn2 226 rfl rfl
theorem im_X5_takenIn : (Cond.instanceMethod yX5_takenIn) ∈ wsG := gIn2 227 rfl rfl
theorem sl_X5_takenIn : (Cond.selects "LessonHorses" yX5_takenIn yX5_takenIn) ∈ wsG := gIn2 228 rfl rfl
theorem cd_X5_takenIn : (Cond.code yX5_takenIn prog_1_method_20_code 4 (Option.some FieldType.int)) ∈ wsG := gIn2 229 rfl rfl
theorem ml_X5_139 : (Cond.methodLink "LessonHorses" 139 yX2_copyFrom) ∈ wsG := gIn2 230 rfl rfl
theorem gPr {q : MethodName × Nat} (h : q ∈ lw_privs) (g : goodWord (Cond.selects q.1.cls q.1 q.1) = true) : (Cond.selects q.1.cls q.1 q.1) ∈ wsG := List.mem_filter.mpr ⟨List.mem_append_left _ (List.mem_map.mpr ⟨q, h, rfl⟩), g⟩
theorem sl_X0_stateAt : (Cond.selects "LessonHorses$History" yX0_stateAt yX0_stateAt) ∈ wsG := gPr (q := (yX0_stateAt, 3)) (show _ ∈ lw_privs_1 from List.mem_of_getElem? (i := 0) rfl) rfl
theorem sl_X2_isBooked : (Cond.selects "LessonHorses$Stable" yX2_isBooked yX2_isBooked) ∈ wsG := gPr (q := (yX2_isBooked, 8)) (show _ ∈ lw_privs_1 from List.mem_of_getElem? (i := 1) rfl) rfl
theorem sl_X2_isBooked_ : (Cond.selects "LessonHorses$Stable" yX2_isBooked_ yX2_isBooked_) ∈ wsG := gPr (q := (yX2_isBooked_, 8)) (show _ ∈ lw_privs_1 from List.mem_of_getElem? (i := 2) rfl) rfl
theorem sl_X2_abilityOf : (Cond.selects "LessonHorses$Stable" yX2_abilityOf yX2_abilityOf) ∈ wsG := gPr (q := (yX2_abilityOf, 8)) (show _ ∈ lw_privs_1 from List.mem_of_getElem? (i := 3) rfl) rfl
theorem sl_X2_bookingsOf : (Cond.selects "LessonHorses$Stable" yX2_bookingsOf yX2_bookingsOf) ∈ wsG := gPr (q := (yX2_bookingsOf, 8)) (show _ ∈ lw_privs_1 from List.mem_of_getElem? (i := 4) rfl) rfl
theorem sl_X2_giveLessons : (Cond.selects "LessonHorses$Stable" yX2_giveLessons yX2_giveLessons) ∈ wsG := gPr (q := (yX2_giveLessons, 8)) (show _ ∈ lw_privs_1 from List.mem_of_getElem? (i := 5) rfl) rfl
theorem sl_X2_giveLesson : (Cond.selects "LessonHorses$Stable" yX2_giveLesson yX2_giveLesson) ∈ wsG := gPr (q := (yX2_giveLesson, 8)) (show _ ∈ lw_privs_1 from List.mem_of_getElem? (i := 6) rfl) rfl
theorem sl_X2_isBetter : (Cond.selects "LessonHorses$Stable" yX2_isBetter yX2_isBetter) ∈ wsG := gPr (q := (yX2_isBetter, 8)) (show _ ∈ lw_privs_1 from List.mem_of_getElem? (i := 7) rfl) rfl
theorem sl_X2_letFall : (Cond.selects "LessonHorses$Stable" yX2_letFall yX2_letFall) ∈ wsG := gPr (q := (yX2_letFall, 8)) (show _ ∈ lw_privs_1 from List.mem_of_getElem? (i := 8) rfl) rfl
theorem sl_X2_letLearn : (Cond.selects "LessonHorses$Stable" yX2_letLearn yX2_letLearn) ∈ wsG := gPr (q := (yX2_letLearn, 8)) (show _ ∈ lw_privs_1 from List.mem_of_getElem? (i := 9) rfl) rfl
theorem sl_X2_strain : (Cond.selects "LessonHorses$Stable" yX2_strain yX2_strain) ∈ wsG := gPr (q := (yX2_strain, 8)) (show _ ∈ lw_privs_1 from List.mem_of_getElem? (i := 10) rfl) rfl
theorem hd_X5_init : yX5_init.cls = RX5 ∧ yX5_init.cls ≠ "java/lang/invoke/MethodHandle" ∧ yX5_init.cls ≠ "java/lang/invoke/VarHandle" ∧ (parseMethodDescriptor yX5_init.desc).map (fun d => d.parameters.length) = some 0 := by decide +kernel
theorem hd_X5_best : yX5_best.cls = RX5 ∧ yX5_best.cls ≠ "java/lang/invoke/MethodHandle" ∧ yX5_best.cls ≠ "java/lang/invoke/VarHandle" ∧ (parseMethodDescriptor yX5_best.desc).map (fun d => d.parameters.length) = some 1 := by decide +kernel
theorem hd_X5_book : yX5_book.cls = RX5 ∧ yX5_book.cls ≠ "java/lang/invoke/MethodHandle" ∧ yX5_book.cls ≠ "java/lang/invoke/VarHandle" ∧ (parseMethodDescriptor yX5_book.desc).map (fun d => d.parameters.length) = some 3 := by decide +kernel
theorem hd_X5_busiest : yX5_busiest.cls = RX5 ∧ yX5_busiest.cls ≠ "java/lang/invoke/MethodHandle" ∧ yX5_busiest.cls ≠ "java/lang/invoke/VarHandle" ∧ (parseMethodDescriptor yX5_busiest.desc).map (fun d => d.parameters.length) = some 0 := by decide +kernel
theorem hd_X5_cancel : yX5_cancel.cls = RX5 ∧ yX5_cancel.cls ≠ "java/lang/invoke/MethodHandle" ∧ yX5_cancel.cls ≠ "java/lang/invoke/VarHandle" ∧ (parseMethodDescriptor yX5_cancel.desc).map (fun d => d.parameters.length) = some 2 := by decide +kernel
theorem hd_X5_count : yX5_count.cls = RX5 ∧ yX5_count.cls ≠ "java/lang/invoke/MethodHandle" ∧ yX5_count.cls ≠ "java/lang/invoke/VarHandle" ∧ (parseMethodDescriptor yX5_count.desc).map (fun d => d.parameters.length) = some 1 := by decide +kernel
theorem hd_X5_entry : yX5_entry.cls = RX5 ∧ yX5_entry.cls ≠ "java/lang/invoke/MethodHandle" ∧ yX5_entry.cls ≠ "java/lang/invoke/VarHandle" ∧ (parseMethodDescriptor yX5_entry.desc).map (fun d => d.parameters.length) = some 2 := by decide +kernel
theorem hd_X5_fall : yX5_fall.cls = RX5 ∧ yX5_fall.cls ≠ "java/lang/invoke/MethodHandle" ∧ yX5_fall.cls ≠ "java/lang/invoke/VarHandle" ∧ (parseMethodDescriptor yX5_fall.desc).map (fun d => d.parameters.length) = some 2 := by decide +kernel
theorem hd_X5_horse : yX5_horse.cls = RX5 ∧ yX5_horse.cls ≠ "java/lang/invoke/MethodHandle" ∧ yX5_horse.cls ≠ "java/lang/invoke/VarHandle" ∧ (parseMethodDescriptor yX5_horse.desc).map (fun d => d.parameters.length) = some 2 := by decide +kernel
theorem hd_X5_isNoHorse : yX5_isNoHorse.cls = RX5 ∧ yX5_isNoHorse.cls ≠ "java/lang/invoke/MethodHandle" ∧ yX5_isNoHorse.cls ≠ "java/lang/invoke/VarHandle" ∧ (parseMethodDescriptor yX5_isNoHorse.desc).map (fun d => d.parameters.length) = some 1 := by decide +kernel
theorem hd_X5_isNoRider : yX5_isNoRider.cls = RX5 ∧ yX5_isNoRider.cls ≠ "java/lang/invoke/MethodHandle" ∧ yX5_isNoRider.cls ≠ "java/lang/invoke/VarHandle" ∧ (parseMethodDescriptor yX5_isNoRider.desc).map (fun d => d.parameters.length) = some 1 := by decide +kernel
theorem hd_X5_isNoRing : yX5_isNoRing.cls = RX5 ∧ yX5_isNoRing.cls ≠ "java/lang/invoke/MethodHandle" ∧ yX5_isNoRing.cls ≠ "java/lang/invoke/VarHandle" ∧ (parseMethodDescriptor yX5_isNoRing.desc).map (fun d => d.parameters.length) = some 1 := by decide +kernel
theorem hd_X5_isOutside : yX5_isOutside.cls = RX5 ∧ yX5_isOutside.cls ≠ "java/lang/invoke/MethodHandle" ∧ yX5_isOutside.cls ≠ "java/lang/invoke/VarHandle" ∧ (parseMethodDescriptor yX5_isOutside.desc).map (fun d => d.parameters.length) = some 3 := by decide +kernel
theorem hd_X5_lesson : yX5_lesson.cls = RX5 ∧ yX5_lesson.cls ≠ "java/lang/invoke/MethodHandle" ∧ yX5_lesson.cls ≠ "java/lang/invoke/VarHandle" ∧ (parseMethodDescriptor yX5_lesson.desc).map (fun d => d.parameters.length) = some 3 := by decide +kernel
theorem hd_X5_pass : yX5_pass.cls = RX5 ∧ yX5_pass.cls ≠ "java/lang/invoke/MethodHandle" ∧ yX5_pass.cls ≠ "java/lang/invoke/VarHandle" ∧ (parseMethodDescriptor yX5_pass.desc).map (fun d => d.parameters.length) = some 1 := by decide +kernel
theorem hd_X5_reason : yX5_reason.cls = RX5 ∧ yX5_reason.cls ≠ "java/lang/invoke/MethodHandle" ∧ yX5_reason.cls ≠ "java/lang/invoke/VarHandle" ∧ (parseMethodDescriptor yX5_reason.desc).map (fun d => d.parameters.length) = some 2 := by decide +kernel
theorem hd_X5_rider : yX5_rider.cls = RX5 ∧ yX5_rider.cls ≠ "java/lang/invoke/MethodHandle" ∧ yX5_rider.cls ≠ "java/lang/invoke/VarHandle" ∧ (parseMethodDescriptor yX5_rider.desc).map (fun d => d.parameters.length) = some 2 := by decide +kernel
theorem hd_X5_set : yX5_set.cls = RX5 ∧ yX5_set.cls ≠ "java/lang/invoke/MethodHandle" ∧ yX5_set.cls ≠ "java/lang/invoke/VarHandle" ∧ (parseMethodDescriptor yX5_set.desc).map (fun d => d.parameters.length) = some 2 := by decide +kernel
theorem hd_X5_setHorse : yX5_setHorse.cls = RX5 ∧ yX5_setHorse.cls ≠ "java/lang/invoke/MethodHandle" ∧ yX5_setHorse.cls ≠ "java/lang/invoke/VarHandle" ∧ (parseMethodDescriptor yX5_setHorse.desc).map (fun d => d.parameters.length) = some 3 := by decide +kernel
theorem hd_X5_setRider : yX5_setRider.cls = RX5 ∧ yX5_setRider.cls ≠ "java/lang/invoke/MethodHandle" ∧ yX5_setRider.cls ≠ "java/lang/invoke/VarHandle" ∧ (parseMethodDescriptor yX5_setRider.desc).map (fun d => d.parameters.length) = some 3 := by decide +kernel
theorem hd_X5_takenIn : yX5_takenIn.cls = RX5 ∧ yX5_takenIn.cls ≠ "java/lang/invoke/MethodHandle" ∧ yX5_takenIn.cls ≠ "java/lang/invoke/VarHandle" ∧ (parseMethodDescriptor yX5_takenIn.desc).map (fun d => d.parameters.length) = some 2 := by decide +kernel
theorem hd_X5_undo : yX5_undo.cls = RX5 ∧ yX5_undo.cls ≠ "java/lang/invoke/MethodHandle" ∧ yX5_undo.cls ≠ "java/lang/invoke/VarHandle" ∧ (parseMethodDescriptor yX5_undo.desc).map (fun d => d.parameters.length) = some 0 := by decide +kernel
theorem hd_X0_init : yX0_init.cls = RX0 ∧ yX0_init.cls ≠ "java/lang/invoke/MethodHandle" ∧ yX0_init.cls ≠ "java/lang/invoke/VarHandle" ∧ (parseMethodDescriptor yX0_init.desc).map (fun d => d.parameters.length) = some 0 := by decide +kernel
theorem hd_X0_record : yX0_record.cls = RX0 ∧ yX0_record.cls ≠ "java/lang/invoke/MethodHandle" ∧ yX0_record.cls ≠ "java/lang/invoke/VarHandle" ∧ (parseMethodDescriptor yX0_record.desc).map (fun d => d.parameters.length) = some 1 := by decide +kernel
theorem hd_X0_size : yX0_size.cls = RX0 ∧ yX0_size.cls ≠ "java/lang/invoke/MethodHandle" ∧ yX0_size.cls ≠ "java/lang/invoke/VarHandle" ∧ (parseMethodDescriptor yX0_size.desc).map (fun d => d.parameters.length) = some 0 := by decide +kernel
theorem hd_X0_stateAt : yX0_stateAt.cls = RX0 ∧ yX0_stateAt.cls ≠ "java/lang/invoke/MethodHandle" ∧ yX0_stateAt.cls ≠ "java/lang/invoke/VarHandle" ∧ (parseMethodDescriptor yX0_stateAt.desc).map (fun d => d.parameters.length) = some 1 := by decide +kernel
theorem hd_X0_takeBack : yX0_takeBack.cls = RX0 ∧ yX0_takeBack.cls ≠ "java/lang/invoke/MethodHandle" ∧ yX0_takeBack.cls ≠ "java/lang/invoke/VarHandle" ∧ (parseMethodDescriptor yX0_takeBack.desc).map (fun d => d.parameters.length) = some 1 := by decide +kernel
theorem hd_X1_init : yX1_init.cls = RX1 ∧ yX1_init.cls ≠ "java/lang/invoke/MethodHandle" ∧ yX1_init.cls ≠ "java/lang/invoke/VarHandle" ∧ (parseMethodDescriptor yX1_init.desc).map (fun d => d.parameters.length) = some 0 := by decide +kernel
theorem hd_X2_init : yX2_init.cls = RX2 ∧ yX2_init.cls ≠ "java/lang/invoke/MethodHandle" ∧ yX2_init.cls ≠ "java/lang/invoke/VarHandle" ∧ (parseMethodDescriptor yX2_init.desc).map (fun d => d.parameters.length) = some 0 := by decide +kernel
theorem hd_X2_abilityOf : yX2_abilityOf.cls = RX2 ∧ yX2_abilityOf.cls ≠ "java/lang/invoke/MethodHandle" ∧ yX2_abilityOf.cls ≠ "java/lang/invoke/VarHandle" ∧ (parseMethodDescriptor yX2_abilityOf.desc).map (fun d => d.parameters.length) = some 1 := by decide +kernel
theorem hd_X2_addBooking : yX2_addBooking.cls = RX2 ∧ yX2_addBooking.cls ≠ "java/lang/invoke/MethodHandle" ∧ yX2_addBooking.cls ≠ "java/lang/invoke/VarHandle" ∧ (parseMethodDescriptor yX2_addBooking.desc).map (fun d => d.parameters.length) = some 3 := by decide +kernel
theorem hd_X2_bestHorse : yX2_bestHorse.cls = RX2 ∧ yX2_bestHorse.cls ≠ "java/lang/invoke/MethodHandle" ∧ yX2_bestHorse.cls ≠ "java/lang/invoke/VarHandle" ∧ (parseMethodDescriptor yX2_bestHorse.desc).map (fun d => d.parameters.length) = some 3 := by decide +kernel
theorem hd_X2_bookedFor : yX2_bookedFor.cls = RX2 ∧ yX2_bookedFor.cls ≠ "java/lang/invoke/MethodHandle" ∧ yX2_bookedFor.cls ≠ "java/lang/invoke/VarHandle" ∧ (parseMethodDescriptor yX2_bookedFor.desc).map (fun d => d.parameters.length) = some 2 := by decide +kernel
theorem hd_X2_bookedInAllRings : yX2_bookedInAllRings.cls = RX2 ∧ yX2_bookedInAllRings.cls ≠ "java/lang/invoke/MethodHandle" ∧ yX2_bookedInAllRings.cls ≠ "java/lang/invoke/VarHandle" ∧ (parseMethodDescriptor yX2_bookedInAllRings.desc).map (fun d => d.parameters.length) = some 1 := by decide +kernel
theorem hd_X2_bookingError : yX2_bookingError.cls = RX2 ∧ yX2_bookingError.cls ≠ "java/lang/invoke/MethodHandle" ∧ yX2_bookingError.cls ≠ "java/lang/invoke/VarHandle" ∧ (parseMethodDescriptor yX2_bookingError.desc).map (fun d => d.parameters.length) = some 3 := by decide +kernel
theorem hd_X2_bookingsOf : yX2_bookingsOf.cls = RX2 ∧ yX2_bookingsOf.cls ≠ "java/lang/invoke/MethodHandle" ∧ yX2_bookingsOf.cls ≠ "java/lang/invoke/VarHandle" ∧ (parseMethodDescriptor yX2_bookingsOf.desc).map (fun d => d.parameters.length) = some 1 := by decide +kernel
theorem hd_X2_bookingsWaiting : yX2_bookingsWaiting.cls = RX2 ∧ yX2_bookingsWaiting.cls ≠ "java/lang/invoke/MethodHandle" ∧ yX2_bookingsWaiting.cls ≠ "java/lang/invoke/VarHandle" ∧ (parseMethodDescriptor yX2_bookingsWaiting.desc).map (fun d => d.parameters.length) = some 0 := by decide +kernel
theorem hd_X2_changeHorse : yX2_changeHorse.cls = RX2 ∧ yX2_changeHorse.cls ≠ "java/lang/invoke/MethodHandle" ∧ yX2_changeHorse.cls ≠ "java/lang/invoke/VarHandle" ∧ (parseMethodDescriptor yX2_changeHorse.desc).map (fun d => d.parameters.length) = some 3 := by decide +kernel
theorem hd_X2_changeRider : yX2_changeRider.cls = RX2 ∧ yX2_changeRider.cls ≠ "java/lang/invoke/MethodHandle" ∧ yX2_changeRider.cls ≠ "java/lang/invoke/VarHandle" ∧ (parseMethodDescriptor yX2_changeRider.desc).map (fun d => d.parameters.length) = some 3 := by decide +kernel
theorem hd_X2_changeSetting : yX2_changeSetting.cls = RX2 ∧ yX2_changeSetting.cls ≠ "java/lang/invoke/MethodHandle" ∧ yX2_changeSetting.cls ≠ "java/lang/invoke/VarHandle" ∧ (parseMethodDescriptor yX2_changeSetting.desc).map (fun d => d.parameters.length) = some 2 := by decide +kernel
theorem hd_X2_copyFrom : yX2_copyFrom.cls = RX2 ∧ yX2_copyFrom.cls ≠ "java/lang/invoke/MethodHandle" ∧ yX2_copyFrom.cls ≠ "java/lang/invoke/VarHandle" ∧ (parseMethodDescriptor yX2_copyFrom.desc).map (fun d => d.parameters.length) = some 1 := by decide +kernel
theorem hd_X2_fallsSoFar : yX2_fallsSoFar.cls = RX2 ∧ yX2_fallsSoFar.cls ≠ "java/lang/invoke/MethodHandle" ∧ yX2_fallsSoFar.cls ≠ "java/lang/invoke/VarHandle" ∧ (parseMethodDescriptor yX2_fallsSoFar.desc).map (fun d => d.parameters.length) = some 0 := by decide +kernel
theorem hd_X2_farriersHorse : yX2_farriersHorse.cls = RX2 ∧ yX2_farriersHorse.cls ≠ "java/lang/invoke/MethodHandle" ∧ yX2_farriersHorse.cls ≠ "java/lang/invoke/VarHandle" ∧ (parseMethodDescriptor yX2_farriersHorse.desc).map (fun d => d.parameters.length) = some 0 := by decide +kernel
theorem hd_X2_findBooking : yX2_findBooking.cls = RX2 ∧ yX2_findBooking.cls ≠ "java/lang/invoke/MethodHandle" ∧ yX2_findBooking.cls ≠ "java/lang/invoke/VarHandle" ∧ (parseMethodDescriptor yX2_findBooking.desc).map (fun d => d.parameters.length) = some 2 := by decide +kernel
theorem hd_X2_giveLesson : yX2_giveLesson.cls = RX2 ∧ yX2_giveLesson.cls ≠ "java/lang/invoke/MethodHandle" ∧ yX2_giveLesson.cls ≠ "java/lang/invoke/VarHandle" ∧ (parseMethodDescriptor yX2_giveLesson.desc).map (fun d => d.parameters.length) = some 3 := by decide +kernel
theorem hd_X2_giveLessons : yX2_giveLessons.cls = RX2 ∧ yX2_giveLessons.cls ≠ "java/lang/invoke/MethodHandle" ∧ yX2_giveLessons.cls ≠ "java/lang/invoke/VarHandle" ∧ (parseMethodDescriptor yX2_giveLessons.desc).map (fun d => d.parameters.length) = some 1 := by decide +kernel
theorem hd_X2_hindrance : yX2_hindrance.cls = RX2 ∧ yX2_hindrance.cls ≠ "java/lang/invoke/MethodHandle" ∧ yX2_hindrance.cls ≠ "java/lang/invoke/VarHandle" ∧ (parseMethodDescriptor yX2_hindrance.desc).map (fun d => d.parameters.length) = some 3 := by decide +kernel
theorem hd_X2_isBetter : yX2_isBetter.cls = RX2 ∧ yX2_isBetter.cls ≠ "java/lang/invoke/MethodHandle" ∧ yX2_isBetter.cls ≠ "java/lang/invoke/VarHandle" ∧ (parseMethodDescriptor yX2_isBetter.desc).map (fun d => d.parameters.length) = some 3 := by decide +kernel
theorem hd_X2_isBooked : yX2_isBooked.cls = RX2 ∧ yX2_isBooked.cls ≠ "java/lang/invoke/MethodHandle" ∧ yX2_isBooked.cls ≠ "java/lang/invoke/VarHandle" ∧ (parseMethodDescriptor yX2_isBooked.desc).map (fun d => d.parameters.length) = some 2 := by decide +kernel
theorem hd_X2_isBooked_ : yX2_isBooked_.cls = RX2 ∧ yX2_isBooked_.cls ≠ "java/lang/invoke/MethodHandle" ∧ yX2_isBooked_.cls ≠ "java/lang/invoke/VarHandle" ∧ (parseMethodDescriptor yX2_isBooked_.desc).map (fun d => d.parameters.length) = some 3 := by decide +kernel
theorem hd_X2_isFarrierThere : yX2_isFarrierThere.cls = RX2 ∧ yX2_isFarrierThere.cls ≠ "java/lang/invoke/MethodHandle" ∧ yX2_isFarrierThere.cls ≠ "java/lang/invoke/VarHandle" ∧ (parseMethodDescriptor yX2_isFarrierThere.desc).map (fun d => d.parameters.length) = some 0 := by decide +kernel
theorem hd_X2_lameHorses : yX2_lameHorses.cls = RX2 ∧ yX2_lameHorses.cls ≠ "java/lang/invoke/MethodHandle" ∧ yX2_lameHorses.cls ≠ "java/lang/invoke/VarHandle" ∧ (parseMethodDescriptor yX2_lameHorses.desc).map (fun d => d.parameters.length) = some 0 := by decide +kernel
theorem hd_X2_letFall : yX2_letFall.cls = RX2 ∧ yX2_letFall.cls ≠ "java/lang/invoke/MethodHandle" ∧ yX2_letFall.cls ≠ "java/lang/invoke/VarHandle" ∧ (parseMethodDescriptor yX2_letFall.desc).map (fun d => d.parameters.length) = some 2 := by decide +kernel
theorem hd_X2_letLearn : yX2_letLearn.cls = RX2 ∧ yX2_letLearn.cls ≠ "java/lang/invoke/MethodHandle" ∧ yX2_letLearn.cls ≠ "java/lang/invoke/VarHandle" ∧ (parseMethodDescriptor yX2_letLearn.desc).map (fun d => d.parameters.length) = some 1 := by decide +kernel
theorem hd_X2_ofFall : yX2_ofFall.cls = RX2 ∧ yX2_ofFall.cls ≠ "java/lang/invoke/MethodHandle" ∧ yX2_ofFall.cls ≠ "java/lang/invoke/VarHandle" ∧ (parseMethodDescriptor yX2_ofFall.desc).map (fun d => d.parameters.length) = some 2 := by decide +kernel
theorem hd_X2_ofHorse : yX2_ofHorse.cls = RX2 ∧ yX2_ofHorse.cls ≠ "java/lang/invoke/MethodHandle" ∧ yX2_ofHorse.cls ≠ "java/lang/invoke/VarHandle" ∧ (parseMethodDescriptor yX2_ofHorse.desc).map (fun d => d.parameters.length) = some 2 := by decide +kernel
theorem hd_X2_ofRider : yX2_ofRider.cls = RX2 ∧ yX2_ofRider.cls ≠ "java/lang/invoke/MethodHandle" ∧ yX2_ofRider.cls ≠ "java/lang/invoke/VarHandle" ∧ (parseMethodDescriptor yX2_ofRider.desc).map (fun d => d.parameters.length) = some 2 := by decide +kernel
theorem hd_X2_passHour : yX2_passHour.cls = RX2 ∧ yX2_passHour.cls ≠ "java/lang/invoke/MethodHandle" ∧ yX2_passHour.cls ≠ "java/lang/invoke/VarHandle" ∧ (parseMethodDescriptor yX2_passHour.desc).map (fun d => d.parameters.length) = some 1 := by decide +kernel
theorem hd_X2_removeBooking : yX2_removeBooking.cls = RX2 ∧ yX2_removeBooking.cls ≠ "java/lang/invoke/MethodHandle" ∧ yX2_removeBooking.cls ≠ "java/lang/invoke/VarHandle" ∧ (parseMethodDescriptor yX2_removeBooking.desc).map (fun d => d.parameters.length) = some 1 := by decide +kernel
theorem hd_X2_ringOfBooking : yX2_ringOfBooking.cls = RX2 ∧ yX2_ringOfBooking.cls ≠ "java/lang/invoke/MethodHandle" ∧ yX2_ringOfBooking.cls ≠ "java/lang/invoke/VarHandle" ∧ (parseMethodDescriptor yX2_ringOfBooking.desc).map (fun d => d.parameters.length) = some 1 := by decide +kernel
theorem hd_X2_setOfRiders : yX2_setOfRiders.cls = RX2 ∧ yX2_setOfRiders.cls ≠ "java/lang/invoke/MethodHandle" ∧ yX2_setOfRiders.cls ≠ "java/lang/invoke/VarHandle" ∧ (parseMethodDescriptor yX2_setOfRiders.desc).map (fun d => d.parameters.length) = some 2 := by decide +kernel
theorem hd_X2_setting : yX2_setting.cls = RX2 ∧ yX2_setting.cls ≠ "java/lang/invoke/MethodHandle" ∧ yX2_setting.cls ≠ "java/lang/invoke/VarHandle" ∧ (parseMethodDescriptor yX2_setting.desc).map (fun d => d.parameters.length) = some 1 := by decide +kernel
theorem hd_X2_strain : yX2_strain.cls = RX2 ∧ yX2_strain.cls ≠ "java/lang/invoke/MethodHandle" ∧ yX2_strain.cls ≠ "java/lang/invoke/VarHandle" ∧ (parseMethodDescriptor yX2_strain.desc).map (fun d => d.parameters.length) = some 2 := by decide +kernel
theorem hd_X2_sumOfHorses : yX2_sumOfHorses.cls = RX2 ∧ yX2_sumOfHorses.cls ≠ "java/lang/invoke/MethodHandle" ∧ yX2_sumOfHorses.cls ≠ "java/lang/invoke/VarHandle" ∧ (parseMethodDescriptor yX2_sumOfHorses.desc).map (fun d => d.parameters.length) = some 1 := by decide +kernel
theorem hd_X2_sumOfRiders : yX2_sumOfRiders.cls = RX2 ∧ yX2_sumOfRiders.cls ≠ "java/lang/invoke/MethodHandle" ∧ yX2_sumOfRiders.cls ≠ "java/lang/invoke/VarHandle" ∧ (parseMethodDescriptor yX2_sumOfRiders.desc).map (fun d => d.parameters.length) = some 1 := by decide +kernel
theorem hd_X2_time : yX2_time.cls = RX2 ∧ yX2_time.cls ≠ "java/lang/invoke/MethodHandle" ∧ yX2_time.cls ≠ "java/lang/invoke/VarHandle" ∧ (parseMethodDescriptor yX2_time.desc).map (fun d => d.parameters.length) = some 0 := by decide +kernel
theorem hd_X3_init : yX3_init.cls = RX3 ∧ yX3_init.cls ≠ "java/lang/invoke/MethodHandle" ∧ yX3_init.cls ≠ "java/lang/invoke/VarHandle" ∧ (parseMethodDescriptor yX3_init.desc).map (fun d => d.parameters.length) = some 2 := by decide +kernel
theorem hd_X3_add : yX3_add.cls = RX3 ∧ yX3_add.cls ≠ "java/lang/invoke/MethodHandle" ∧ yX3_add.cls ≠ "java/lang/invoke/VarHandle" ∧ (parseMethodDescriptor yX3_add.desc).map (fun d => d.parameters.length) = some 3 := by decide +kernel
theorem hd_X3_addUpTo : yX3_addUpTo.cls = RX3 ∧ yX3_addUpTo.cls ≠ "java/lang/invoke/MethodHandle" ∧ yX3_addUpTo.cls ≠ "java/lang/invoke/VarHandle" ∧ (parseMethodDescriptor yX3_addUpTo.desc).map (fun d => d.parameters.length) = some 3 := by decide +kernel
theorem hd_X3_at : yX3_at.cls = RX3 ∧ yX3_at.cls ≠ "java/lang/invoke/MethodHandle" ∧ yX3_at.cls ≠ "java/lang/invoke/VarHandle" ∧ (parseMethodDescriptor yX3_at.desc).map (fun d => d.parameters.length) = some 2 := by decide +kernel
theorem hd_X3_copyFrom : yX3_copyFrom.cls = RX3 ∧ yX3_copyFrom.cls ≠ "java/lang/invoke/MethodHandle" ∧ yX3_copyFrom.cls ≠ "java/lang/invoke/VarHandle" ∧ (parseMethodDescriptor yX3_copyFrom.desc).map (fun d => d.parameters.length) = some 1 := by decide +kernel
theorem hd_X3_moveColumn : yX3_moveColumn.cls = RX3 ∧ yX3_moveColumn.cls ≠ "java/lang/invoke/MethodHandle" ∧ yX3_moveColumn.cls ≠ "java/lang/invoke/VarHandle" ∧ (parseMethodDescriptor yX3_moveColumn.desc).map (fun d => d.parameters.length) = some 3 := by decide +kernel
theorem hd_X3_put : yX3_put.cls = RX3 ∧ yX3_put.cls ≠ "java/lang/invoke/MethodHandle" ∧ yX3_put.cls ≠ "java/lang/invoke/VarHandle" ∧ (parseMethodDescriptor yX3_put.desc).map (fun d => d.parameters.length) = some 3 := by decide +kernel
theorem hd_X3_sum : yX3_sum.cls = RX3 ∧ yX3_sum.cls ≠ "java/lang/invoke/MethodHandle" ∧ yX3_sum.cls ≠ "java/lang/invoke/VarHandle" ∧ (parseMethodDescriptor yX3_sum.desc).map (fun d => d.parameters.length) = some 1 := by decide +kernel
theorem hd_X3_takeAway : yX3_takeAway.cls = RX3 ∧ yX3_takeAway.cls ≠ "java/lang/invoke/MethodHandle" ∧ yX3_takeAway.cls ≠ "java/lang/invoke/VarHandle" ∧ (parseMethodDescriptor yX3_takeAway.desc).map (fun d => d.parameters.length) = some 3 := by decide +kernel
theorem hd_X4_init : yX4_init.cls = RX4 ∧ yX4_init.cls ≠ "java/lang/invoke/MethodHandle" ∧ yX4_init.cls ≠ "java/lang/invoke/VarHandle" ∧ (parseMethodDescriptor yX4_init.desc).map (fun d => d.parameters.length) = some 0 := by decide +kernel
theorem hd_X4_length : yX4_length.cls = RX4 ∧ yX4_length.cls ≠ "java/lang/invoke/MethodHandle" ∧ yX4_length.cls ≠ "java/lang/invoke/VarHandle" ∧ (parseMethodDescriptor yX4_length.desc).map (fun d => d.parameters.length) = some 0 := by decide +kernel
theorem hd_L_act : yL_act.cls = RL ∧ yL_act.cls ≠ "java/lang/invoke/MethodHandle" ∧ yL_act.cls ≠ "java/lang/invoke/VarHandle" ∧ (parseMethodDescriptor yL_act.desc).map (fun d => d.parameters.length) = some 2 := by decide +kernel
theorem hd_L_areAlike : yL_areAlike.cls = RL ∧ yL_areAlike.cls ≠ "java/lang/invoke/MethodHandle" ∧ yL_areAlike.cls ≠ "java/lang/invoke/VarHandle" ∧ (parseMethodDescriptor yL_areAlike.desc).map (fun d => d.parameters.length) = some 2 := by decide +kernel
theorem hd_L_areLessonsSo : yL_areLessonsSo.cls = RL ∧ yL_areLessonsSo.cls ≠ "java/lang/invoke/MethodHandle" ∧ yL_areLessonsSo.cls ≠ "java/lang/invoke/VarHandle" ∧ (parseMethodDescriptor yL_areLessonsSo.desc).map (fun d => d.parameters.length) = some 1 := by decide +kernel
theorem hd_L_areSums : yL_areSums.cls = RL ∧ yL_areSums.cls ≠ "java/lang/invoke/MethodHandle" ∧ yL_areSums.cls ≠ "java/lang/invoke/VarHandle" ∧ (parseMethodDescriptor yL_areSums.desc).map (fun d => d.parameters.length) = some 1 := by decide +kernel
theorem hd_L_cell : yL_cell.cls = RL ∧ yL_cell.cls ≠ "java/lang/invoke/MethodHandle" ∧ yL_cell.cls ≠ "java/lang/invoke/VarHandle" ∧ (parseMethodDescriptor yL_cell.desc).map (fun d => d.parameters.length) = some 2 := by decide +kernel
theorem hd_L_isBestSo : yL_isBestSo.cls = RL ∧ yL_isBestSo.cls ≠ "java/lang/invoke/MethodHandle" ∧ yL_isBestSo.cls ≠ "java/lang/invoke/VarHandle" ∧ (parseMethodDescriptor yL_isBestSo.desc).map (fun d => d.parameters.length) = some 2 := by decide +kernel
theorem hd_L_law : yL_law.cls = RL ∧ yL_law.cls ≠ "java/lang/invoke/MethodHandle" ∧ yL_law.cls ≠ "java/lang/invoke/VarHandle" ∧ (parseMethodDescriptor yL_law.desc).map (fun d => d.parameters.length) = some 1 := by decide +kernel
theorem hd_L_low : yL_low.cls = RL ∧ yL_low.cls ≠ "java/lang/invoke/MethodHandle" ∧ yL_low.cls ≠ "java/lang/invoke/VarHandle" ∧ (parseMethodDescriptor yL_low.desc).map (fun d => d.parameters.length) = some 2 := by decide +kernel
theorem layX0 : ∀ w ∈ u_ws RX0 TX0 3, w ∈ wsG := show ∀ w ∈ ([u_lay RX0 TX0 0, u_lay RX0 TX0 1, u_lay RX0 TX0 2] : List Cond), w ∈ wsG from List.forall_mem_cons.mpr ⟨ly_X0_states, List.forall_mem_cons.mpr ⟨ly_X0_next, List.forall_mem_cons.mpr ⟨ly_X0_size, List.forall_mem_nil _⟩⟩⟩
theorem layX1 : ∀ w ∈ u_ws RX1 TX1 6, w ∈ wsG := show ∀ w ∈ ([u_lay RX1 TX1 0, u_lay RX1 TX1 1, u_lay RX1 TX1 2, u_lay RX1 TX1 3, u_lay RX1 TX1 4, u_lay RX1 TX1 5] : List Cond), w ∈ wsG from List.forall_mem_cons.mpr ⟨ly_X1_entries, List.forall_mem_cons.mpr ⟨ly_X1_size, List.forall_mem_cons.mpr ⟨ly_X1_place, List.forall_mem_cons.mpr ⟨ly_X1_number, List.forall_mem_cons.mpr ⟨ly_X1_hours, List.forall_mem_cons.mpr ⟨ly_X1_ring, List.forall_mem_nil _⟩⟩⟩⟩⟩⟩
theorem layX2 : ∀ w ∈ u_ws RX2 TX2 8, w ∈ wsG := show ∀ w ∈ ([u_lay RX2 TX2 0, u_lay RX2 TX2 1, u_lay RX2 TX2 2, u_lay RX2 TX2 3, u_lay RX2 TX2 4, u_lay RX2 TX2 5, u_lay RX2 TX2 6, u_lay RX2 TX2 7] : List Cond), w ∈ wsG from List.forall_mem_cons.mpr ⟨ly_X2_time, List.forall_mem_cons.mpr ⟨ly_X2_settings, List.forall_mem_cons.mpr ⟨ly_X2_horses, List.forall_mem_cons.mpr ⟨ly_X2_riders, List.forall_mem_cons.mpr ⟨ly_X2_bookings, List.forall_mem_cons.mpr ⟨ly_X2_bookingCount, List.forall_mem_cons.mpr ⟨ly_X2_falls, List.forall_mem_cons.mpr ⟨ly_X2_fallCount, List.forall_mem_nil _⟩⟩⟩⟩⟩⟩⟩⟩
theorem layX3 : ∀ w ∈ u_ws RX3 TX3 2, w ∈ wsG := show ∀ w ∈ ([u_lay RX3 TX3 0, u_lay RX3 TX3 1] : List Cond), w ∈ wsG from List.forall_mem_cons.mpr ⟨ly_X3_width, List.forall_mem_cons.mpr ⟨ly_X3_cells, List.forall_mem_nil _⟩⟩
theorem layX4 : ∀ w ∈ u_ws RX4 TX4 2, w ∈ wsG := show ∀ w ∈ ([u_lay RX4 TX4 0, u_lay RX4 TX4 1] : List Cond), w ∈ wsG from List.forall_mem_cons.mpr ⟨ly_X4_characters, List.forall_mem_cons.mpr ⟨ly_X4_length, List.forall_mem_nil _⟩⟩
theorem layX5 : ∀ w ∈ u_ws RX5 TX5 7, w ∈ wsG := show ∀ w ∈ ([u_lay RX5 TX5 0, u_lay RX5 TX5 1, u_lay RX5 TX5 2, u_lay RX5 TX5 3, u_lay RX5 TX5 4, u_lay RX5 TX5 5, u_lay RX5 TX5 6] : List Cond), w ∈ wsG from List.forall_mem_cons.mpr ⟨ly_X5_now, List.forall_mem_cons.mpr ⟨ly_X5_ahead, List.forall_mem_cons.mpr ⟨ly_X5_snapshot, List.forall_mem_cons.mpr ⟨ly_X5_hasSnapshot, List.forall_mem_cons.mpr ⟨ly_X5_history, List.forall_mem_cons.mpr ⟨ly_X5_text, List.forall_mem_cons.mpr ⟨ly_X5_plan, List.forall_mem_nil _⟩⟩⟩⟩⟩⟩⟩
