section
-- ===== PART A: goes FIRST, ahead of the names: the tables' words, and 'selects' of the private methods out of them =====
/-- a private method of a class that the tables say can be made, by its rows of tables_1 -/
def lw_okq (q : MethodName × Nat) : Prop := (q.1.cls ≠ "java/lang/invoke/MethodHandle" ∧ q.1.cls ≠ "java/lang/invoke/VarHandle") ∧ Cond.instantiable q.1.cls q.2 ∈ tables_1 ∧ Cond.privateMethod q.1 ∈ tables_1 ∧ Cond.instanceMethod q.1 ∈ tables_1
theorem lw_p0 : lw_okq (⟨"LessonHorses$History", "stateAt", "(I)LLessonHorses$Stable;"⟩, 3) := ⟨⟨by decide +kernel, by decide +kernel⟩, List.mem_of_getElem? (i := 73) (by decide +kernel), List.mem_of_getElem? (i := 177) (by decide +kernel), List.mem_of_getElem? (i := 178) (by decide +kernel)⟩
theorem lw_p1 : lw_okq (⟨"LessonHorses$Stable", "abilityOf", "(I)I"⟩, 8) := ⟨⟨by decide +kernel, by decide +kernel⟩, List.mem_of_getElem? (i := 19) (by decide +kernel), List.mem_of_getElem? (i := 210) (by decide +kernel), List.mem_of_getElem? (i := 211) (by decide +kernel)⟩
theorem lw_p2 : lw_okq (⟨"LessonHorses$Stable", "bookingsOf", "(I)I"⟩, 8) := ⟨⟨by decide +kernel, by decide +kernel⟩, List.mem_of_getElem? (i := 19) (by decide +kernel), List.mem_of_getElem? (i := 217) (by decide +kernel), List.mem_of_getElem? (i := 218) (by decide +kernel)⟩
theorem lw_p3 : lw_okq (⟨"LessonHorses$Stable", "isBooked", "(II)Z"⟩, 8) := ⟨⟨by decide +kernel, by decide +kernel⟩, List.mem_of_getElem? (i := 19) (by decide +kernel), List.mem_of_getElem? (i := 257) (by decide +kernel), List.mem_of_getElem? (i := 258) (by decide +kernel)⟩
theorem lw_p4 : lw_okq (⟨"LessonHorses$Stable", "isBooked", "(III)Z"⟩, 8) := ⟨⟨by decide +kernel, by decide +kernel⟩, List.mem_of_getElem? (i := 19) (by decide +kernel), List.mem_of_getElem? (i := 265) (by decide +kernel), List.mem_of_getElem? (i := 266) (by decide +kernel)⟩
theorem lw_p5 : lw_okq (⟨"LessonHorses$Stable", "giveLessons", "(I)I"⟩, 8) := ⟨⟨by decide +kernel, by decide +kernel⟩, List.mem_of_getElem? (i := 19) (by decide +kernel), List.mem_of_getElem? (i := 324) (by decide +kernel), List.mem_of_getElem? (i := 325) (by decide +kernel)⟩
theorem lw_p6 : lw_okq (⟨"LessonHorses$Stable", "giveLesson", "(III)I"⟩, 8) := ⟨⟨by decide +kernel, by decide +kernel⟩, List.mem_of_getElem? (i := 19) (by decide +kernel), List.mem_of_getElem? (i := 328) (by decide +kernel), List.mem_of_getElem? (i := 329) (by decide +kernel)⟩
theorem lw_p7 : lw_okq (⟨"LessonHorses$Stable", "isBetter", "(III)Z"⟩, 8) := ⟨⟨by decide +kernel, by decide +kernel⟩, List.mem_of_getElem? (i := 19) (by decide +kernel), List.mem_of_getElem? (i := 340) (by decide +kernel), List.mem_of_getElem? (i := 341) (by decide +kernel)⟩
theorem lw_p8 : lw_okq (⟨"LessonHorses$Stable", "letFall", "(II)V"⟩, 8) := ⟨⟨by decide +kernel, by decide +kernel⟩, List.mem_of_getElem? (i := 19) (by decide +kernel), List.mem_of_getElem? (i := 348) (by decide +kernel), List.mem_of_getElem? (i := 349) (by decide +kernel)⟩
theorem lw_p9 : lw_okq (⟨"LessonHorses$Stable", "letLearn", "(I)V"⟩, 8) := ⟨⟨by decide +kernel, by decide +kernel⟩, List.mem_of_getElem? (i := 19) (by decide +kernel), List.mem_of_getElem? (i := 357) (by decide +kernel), List.mem_of_getElem? (i := 358) (by decide +kernel)⟩
theorem lw_p10 : lw_okq (⟨"LessonHorses$Stable", "strain", "(II)V"⟩, 8) := ⟨⟨by decide +kernel, by decide +kernel⟩, List.mem_of_getElem? (i := 19) (by decide +kernel), List.mem_of_getElem? (i := 366) (by decide +kernel), List.mem_of_getElem? (i := 367) (by decide +kernel)⟩
theorem lw_p11 : lw_okq (⟨"LessonHorses$Plan", "moveTo", "(I)V"⟩, 6) := ⟨⟨by decide +kernel, by decide +kernel⟩, List.mem_of_getElem? (i := 106) (by decide +kernel), List.mem_of_getElem? (i := 398) (by decide +kernel), List.mem_of_getElem? (i := 399) (by decide +kernel)⟩
theorem lw_p12 : lw_okq (⟨"LessonHorses$Plan", "accepts", "(C)Z"⟩, 6) := ⟨⟨by decide +kernel, by decide +kernel⟩, List.mem_of_getElem? (i := 106) (by decide +kernel), List.mem_of_getElem? (i := 407) (by decide +kernel), List.mem_of_getElem? (i := 408) (by decide +kernel)⟩
theorem lw_p13 : lw_okq (⟨"LessonHorses$Plan", "acceptsDigit", "(I)Z"⟩, 6) := ⟨⟨by decide +kernel, by decide +kernel⟩, List.mem_of_getElem? (i := 106) (by decide +kernel), List.mem_of_getElem? (i := 411) (by decide +kernel), List.mem_of_getElem? (i := 412) (by decide +kernel)⟩
theorem lw_p14 : lw_okq (⟨"LessonHorses$Plan", "acceptsStart", "()Z"⟩, 6) := ⟨⟨by decide +kernel, by decide +kernel⟩, List.mem_of_getElem? (i := 106) (by decide +kernel), List.mem_of_getElem? (i := 418) (by decide +kernel), List.mem_of_getElem? (i := 419) (by decide +kernel)⟩
theorem lw_p15 : lw_okq (⟨"LessonHorses$Plan", "acceptsSignBehindNumber", "(C)Z"⟩, 6) := ⟨⟨by decide +kernel, by decide +kernel⟩, List.mem_of_getElem? (i := 106) (by decide +kernel), List.mem_of_getElem? (i := 422) (by decide +kernel), List.mem_of_getElem? (i := 423) (by decide +kernel)⟩
def lw_privs_1 : List (MethodName × Nat) := [(⟨"LessonHorses$History", "stateAt", "(I)LLessonHorses$Stable;"⟩, 3), (⟨"LessonHorses$Stable", "abilityOf", "(I)I"⟩, 8), (⟨"LessonHorses$Stable", "bookingsOf", "(I)I"⟩, 8), (⟨"LessonHorses$Stable", "isBooked", "(II)Z"⟩, 8), (⟨"LessonHorses$Stable", "isBooked", "(III)Z"⟩, 8), (⟨"LessonHorses$Stable", "giveLessons", "(I)I"⟩, 8), (⟨"LessonHorses$Stable", "giveLesson", "(III)I"⟩, 8), (⟨"LessonHorses$Stable", "isBetter", "(III)Z"⟩, 8), (⟨"LessonHorses$Stable", "letFall", "(II)V"⟩, 8), (⟨"LessonHorses$Stable", "letLearn", "(I)V"⟩, 8), (⟨"LessonHorses$Stable", "strain", "(II)V"⟩, 8), (⟨"LessonHorses$Plan", "moveTo", "(I)V"⟩, 6), (⟨"LessonHorses$Plan", "accepts", "(C)Z"⟩, 6), (⟨"LessonHorses$Plan", "acceptsDigit", "(I)Z"⟩, 6), (⟨"LessonHorses$Plan", "acceptsStart", "()Z"⟩, 6), (⟨"LessonHorses$Plan", "acceptsSignBehindNumber", "(C)Z"⟩, 6)]
theorem lw_r1 : ∀ q ∈ lw_privs_1, lw_okq q := List.forall_mem_cons.mpr ⟨lw_p0, List.forall_mem_cons.mpr ⟨lw_p1, List.forall_mem_cons.mpr ⟨lw_p2, List.forall_mem_cons.mpr ⟨lw_p3, List.forall_mem_cons.mpr ⟨lw_p4, List.forall_mem_cons.mpr ⟨lw_p5, List.forall_mem_cons.mpr ⟨lw_p6, List.forall_mem_cons.mpr ⟨lw_p7, List.forall_mem_cons.mpr ⟨lw_p8, List.forall_mem_cons.mpr ⟨lw_p9, List.forall_mem_cons.mpr ⟨lw_p10, List.forall_mem_cons.mpr ⟨lw_p11, List.forall_mem_cons.mpr ⟨lw_p12, List.forall_mem_cons.mpr ⟨lw_p13, List.forall_mem_cons.mpr ⟨lw_p14, List.forall_mem_cons.mpr ⟨lw_p15, fun _ h => absurd h List.not_mem_nil⟩⟩⟩⟩⟩⟩⟩⟩⟩⟩⟩⟩⟩⟩⟩⟩
theorem lw_p16 : lw_okq (⟨"LessonHorses$Plan", "addEntry", "()V"⟩, 6) := ⟨⟨by decide +kernel, by decide +kernel⟩, List.mem_of_getElem? (i := 106) (by decide +kernel), List.mem_of_getElem? (i := 426) (by decide +kernel), List.mem_of_getElem? (i := 427) (by decide +kernel)⟩
theorem lw_p17 : lw_okq (⟨"LessonHorsesModel", "record", "()V"⟩, 14) := ⟨⟨by decide +kernel, by decide +kernel⟩, List.mem_of_getElem? (i := 544) (by decide +kernel), List.mem_of_getElem? (i := 609) (by decide +kernel), List.mem_of_getElem? (i := 610) (by decide +kernel)⟩
theorem lw_p18 : lw_okq (⟨"LessonHorsesModel", "putAside", "()V"⟩, 14) := ⟨⟨by decide +kernel, by decide +kernel⟩, List.mem_of_getElem? (i := 544) (by decide +kernel), List.mem_of_getElem? (i := 634) (by decide +kernel), List.mem_of_getElem? (i := 635) (by decide +kernel)⟩
theorem lw_p19 : lw_okq (⟨"LessonHorsesModel", "books", "(III)I"⟩, 14) := ⟨⟨by decide +kernel, by decide +kernel⟩, List.mem_of_getElem? (i := 544) (by decide +kernel), List.mem_of_getElem? (i := 638) (by decide +kernel), List.mem_of_getElem? (i := 639) (by decide +kernel)⟩
theorem lw_p20 : lw_okq (⟨"LessonHorsesModel", "bookingOf", "(II)I"⟩, 14) := ⟨⟨by decide +kernel, by decide +kernel⟩, List.mem_of_getElem? (i := 544) (by decide +kernel), List.mem_of_getElem? (i := 648) (by decide +kernel), List.mem_of_getElem? (i := 649) (by decide +kernel)⟩
theorem lw_p21 : lw_okq (⟨"LessonHorsesModel", "bookedFor", "(II)I"⟩, 14) := ⟨⟨by decide +kernel, by decide +kernel⟩, List.mem_of_getElem? (i := 544) (by decide +kernel), List.mem_of_getElem? (i := 655) (by decide +kernel), List.mem_of_getElem? (i := 656) (by decide +kernel)⟩
theorem lw_p22 : lw_okq (⟨"LessonHorsesModel", "recordAside", "()V"⟩, 14) := ⟨⟨by decide +kernel, by decide +kernel⟩, List.mem_of_getElem? (i := 544) (by decide +kernel), List.mem_of_getElem? (i := 659) (by decide +kernel), List.mem_of_getElem? (i := 660) (by decide +kernel)⟩
theorem lw_p23 : lw_okq (⟨"LessonHorsesModel", "hour", "(Z)I"⟩, 14) := ⟨⟨by decide +kernel, by decide +kernel⟩, List.mem_of_getElem? (i := 544) (by decide +kernel), List.mem_of_getElem? (i := 671) (by decide +kernel), List.mem_of_getElem? (i := 672) (by decide +kernel)⟩
theorem lw_p24 : lw_okq (⟨"LessonHorsesModel", "shodHorse", "()I"⟩, 14) := ⟨⟨by decide +kernel, by decide +kernel⟩, List.mem_of_getElem? (i := 544) (by decide +kernel), List.mem_of_getElem? (i := 675) (by decide +kernel), List.mem_of_getElem? (i := 676) (by decide +kernel)⟩
theorem lw_p25 : lw_okq (⟨"LessonHorsesModel", "isFarrierThere", "()Z"⟩, 14) := ⟨⟨by decide +kernel, by decide +kernel⟩, List.mem_of_getElem? (i := 544) (by decide +kernel), List.mem_of_getElem? (i := 679) (by decide +kernel), List.mem_of_getElem? (i := 680) (by decide +kernel)⟩
theorem lw_p26 : lw_okq (⟨"LessonHorsesModel", "frees", "()V"⟩, 14) := ⟨⟨by decide +kernel, by decide +kernel⟩, List.mem_of_getElem? (i := 544) (by decide +kernel), List.mem_of_getElem? (i := 683) (by decide +kernel), List.mem_of_getElem? (i := 684) (by decide +kernel)⟩
theorem lw_p27 : lw_okq (⟨"LessonHorsesModel", "gives", "(I)I"⟩, 14) := ⟨⟨by decide +kernel, by decide +kernel⟩, List.mem_of_getElem? (i := 544) (by decide +kernel), List.mem_of_getElem? (i := 687) (by decide +kernel), List.mem_of_getElem? (i := 688) (by decide +kernel)⟩
theorem lw_p28 : lw_okq (⟨"LessonHorsesModel", "rides", "(II)Z"⟩, 14) := ⟨⟨by decide +kernel, by decide +kernel⟩, List.mem_of_getElem? (i := 544) (by decide +kernel), List.mem_of_getElem? (i := 691) (by decide +kernel), List.mem_of_getElem? (i := 692) (by decide +kernel)⟩
theorem lw_p29 : lw_okq (⟨"LessonHorsesModel", "bestFor", "(II)I"⟩, 14) := ⟨⟨by decide +kernel, by decide +kernel⟩, List.mem_of_getElem? (i := 544) (by decide +kernel), List.mem_of_getElem? (i := 695) (by decide +kernel), List.mem_of_getElem? (i := 696) (by decide +kernel)⟩
theorem lw_p30 : lw_okq (⟨"LessonHorsesModel", "hindrance", "(III)I"⟩, 14) := ⟨⟨by decide +kernel, by decide +kernel⟩, List.mem_of_getElem? (i := 544) (by decide +kernel), List.mem_of_getElem? (i := 699) (by decide +kernel), List.mem_of_getElem? (i := 700) (by decide +kernel)⟩
theorem lw_p31 : lw_okq (⟨"LessonHorsesModel", "isBetter", "(III)Z"⟩, 14) := ⟨⟨by decide +kernel, by decide +kernel⟩, List.mem_of_getElem? (i := 544) (by decide +kernel), List.mem_of_getElem? (i := 703) (by decide +kernel), List.mem_of_getElem? (i := 704) (by decide +kernel)⟩
def lw_privs_2 : List (MethodName × Nat) := [(⟨"LessonHorses$Plan", "addEntry", "()V"⟩, 6), (⟨"LessonHorsesModel", "record", "()V"⟩, 14), (⟨"LessonHorsesModel", "putAside", "()V"⟩, 14), (⟨"LessonHorsesModel", "books", "(III)I"⟩, 14), (⟨"LessonHorsesModel", "bookingOf", "(II)I"⟩, 14), (⟨"LessonHorsesModel", "bookedFor", "(II)I"⟩, 14), (⟨"LessonHorsesModel", "recordAside", "()V"⟩, 14), (⟨"LessonHorsesModel", "hour", "(Z)I"⟩, 14), (⟨"LessonHorsesModel", "shodHorse", "()I"⟩, 14), (⟨"LessonHorsesModel", "isFarrierThere", "()Z"⟩, 14), (⟨"LessonHorsesModel", "frees", "()V"⟩, 14), (⟨"LessonHorsesModel", "gives", "(I)I"⟩, 14), (⟨"LessonHorsesModel", "rides", "(II)Z"⟩, 14), (⟨"LessonHorsesModel", "bestFor", "(II)I"⟩, 14), (⟨"LessonHorsesModel", "hindrance", "(III)I"⟩, 14), (⟨"LessonHorsesModel", "isBetter", "(III)Z"⟩, 14)]
theorem lw_r2 : ∀ q ∈ lw_privs_2, lw_okq q := List.forall_mem_cons.mpr ⟨lw_p16, List.forall_mem_cons.mpr ⟨lw_p17, List.forall_mem_cons.mpr ⟨lw_p18, List.forall_mem_cons.mpr ⟨lw_p19, List.forall_mem_cons.mpr ⟨lw_p20, List.forall_mem_cons.mpr ⟨lw_p21, List.forall_mem_cons.mpr ⟨lw_p22, List.forall_mem_cons.mpr ⟨lw_p23, List.forall_mem_cons.mpr ⟨lw_p24, List.forall_mem_cons.mpr ⟨lw_p25, List.forall_mem_cons.mpr ⟨lw_p26, List.forall_mem_cons.mpr ⟨lw_p27, List.forall_mem_cons.mpr ⟨lw_p28, List.forall_mem_cons.mpr ⟨lw_p29, List.forall_mem_cons.mpr ⟨lw_p30, List.forall_mem_cons.mpr ⟨lw_p31, fun _ h => absurd h List.not_mem_nil⟩⟩⟩⟩⟩⟩⟩⟩⟩⟩⟩⟩⟩⟩⟩⟩
theorem lw_p32 : lw_okq (⟨"LessonHorsesModel", "can", "(I)I"⟩, 14) := ⟨⟨by decide +kernel, by decide +kernel⟩, List.mem_of_getElem? (i := 544) (by decide +kernel), List.mem_of_getElem? (i := 707) (by decide +kernel), List.mem_of_getElem? (i := 708) (by decide +kernel)⟩
theorem lw_p33 : lw_okq (⟨"LessonHorsesModel", "falls", "(II)V"⟩, 14) := ⟨⟨by decide +kernel, by decide +kernel⟩, List.mem_of_getElem? (i := 544) (by decide +kernel), List.mem_of_getElem? (i := 711) (by decide +kernel), List.mem_of_getElem? (i := 712) (by decide +kernel)⟩
theorem lw_p34 : lw_okq (⟨"LessonHorsesModel", "learns", "(I)V"⟩, 14) := ⟨⟨by decide +kernel, by decide +kernel⟩, List.mem_of_getElem? (i := 544) (by decide +kernel), List.mem_of_getElem? (i := 715) (by decide +kernel), List.mem_of_getElem? (i := 716) (by decide +kernel)⟩
theorem lw_p35 : lw_okq (⟨"LessonHorsesModel", "strains", "(I)V"⟩, 14) := ⟨⟨by decide +kernel, by decide +kernel⟩, List.mem_of_getElem? (i := 544) (by decide +kernel), List.mem_of_getElem? (i := 719) (by decide +kernel), List.mem_of_getElem? (i := 720) (by decide +kernel)⟩
theorem lw_p36 : lw_okq (⟨"LessonHorsesModel", "rests", "(II)V"⟩, 14) := ⟨⟨by decide +kernel, by decide +kernel⟩, List.mem_of_getElem? (i := 544) (by decide +kernel), List.mem_of_getElem? (i := 723) (by decide +kernel), List.mem_of_getElem? (i := 724) (by decide +kernel)⟩
theorem lw_p37 : lw_okq (⟨"LessonHorsesModel", "readsPlan", "(Z)I"⟩, 14) := ⟨⟨by decide +kernel, by decide +kernel⟩, List.mem_of_getElem? (i := 544) (by decide +kernel), List.mem_of_getElem? (i := 739) (by decide +kernel), List.mem_of_getElem? (i := 740) (by decide +kernel)⟩
theorem lw_p38 : lw_okq (⟨"LessonHorsesModel", "readsBooking", "(Z)V"⟩, 14) := ⟨⟨by decide +kernel, by decide +kernel⟩, List.mem_of_getElem? (i := 544) (by decide +kernel), List.mem_of_getElem? (i := 743) (by decide +kernel), List.mem_of_getElem? (i := 744) (by decide +kernel)⟩
theorem lw_p39 : lw_okq (⟨"LessonHorsesModel", "needs", "(I)V"⟩, 14) := ⟨⟨by decide +kernel, by decide +kernel⟩, List.mem_of_getElem? (i := 544) (by decide +kernel), List.mem_of_getElem? (i := 747) (by decide +kernel), List.mem_of_getElem? (i := 748) (by decide +kernel)⟩
theorem lw_p40 : lw_okq (⟨"LessonHorsesModel", "isNext", "(II)Z"⟩, 14) := ⟨⟨by decide +kernel, by decide +kernel⟩, List.mem_of_getElem? (i := 544) (by decide +kernel), List.mem_of_getElem? (i := 751) (by decide +kernel), List.mem_of_getElem? (i := 752) (by decide +kernel)⟩
theorem lw_p41 : lw_okq (⟨"LessonHorsesModel", "number", "(I)I"⟩, 14) := ⟨⟨by decide +kernel, by decide +kernel⟩, List.mem_of_getElem? (i := 544) (by decide +kernel), List.mem_of_getElem? (i := 755) (by decide +kernel), List.mem_of_getElem? (i := 756) (by decide +kernel)⟩
theorem lw_p42 : lw_okq (⟨"LessonHorsesModel", "reads", "(ZII)V"⟩, 14) := ⟨⟨by decide +kernel, by decide +kernel⟩, List.mem_of_getElem? (i := 544) (by decide +kernel), List.mem_of_getElem? (i := 759) (by decide +kernel), List.mem_of_getElem? (i := 760) (by decide +kernel)⟩
theorem lw_p43 : lw_okq (⟨"LessonHorsesModel", "putBack", "()V"⟩, 14) := ⟨⟨by decide +kernel, by decide +kernel⟩, List.mem_of_getElem? (i := 544) (by decide +kernel), List.mem_of_getElem? (i := 763) (by decide +kernel), List.mem_of_getElem? (i := 764) (by decide +kernel)⟩
theorem lw_p44 : lw_okq (⟨"LessonHorsesModel", "bookingsOf", "(I)I"⟩, 14) := ⟨⟨by decide +kernel, by decide +kernel⟩, List.mem_of_getElem? (i := 544) (by decide +kernel), List.mem_of_getElem? (i := 787) (by decide +kernel), List.mem_of_getElem? (i := 788) (by decide +kernel)⟩
theorem lw_p45 : lw_okq (⟨"LessonHorsesModel", "ridersFor", "(II)I"⟩, 14) := ⟨⟨by decide +kernel, by decide +kernel⟩, List.mem_of_getElem? (i := 544) (by decide +kernel), List.mem_of_getElem? (i := 795) (by decide +kernel), List.mem_of_getElem? (i := 796) (by decide +kernel)⟩
theorem lw_p46 : lw_okq (⟨"LessonHorsesModel", "lameHorses", "()I"⟩, 14) := ⟨⟨by decide +kernel, by decide +kernel⟩, List.mem_of_getElem? (i := 544) (by decide +kernel), List.mem_of_getElem? (i := 819) (by decide +kernel), List.mem_of_getElem? (i := 820) (by decide +kernel)⟩
theorem lw_p47 : lw_okq (⟨"LessonHorsesModel", "tiredness", "()I"⟩, 14) := ⟨⟨by decide +kernel, by decide +kernel⟩, List.mem_of_getElem? (i := 544) (by decide +kernel), List.mem_of_getElem? (i := 831) (by decide +kernel), List.mem_of_getElem? (i := 832) (by decide +kernel)⟩
def lw_privs_3 : List (MethodName × Nat) := [(⟨"LessonHorsesModel", "can", "(I)I"⟩, 14), (⟨"LessonHorsesModel", "falls", "(II)V"⟩, 14), (⟨"LessonHorsesModel", "learns", "(I)V"⟩, 14), (⟨"LessonHorsesModel", "strains", "(I)V"⟩, 14), (⟨"LessonHorsesModel", "rests", "(II)V"⟩, 14), (⟨"LessonHorsesModel", "readsPlan", "(Z)I"⟩, 14), (⟨"LessonHorsesModel", "readsBooking", "(Z)V"⟩, 14), (⟨"LessonHorsesModel", "needs", "(I)V"⟩, 14), (⟨"LessonHorsesModel", "isNext", "(II)Z"⟩, 14), (⟨"LessonHorsesModel", "number", "(I)I"⟩, 14), (⟨"LessonHorsesModel", "reads", "(ZII)V"⟩, 14), (⟨"LessonHorsesModel", "putBack", "()V"⟩, 14), (⟨"LessonHorsesModel", "bookingsOf", "(I)I"⟩, 14), (⟨"LessonHorsesModel", "ridersFor", "(II)I"⟩, 14), (⟨"LessonHorsesModel", "lameHorses", "()I"⟩, 14), (⟨"LessonHorsesModel", "tiredness", "()I"⟩, 14)]
theorem lw_r3 : ∀ q ∈ lw_privs_3, lw_okq q := List.forall_mem_cons.mpr ⟨lw_p32, List.forall_mem_cons.mpr ⟨lw_p33, List.forall_mem_cons.mpr ⟨lw_p34, List.forall_mem_cons.mpr ⟨lw_p35, List.forall_mem_cons.mpr ⟨lw_p36, List.forall_mem_cons.mpr ⟨lw_p37, List.forall_mem_cons.mpr ⟨lw_p38, List.forall_mem_cons.mpr ⟨lw_p39, List.forall_mem_cons.mpr ⟨lw_p40, List.forall_mem_cons.mpr ⟨lw_p41, List.forall_mem_cons.mpr ⟨lw_p42, List.forall_mem_cons.mpr ⟨lw_p43, List.forall_mem_cons.mpr ⟨lw_p44, List.forall_mem_cons.mpr ⟨lw_p45, List.forall_mem_cons.mpr ⟨lw_p46, List.forall_mem_cons.mpr ⟨lw_p47, fun _ h => absurd h List.not_mem_nil⟩⟩⟩⟩⟩⟩⟩⟩⟩⟩⟩⟩⟩⟩⟩⟩
def lw_privs : List (MethodName × Nat) := lw_privs_1 ++ (lw_privs_2 ++ (lw_privs_3))
def lw_tbl : List Cond := k2_sels lw_privs ++ tables_1
theorem lw_privs_ok : ∀ q ∈ lw_privs, lw_okq q := by
  show ∀ q ∈ lw_privs_1 ++ (lw_privs_2 ++ (lw_privs_3)), lw_okq q
  exact List.forall_mem_append.mpr ⟨lw_r1, List.forall_mem_append.mpr ⟨lw_r2, lw_r3⟩⟩
end
section
def RX0 : String := "LessonHorses$History"
def TX0 : u_T := fun k => match k with
  | 0 => ("LessonHorses$History", "states", "[LLessonHorses$Stable;", true)
  | 1 => ("LessonHorses$History", "next", "I", false)
  | _ => ("LessonHorses$History", "size", "I", false)
def tyX0 : Nat → FieldType := fun k => match k with
  | 0 => .array (.object "LessonHorses$Stable")
  | 1 => .int
  | _ => .int
abbrev wsX00 : List Cond := u_ws RX0 TX0 3
theorem nmX0 : ∀ a, a < 3 → ∀ b, b < 3 → a ≠ b → (TX0 a).2.1 ≠ (TX0 b).2.1 := by decide +kernel
theorem tyX0_ok : ∀ k, k < 3 → parseFieldDescriptor (TX0 k).2.2.1 = some (tyX0 k) := by decide +kernel
abbrev cX0_init : ByteArray := prog_2_method_1_code
def yX0_init : MethodName := ⟨RX0, "<init>", "()V"⟩
abbrev cX0_size : ByteArray := prog_2_method_2_code
def yX0_size : MethodName := ⟨RX0, "size", "()I"⟩
abbrev cX0_stateAt : ByteArray := prog_2_method_3_code
def yX0_stateAt : MethodName := ⟨RX0, "stateAt", "(I)LLessonHorses$Stable;"⟩
abbrev cX0_record : ByteArray := prog_2_method_4_code
def yX0_record : MethodName := ⟨RX0, "record", "(LLessonHorses$Stable;)V"⟩
abbrev cX0_takeBack : ByteArray := prog_2_method_5_code
def yX0_takeBack : MethodName := ⟨RX0, "takeBack", "(LLessonHorses$Stable;)V"⟩
def RX1 : String := "LessonHorses$Plan"
def TX1 : u_T := fun k => match k with
  | 0 => ("LessonHorses$Plan", "entries", "LLessonHorses$Table;", true)
  | 1 => ("LessonHorses$Plan", "size", "I", false)
  | 2 => ("LessonHorses$Plan", "place", "I", false)
  | 3 => ("LessonHorses$Plan", "number", "I", false)
  | 4 => ("LessonHorses$Plan", "hours", "I", false)
  | _ => ("LessonHorses$Plan", "ring", "I", false)
def tyX1 : Nat → FieldType := fun k => match k with
  | 0 => .object "LessonHorses$Table"
  | 1 => .int
  | 2 => .int
  | 3 => .int
  | 4 => .int
  | _ => .int
abbrev wsX10 : List Cond := u_ws RX1 TX1 6
theorem nmX1 : ∀ a, a < 6 → ∀ b, b < 6 → a ≠ b → (TX1 a).2.1 ≠ (TX1 b).2.1 := by decide +kernel
theorem tyX1_ok : ∀ k, k < 6 → parseFieldDescriptor (TX1 k).2.2.1 = some (tyX1 k) := by decide +kernel
abbrev cX1_init : ByteArray := prog_3_method_1_code
def yX1_init : MethodName := ⟨RX1, "<init>", "()V"⟩
abbrev cX1_size : ByteArray := prog_3_method_2_code
def yX1_size : MethodName := ⟨RX1, "size", "()I"⟩
abbrev cX1_hoursAt : ByteArray := prog_3_method_3_code
def yX1_hoursAt : MethodName := ⟨RX1, "hoursAt", "(I)I"⟩
abbrev cX1_ringAt : ByteArray := prog_3_method_4_code
def yX1_ringAt : MethodName := ⟨RX1, "ringAt", "(I)I"⟩
abbrev cX1_riderAt : ByteArray := prog_3_method_5_code
def yX1_riderAt : MethodName := ⟨RX1, "riderAt", "(I)I"⟩
abbrev cX1_read : ByteArray := prog_3_method_6_code
def yX1_read : MethodName := ⟨RX1, "read", "(LLessonHorses$Text;)I"⟩
abbrev cX1_moveTo : ByteArray := prog_3_method_7_code
def yX1_moveTo : MethodName := ⟨RX1, "moveTo", "(I)V"⟩
abbrev cX1_addEntry : ByteArray := prog_3_method_8_code
def yX1_addEntry : MethodName := ⟨RX1, "addEntry", "()V"⟩
abbrev cX1_accepts : ByteArray := prog_3_method_9_code
def yX1_accepts : MethodName := ⟨RX1, "accepts", "(C)Z"⟩
abbrev cX1_acceptsDigit : ByteArray := prog_3_method_10_code
def yX1_acceptsDigit : MethodName := ⟨RX1, "acceptsDigit", "(I)Z"⟩
abbrev cX1_acceptsStart : ByteArray := prog_3_method_11_code
def yX1_acceptsStart : MethodName := ⟨RX1, "acceptsStart", "()Z"⟩
abbrev cX1_acceptsSignBehindNumber : ByteArray := prog_3_method_12_code
def yX1_acceptsSignBehindNumber : MethodName := ⟨RX1, "acceptsSignBehindNumber", "(C)Z"⟩
def RX2 : String := "LessonHorses$Stable"
def TX2 : u_T := fun k => match k with
  | 0 => ("LessonHorses$Stable", "time", "I", false)
  | 1 => ("LessonHorses$Stable", "settings", "LLessonHorses$Table;", true)
  | 2 => ("LessonHorses$Stable", "horses", "LLessonHorses$Table;", true)
  | 3 => ("LessonHorses$Stable", "riders", "LLessonHorses$Table;", true)
  | 4 => ("LessonHorses$Stable", "bookings", "LLessonHorses$Table;", true)
  | 5 => ("LessonHorses$Stable", "bookingCount", "I", false)
  | 6 => ("LessonHorses$Stable", "falls", "LLessonHorses$Table;", true)
  | _ => ("LessonHorses$Stable", "fallCount", "I", false)
def tyX2 : Nat → FieldType := fun k => match k with
  | 0 => .int
  | 1 => .object "LessonHorses$Table"
  | 2 => .object "LessonHorses$Table"
  | 3 => .object "LessonHorses$Table"
  | 4 => .object "LessonHorses$Table"
  | 5 => .int
  | 6 => .object "LessonHorses$Table"
  | _ => .int
abbrev wsX20 : List Cond := u_ws RX2 TX2 8
theorem nmX2 : ∀ a, a < 8 → ∀ b, b < 8 → a ≠ b → (TX2 a).2.1 ≠ (TX2 b).2.1 := by decide +kernel
theorem tyX2_ok : ∀ k, k < 8 → parseFieldDescriptor (TX2 k).2.2.1 = some (tyX2 k) := by decide +kernel
abbrev cX2_init : ByteArray := prog_4_method_1_code
def yX2_init : MethodName := ⟨RX2, "<init>", "()V"⟩
abbrev cX2_copyFrom : ByteArray := prog_4_method_2_code
def yX2_copyFrom : MethodName := ⟨RX2, "copyFrom", "(LLessonHorses$Stable;)V"⟩
abbrev cX2_time : ByteArray := prog_4_method_3_code
def yX2_time : MethodName := ⟨RX2, "time", "()I"⟩
abbrev cX2_setting : ByteArray := prog_4_method_4_code
def yX2_setting : MethodName := ⟨RX2, "setting", "(I)I"⟩
abbrev cX2_changeSetting : ByteArray := prog_4_method_5_code
def yX2_changeSetting : MethodName := ⟨RX2, "changeSetting", "(II)V"⟩
abbrev cX2_ofHorse : ByteArray := prog_4_method_6_code
def yX2_ofHorse : MethodName := ⟨RX2, "ofHorse", "(II)I"⟩
abbrev cX2_changeHorse : ByteArray := prog_4_method_7_code
def yX2_changeHorse : MethodName := ⟨RX2, "changeHorse", "(III)V"⟩
abbrev cX2_sumOfHorses : ByteArray := prog_4_method_8_code
def yX2_sumOfHorses : MethodName := ⟨RX2, "sumOfHorses", "(I)I"⟩
abbrev cX2_lameHorses : ByteArray := prog_4_method_9_code
def yX2_lameHorses : MethodName := ⟨RX2, "lameHorses", "()I"⟩
abbrev cX2_ofRider : ByteArray := prog_4_method_10_code
def yX2_ofRider : MethodName := ⟨RX2, "ofRider", "(II)I"⟩
abbrev cX2_changeRider : ByteArray := prog_4_method_11_code
def yX2_changeRider : MethodName := ⟨RX2, "changeRider", "(III)V"⟩
abbrev cX2_sumOfRiders : ByteArray := prog_4_method_12_code
def yX2_sumOfRiders : MethodName := ⟨RX2, "sumOfRiders", "(I)I"⟩
abbrev cX2_abilityOf : ByteArray := prog_4_method_13_code
def yX2_abilityOf : MethodName := ⟨RX2, "abilityOf", "(I)I"⟩
abbrev cX2_bookingsWaiting : ByteArray := prog_4_method_14_code
def yX2_bookingsWaiting : MethodName := ⟨RX2, "bookingsWaiting", "()I"⟩
abbrev cX2_ringOfBooking : ByteArray := prog_4_method_15_code
def yX2_ringOfBooking : MethodName := ⟨RX2, "ringOfBooking", "(I)I"⟩
abbrev cX2_isBooked : ByteArray := prog_4_method_16_code
def yX2_isBooked : MethodName := ⟨RX2, "isBooked", "(II)Z"⟩
abbrev cX2_isBooked_ : ByteArray := prog_4_method_17_code
def yX2_isBooked_ : MethodName := ⟨RX2, "isBooked", "(III)Z"⟩
abbrev cX2_findBooking : ByteArray := prog_4_method_18_code
def yX2_findBooking : MethodName := ⟨RX2, "findBooking", "(II)I"⟩
abbrev cX2_bookedFor : ByteArray := prog_4_method_19_code
def yX2_bookedFor : MethodName := ⟨RX2, "bookedFor", "(II)I"⟩
abbrev cX2_bookedInAllRings : ByteArray := prog_4_method_20_code
def yX2_bookedInAllRings : MethodName := ⟨RX2, "bookedInAllRings", "(I)I"⟩
abbrev cX2_setOfRiders : ByteArray := prog_4_method_21_code
def yX2_setOfRiders : MethodName := ⟨RX2, "setOfRiders", "(II)I"⟩
abbrev cX2_bookingsOf : ByteArray := prog_4_method_22_code
def yX2_bookingsOf : MethodName := ⟨RX2, "bookingsOf", "(I)I"⟩
abbrev cX2_bookingError : ByteArray := prog_4_method_23_code
def yX2_bookingError : MethodName := ⟨RX2, "bookingError", "(III)I"⟩
abbrev cX2_addBooking : ByteArray := prog_4_method_24_code
def yX2_addBooking : MethodName := ⟨RX2, "addBooking", "(III)V"⟩
abbrev cX2_removeBooking : ByteArray := prog_4_method_25_code
def yX2_removeBooking : MethodName := ⟨RX2, "removeBooking", "(I)V"⟩
abbrev cX2_isFarrierThere : ByteArray := prog_4_method_26_code
def yX2_isFarrierThere : MethodName := ⟨RX2, "isFarrierThere", "()Z"⟩
abbrev cX2_farriersHorse : ByteArray := prog_4_method_27_code
def yX2_farriersHorse : MethodName := ⟨RX2, "farriersHorse", "()I"⟩
abbrev cX2_hindrance : ByteArray := prog_4_method_28_code
def yX2_hindrance : MethodName := ⟨RX2, "hindrance", "(III)I"⟩
abbrev cX2_bestHorse : ByteArray := prog_4_method_29_code
def yX2_bestHorse : MethodName := ⟨RX2, "bestHorse", "(III)I"⟩
abbrev cX2_isBetter : ByteArray := prog_4_method_30_code
def yX2_isBetter : MethodName := ⟨RX2, "isBetter", "(III)Z"⟩
abbrev cX2_passHour : ByteArray := prog_4_method_31_code
def yX2_passHour : MethodName := ⟨RX2, "passHour", "(Z)V"⟩
abbrev cX2_giveLessons : ByteArray := prog_4_method_32_code
def yX2_giveLessons : MethodName := ⟨RX2, "giveLessons", "(I)I"⟩
abbrev cX2_giveLesson : ByteArray := prog_4_method_33_code
def yX2_giveLesson : MethodName := ⟨RX2, "giveLesson", "(III)I"⟩
abbrev cX2_letFall : ByteArray := prog_4_method_34_code
def yX2_letFall : MethodName := ⟨RX2, "letFall", "(II)V"⟩
abbrev cX2_letLearn : ByteArray := prog_4_method_35_code
def yX2_letLearn : MethodName := ⟨RX2, "letLearn", "(I)V"⟩
abbrev cX2_strain : ByteArray := prog_4_method_36_code
def yX2_strain : MethodName := ⟨RX2, "strain", "(II)V"⟩
abbrev cX2_fallsSoFar : ByteArray := prog_4_method_37_code
def yX2_fallsSoFar : MethodName := ⟨RX2, "fallsSoFar", "()I"⟩
abbrev cX2_ofFall : ByteArray := prog_4_method_38_code
def yX2_ofFall : MethodName := ⟨RX2, "ofFall", "(II)I"⟩
def RX3 : String := "LessonHorses$Table"
def TX3 : u_T := fun k => match k with
  | 0 => ("LessonHorses$Table", "width", "I", true)
  | _ => ("LessonHorses$Table", "cells", "[I", true)
def tyX3 : Nat → FieldType := fun k => match k with
  | 0 => .int
  | _ => .array .int
abbrev wsX30 : List Cond := u_ws RX3 TX3 2
theorem nmX3 : ∀ a, a < 2 → ∀ b, b < 2 → a ≠ b → (TX3 a).2.1 ≠ (TX3 b).2.1 := by decide +kernel
theorem tyX3_ok : ∀ k, k < 2 → parseFieldDescriptor (TX3 k).2.2.1 = some (tyX3 k) := by decide +kernel
abbrev cX3_init : ByteArray := prog_5_method_1_code
def yX3_init : MethodName := ⟨RX3, "<init>", "(II)V"⟩
abbrev cX3_at : ByteArray := prog_5_method_2_code
def yX3_at : MethodName := ⟨RX3, "at", "(II)I"⟩
abbrev cX3_put : ByteArray := prog_5_method_3_code
def yX3_put : MethodName := ⟨RX3, "put", "(III)V"⟩
abbrev cX3_add : ByteArray := prog_5_method_4_code
def yX3_add : MethodName := ⟨RX3, "add", "(III)V"⟩
abbrev cX3_takeAway : ByteArray := prog_5_method_5_code
def yX3_takeAway : MethodName := ⟨RX3, "takeAway", "(III)V"⟩
abbrev cX3_addUpTo : ByteArray := prog_5_method_6_code
def yX3_addUpTo : MethodName := ⟨RX3, "addUpTo", "(III)V"⟩
abbrev cX3_sum : ByteArray := prog_5_method_7_code
def yX3_sum : MethodName := ⟨RX3, "sum", "(I)I"⟩
abbrev cX3_moveColumn : ByteArray := prog_5_method_8_code
def yX3_moveColumn : MethodName := ⟨RX3, "moveColumn", "(III)V"⟩
abbrev cX3_copyFrom : ByteArray := prog_5_method_9_code
def yX3_copyFrom : MethodName := ⟨RX3, "copyFrom", "(LLessonHorses$Table;)V"⟩
def RX4 : String := "LessonHorses$Text"
def TX4 : u_T := fun k => match k with
  | 0 => ("LessonHorses$Text", "characters", "[C", true)
  | _ => ("LessonHorses$Text", "length", "I", false)
def tyX4 : Nat → FieldType := fun k => match k with
  | 0 => .array .char
  | _ => .int
abbrev wsX40 : List Cond := u_ws RX4 TX4 2
theorem nmX4 : ∀ a, a < 2 → ∀ b, b < 2 → a ≠ b → (TX4 a).2.1 ≠ (TX4 b).2.1 := by decide +kernel
theorem tyX4_ok : ∀ k, k < 2 → parseFieldDescriptor (TX4 k).2.2.1 = some (tyX4 k) := by decide +kernel
abbrev cX4_init : ByteArray := prog_6_method_1_code
def yX4_init : MethodName := ⟨RX4, "<init>", "()V"⟩
abbrev cX4_length : ByteArray := prog_6_method_2_code
def yX4_length : MethodName := ⟨RX4, "length", "()I"⟩
abbrev cX4_characterAt : ByteArray := prog_6_method_3_code
def yX4_characterAt : MethodName := ⟨RX4, "characterAt", "(I)C"⟩
abbrev cX4_append : ByteArray := prog_6_method_4_code
def yX4_append : MethodName := ⟨RX4, "append", "(C)Z"⟩
abbrev cX4_empty : ByteArray := prog_6_method_5_code
def yX4_empty : MethodName := ⟨RX4, "empty", "()V"⟩
def RX5 : String := "LessonHorses"
def TX5 : u_T := fun k => match k with
  | 0 => ("LessonHorses", "now", "LLessonHorses$Stable;", true)
  | 1 => ("LessonHorses", "ahead", "LLessonHorses$Stable;", true)
  | 2 => ("LessonHorses", "snapshot", "LLessonHorses$Stable;", true)
  | 3 => ("LessonHorses", "hasSnapshot", "Z", false)
  | 4 => ("LessonHorses", "history", "LLessonHorses$History;", true)
  | 5 => ("LessonHorses", "text", "LLessonHorses$Text;", true)
  | _ => ("LessonHorses", "plan", "LLessonHorses$Plan;", true)
def tyX5 : Nat → FieldType := fun k => match k with
  | 0 => .object "LessonHorses$Stable"
  | 1 => .object "LessonHorses$Stable"
  | 2 => .object "LessonHorses$Stable"
  | 3 => .boolean
  | 4 => .object "LessonHorses$History"
  | 5 => .object "LessonHorses$Text"
  | _ => .object "LessonHorses$Plan"
abbrev wsX50 : List Cond := u_ws RX5 TX5 7
theorem nmX5 : ∀ a, a < 7 → ∀ b, b < 7 → a ≠ b → (TX5 a).2.1 ≠ (TX5 b).2.1 := by decide +kernel
theorem tyX5_ok : ∀ k, k < 7 → parseFieldDescriptor (TX5 k).2.2.1 = some (tyX5 k) := by decide +kernel
abbrev cX5_init : ByteArray := prog_1_method_1_code
def yX5_init : MethodName := ⟨RX5, "<init>", "()V"⟩
abbrev cX5_setHorse : ByteArray := prog_1_method_2_code
def yX5_setHorse : MethodName := ⟨RX5, "setHorse", "(III)I"⟩
abbrev cX5_setRider : ByteArray := prog_1_method_3_code
def yX5_setRider : MethodName := ⟨RX5, "setRider", "(III)I"⟩
abbrev cX5_set : ByteArray := prog_1_method_4_code
def yX5_set : MethodName := ⟨RX5, "set", "(II)I"⟩
abbrev cX5_book : ByteArray := prog_1_method_5_code
def yX5_book : MethodName := ⟨RX5, "book", "(III)I"⟩
abbrev cX5_cancel : ByteArray := prog_1_method_6_code
def yX5_cancel : MethodName := ⟨RX5, "cancel", "(II)I"⟩
abbrev cX5_pass : ByteArray := prog_1_method_7_code
def yX5_pass : MethodName := ⟨RX5, "pass", "(I)I"⟩
abbrev cX5_type : ByteArray := prog_1_method_8_code
def yX5_type : MethodName := ⟨RX5, "type", "(C)I"⟩
abbrev cX5_clearText : ByteArray := prog_1_method_9_code
def yX5_clearText : MethodName := ⟨RX5, "clearText", "()I"⟩
abbrev cX5_bookPlan : ByteArray := prog_1_method_10_code
def yX5_bookPlan : MethodName := ⟨RX5, "bookPlan", "()I"⟩
abbrev cX5_undo : ByteArray := prog_1_method_11_code
def yX5_undo : MethodName := ⟨RX5, "undo", "()I"⟩
abbrev cX5_keep : ByteArray := prog_1_method_12_code
def yX5_keep : MethodName := ⟨RX5, "keep", "()I"⟩
abbrev cX5_restore : ByteArray := prog_1_method_13_code
def yX5_restore : MethodName := ⟨RX5, "restore", "()I"⟩
abbrev cX5_horse : ByteArray := prog_1_method_14_code
def yX5_horse : MethodName := ⟨RX5, "horse", "(II)I"⟩
abbrev cX5_rider : ByteArray := prog_1_method_15_code
def yX5_rider : MethodName := ⟨RX5, "rider", "(II)I"⟩
abbrev cX5_lesson : ByteArray := prog_1_method_16_code
def yX5_lesson : MethodName := ⟨RX5, "lesson", "(III)I"⟩
abbrev cX5_fall : ByteArray := prog_1_method_17_code
def yX5_fall : MethodName := ⟨RX5, "fall", "(II)I"⟩
abbrev cX5_reason : ByteArray := prog_1_method_18_code
def yX5_reason : MethodName := ⟨RX5, "reason", "(II)I"⟩
abbrev cX5_best : ByteArray := prog_1_method_19_code
def yX5_best : MethodName := ⟨RX5, "best", "(I)I"⟩
abbrev cX5_takenIn : ByteArray := prog_1_method_20_code
def yX5_takenIn : MethodName := ⟨RX5, "takenIn", "(II)I"⟩
abbrev cX5_ifPassed : ByteArray := prog_1_method_21_code
def yX5_ifPassed : MethodName := ⟨RX5, "ifPassed", "(II)I"⟩
abbrev cX5_busiest : ByteArray := prog_1_method_22_code
def yX5_busiest : MethodName := ⟨RX5, "busiest", "()I"⟩
abbrev cX5_count : ByteArray := prog_1_method_23_code
def yX5_count : MethodName := ⟨RX5, "count", "(I)I"⟩
abbrev cX5_isOutside : ByteArray := prog_1_method_24_code
def yX5_isOutside : MethodName := ⟨RX5, "isOutside", "(III)Z"⟩
abbrev cX5_isNoHorse : ByteArray := prog_1_method_25_code
def yX5_isNoHorse : MethodName := ⟨RX5, "isNoHorse", "(I)Z"⟩
abbrev cX5_isNoRider : ByteArray := prog_1_method_26_code
def yX5_isNoRider : MethodName := ⟨RX5, "isNoRider", "(I)Z"⟩
abbrev cX5_isNoRing : ByteArray := prog_1_method_27_code
def yX5_isNoRing : MethodName := ⟨RX5, "isNoRing", "(I)Z"⟩
abbrev cX5_entry : ByteArray := prog_1_method_28_code
def yX5_entry : MethodName := ⟨RX5, "entry", "([II)I"⟩
def RX6 : String := "LessonHorsesModel"
def TX6 : u_T := fun k => match k with
  | 0 => ("LessonHorsesModel", "s", "[I", true)
  | 1 => ("LessonHorsesModel", "aside", "[I", true)
  | 2 => ("LessonHorsesModel", "history", "[I", true)
  | 3 => ("LessonHorsesModel", "known", "I", false)
  | 4 => ("LessonHorsesModel", "snapshot", "[I", true)
  | 5 => ("LessonHorsesModel", "isKept", "Z", false)
  | 6 => ("LessonHorsesModel", "text", "[I", true)
  | 7 => ("LessonHorsesModel", "length", "I", false)
  | 8 => ("LessonHorsesModel", "isTaken", "[I", true)
  | 9 => ("LessonHorsesModel", "wasLame", "[I", true)
  | 10 => ("LessonHorsesModel", "spot", "I", false)
  | 11 => ("LessonHorsesModel", "isWrong", "Z", false)
  | 12 => ("LessonHorsesModel", "riders", "I", false)
  | _ => ("LessonHorsesModel", "error", "I", false)
def tyX6 : Nat → FieldType := fun k => match k with
  | 0 => .array .int
  | 1 => .array .int
  | 2 => .array .int
  | 3 => .int
  | 4 => .array .int
  | 5 => .boolean
  | 6 => .array .int
  | 7 => .int
  | 8 => .array .int
  | 9 => .array .int
  | 10 => .int
  | 11 => .boolean
  | 12 => .int
  | _ => .int
abbrev wsX60 : List Cond := u_ws RX6 TX6 14
theorem nmX6 : ∀ a, a < 14 → ∀ b, b < 14 → a ≠ b → (TX6 a).2.1 ≠ (TX6 b).2.1 := by decide +kernel
theorem tyX6_ok : ∀ k, k < 14 → parseFieldDescriptor (TX6 k).2.2.1 = some (tyX6 k) := by decide +kernel
abbrev cX6_init : ByteArray := prog_8_method_1_code
def yX6_init : MethodName := ⟨RX6, "<init>", "()V"⟩
abbrev cX6_in : ByteArray := prog_8_method_2_code
def yX6_in : MethodName := ⟨RX6, "in", "(III)Z"⟩
abbrev cX6_isHorse : ByteArray := prog_8_method_3_code
def yX6_isHorse : MethodName := ⟨RX6, "isHorse", "(I)Z"⟩
abbrev cX6_isRider : ByteArray := prog_8_method_4_code
def yX6_isRider : MethodName := ⟨RX6, "isRider", "(I)Z"⟩
abbrev cX6_isRing : ByteArray := prog_8_method_5_code
def yX6_isRing : MethodName := ⟨RX6, "isRing", "(I)Z"⟩
abbrev cX6_isAhead : ByteArray := prog_8_method_6_code
def yX6_isAhead : MethodName := ⟨RX6, "isAhead", "(I)Z"⟩
abbrev cX6_of : ByteArray := prog_8_method_7_code
def yX6_of : MethodName := ⟨RX6, "of", "(II)I"⟩
abbrev cX6_ofRider : ByteArray := prog_8_method_8_code
def yX6_ofRider : MethodName := ⟨RX6, "ofRider", "(II)I"⟩
abbrev cX6_ofBooking : ByteArray := prog_8_method_9_code
def yX6_ofBooking : MethodName := ⟨RX6, "ofBooking", "(II)I"⟩
abbrev cX6_record : ByteArray := prog_8_method_10_code
def yX6_record : MethodName := ⟨RX6, "record", "()V"⟩
abbrev cX6_putAside : ByteArray := prog_8_method_11_code
def yX6_putAside : MethodName := ⟨RX6, "putAside", "()V"⟩
abbrev cX6_putBack : ByteArray := prog_8_method_12_code
def yX6_putBack : MethodName := ⟨RX6, "putBack", "()V"⟩
abbrev cX6_isFarrierThere : ByteArray := prog_8_method_13_code
def yX6_isFarrierThere : MethodName := ⟨RX6, "isFarrierThere", "()Z"⟩
abbrev cX6_shodHorse : ByteArray := prog_8_method_14_code
def yX6_shodHorse : MethodName := ⟨RX6, "shodHorse", "()I"⟩
abbrev cX6_hindrance : ByteArray := prog_8_method_15_code
def yX6_hindrance : MethodName := ⟨RX6, "hindrance", "(III)I"⟩
abbrev cX6_can : ByteArray := prog_8_method_16_code
def yX6_can : MethodName := ⟨RX6, "can", "(I)I"⟩
abbrev cX6_isBetter : ByteArray := prog_8_method_17_code
def yX6_isBetter : MethodName := ⟨RX6, "isBetter", "(III)Z"⟩
abbrev cX6_bestFor : ByteArray := prog_8_method_18_code
def yX6_bestFor : MethodName := ⟨RX6, "bestFor", "(II)I"⟩
abbrev cX6_frees : ByteArray := prog_8_method_19_code
def yX6_frees : MethodName := ⟨RX6, "frees", "()V"⟩
abbrev cX6_falls : ByteArray := prog_8_method_20_code
def yX6_falls : MethodName := ⟨RX6, "falls", "(II)V"⟩
abbrev cX6_learns : ByteArray := prog_8_method_21_code
def yX6_learns : MethodName := ⟨RX6, "learns", "(I)V"⟩
abbrev cX6_strains : ByteArray := prog_8_method_22_code
def yX6_strains : MethodName := ⟨RX6, "strains", "(I)V"⟩
abbrev cX6_rides : ByteArray := prog_8_method_23_code
def yX6_rides : MethodName := ⟨RX6, "rides", "(II)Z"⟩
abbrev cX6_gives : ByteArray := prog_8_method_24_code
def yX6_gives : MethodName := ⟨RX6, "gives", "(I)I"⟩
abbrev cX6_rests : ByteArray := prog_8_method_25_code
def yX6_rests : MethodName := ⟨RX6, "rests", "(II)V"⟩
abbrev cX6_hour : ByteArray := prog_8_method_26_code
def yX6_hour : MethodName := ⟨RX6, "hour", "(Z)I"⟩
abbrev cX6_setHorse : ByteArray := prog_8_method_27_code
def yX6_setHorse : MethodName := ⟨RX6, "setHorse", "(III)I"⟩
abbrev cX6_setRider : ByteArray := prog_8_method_28_code
def yX6_setRider : MethodName := ⟨RX6, "setRider", "(III)I"⟩
abbrev cX6_least : ByteArray := prog_8_method_29_code
def yX6_least : MethodName := ⟨RX6, "least", "(I)I"⟩
abbrev cX6_most : ByteArray := prog_8_method_30_code
def yX6_most : MethodName := ⟨RX6, "most", "(I)I"⟩
abbrev cX6_set : ByteArray := prog_8_method_31_code
def yX6_set : MethodName := ⟨RX6, "set", "(II)I"⟩
abbrev cX6_bookingOf : ByteArray := prog_8_method_32_code
def yX6_bookingOf : MethodName := ⟨RX6, "bookingOf", "(II)I"⟩
abbrev cX6_bookedFor : ByteArray := prog_8_method_33_code
def yX6_bookedFor : MethodName := ⟨RX6, "bookedFor", "(II)I"⟩
abbrev cX6_books : ByteArray := prog_8_method_34_code
def yX6_books : MethodName := ⟨RX6, "books", "(III)I"⟩
abbrev cX6_book : ByteArray := prog_8_method_35_code
def yX6_book : MethodName := ⟨RX6, "book", "(III)I"⟩
abbrev cX6_recordAside : ByteArray := prog_8_method_36_code
def yX6_recordAside : MethodName := ⟨RX6, "recordAside", "()V"⟩
abbrev cX6_cancel : ByteArray := prog_8_method_37_code
def yX6_cancel : MethodName := ⟨RX6, "cancel", "(II)I"⟩
abbrev cX6_pass : ByteArray := prog_8_method_38_code
def yX6_pass : MethodName := ⟨RX6, "pass", "(I)I"⟩
abbrev cX6_type : ByteArray := prog_8_method_39_code
def yX6_type : MethodName := ⟨RX6, "type", "(C)I"⟩
abbrev cX6_clearText : ByteArray := prog_8_method_40_code
def yX6_clearText : MethodName := ⟨RX6, "clearText", "()I"⟩
abbrev cX6_isNext : ByteArray := prog_8_method_41_code
def yX6_isNext : MethodName := ⟨RX6, "isNext", "(II)Z"⟩
abbrev cX6_needs : ByteArray := prog_8_method_42_code
def yX6_needs : MethodName := ⟨RX6, "needs", "(I)V"⟩
abbrev cX6_number : ByteArray := prog_8_method_43_code
def yX6_number : MethodName := ⟨RX6, "number", "(I)I"⟩
abbrev cX6_reads : ByteArray := prog_8_method_44_code
def yX6_reads : MethodName := ⟨RX6, "reads", "(ZII)V"⟩
abbrev cX6_readsBooking : ByteArray := prog_8_method_45_code
def yX6_readsBooking : MethodName := ⟨RX6, "readsBooking", "(Z)V"⟩
abbrev cX6_readsPlan : ByteArray := prog_8_method_46_code
def yX6_readsPlan : MethodName := ⟨RX6, "readsPlan", "(Z)I"⟩
abbrev cX6_bookPlan : ByteArray := prog_8_method_47_code
def yX6_bookPlan : MethodName := ⟨RX6, "bookPlan", "()I"⟩
abbrev cX6_undo : ByteArray := prog_8_method_48_code
def yX6_undo : MethodName := ⟨RX6, "undo", "()I"⟩
abbrev cX6_keep : ByteArray := prog_8_method_49_code
def yX6_keep : MethodName := ⟨RX6, "keep", "()I"⟩
abbrev cX6_restore : ByteArray := prog_8_method_50_code
def yX6_restore : MethodName := ⟨RX6, "restore", "()I"⟩
abbrev cX6_horse : ByteArray := prog_8_method_51_code
def yX6_horse : MethodName := ⟨RX6, "horse", "(II)I"⟩
abbrev cX6_bookingsOf : ByteArray := prog_8_method_52_code
def yX6_bookingsOf : MethodName := ⟨RX6, "bookingsOf", "(I)I"⟩
abbrev cX6_rider : ByteArray := prog_8_method_53_code
def yX6_rider : MethodName := ⟨RX6, "rider", "(II)I"⟩
abbrev cX6_ridersFor : ByteArray := prog_8_method_54_code
def yX6_ridersFor : MethodName := ⟨RX6, "ridersFor", "(II)I"⟩
abbrev cX6_lesson : ByteArray := prog_8_method_55_code
def yX6_lesson : MethodName := ⟨RX6, "lesson", "(III)I"⟩
abbrev cX6_fall : ByteArray := prog_8_method_56_code
def yX6_fall : MethodName := ⟨RX6, "fall", "(II)I"⟩
abbrev cX6_reason : ByteArray := prog_8_method_57_code
def yX6_reason : MethodName := ⟨RX6, "reason", "(II)I"⟩
abbrev cX6_best : ByteArray := prog_8_method_58_code
def yX6_best : MethodName := ⟨RX6, "best", "(I)I"⟩
abbrev cX6_takenIn : ByteArray := prog_8_method_59_code
def yX6_takenIn : MethodName := ⟨RX6, "takenIn", "(II)I"⟩
abbrev cX6_lameHorses : ByteArray := prog_8_method_60_code
def yX6_lameHorses : MethodName := ⟨RX6, "lameHorses", "()I"⟩
abbrev cX6_ifPassed : ByteArray := prog_8_method_61_code
def yX6_ifPassed : MethodName := ⟨RX6, "ifPassed", "(II)I"⟩
abbrev cX6_busiest : ByteArray := prog_8_method_62_code
def yX6_busiest : MethodName := ⟨RX6, "busiest", "()I"⟩
abbrev cX6_tiredness : ByteArray := prog_8_method_63_code
def yX6_tiredness : MethodName := ⟨RX6, "tiredness", "()I"⟩
abbrev cX6_count : ByteArray := prog_8_method_64_code
def yX6_count : MethodName := ⟨RX6, "count", "(I)I"⟩
def RJ9 : String := "java/lang/Math"
def TJ9 : u_T := fun k => match k with
  | _ => ("", "", "", false)
def tyJ9 : Nat → FieldType := fun k => match k with
  | _ => .int
abbrev wsJ90 : List Cond := u_ws RJ9 TJ9 0
theorem nmJ9 : ∀ a, a < 0 → ∀ b, b < 0 → a ≠ b → (TJ9 a).2.1 ≠ (TJ9 b).2.1 := by decide +kernel
theorem tyJ9_ok : ∀ k, k < 0 → parseFieldDescriptor (TJ9 k).2.2.1 = some (tyJ9 k) := by decide +kernel
abbrev cJ9_max_7cf53 : ByteArray := prog_9_method_65_code
def yJ9_max_7cf53 : MethodName := ⟨RJ9, "max", "(II)I"⟩
abbrev cJ9_min_7cf53 : ByteArray := prog_9_method_69_code
def yJ9_min_7cf53 : MethodName := ⟨RJ9, "min", "(II)I"⟩
def RJ10 : String := "java/lang/System"
def TJ10 : u_T := fun k => match k with
  | _ => ("", "", "", false)
def tyJ10 : Nat → FieldType := fun k => match k with
  | _ => .int
abbrev wsJ100 : List Cond := u_ws RJ10 TJ10 0
theorem nmJ10 : ∀ a, a < 0 → ∀ b, b < 0 → a ≠ b → (TJ10 a).2.1 ≠ (TJ10 b).2.1 := by decide +kernel
theorem tyJ10_ok : ∀ k, k < 0 → parseFieldDescriptor (TJ10 k).2.2.1 = some (tyJ10 k) := by decide +kernel
def RL : String := "LessonHorsesLaw"
abbrev cL_law : ByteArray := code
def yL_law : MethodName := ⟨RL, "law", "([I)Z"⟩
abbrev vwCl : List vw_C := [(RX0, TX0, 3), (RX1, TX1, 6), (RX2, TX2, 8), (RX3, TX3, 2), (RX4, TX4, 2), (RX5, TX5, 7), (RX6, TX6, 14)]
/-- every word that may ride in a contract -/
def wsG : List Cond := lw_tbl.filter goodWord
theorem wsG_in : ∀ w ∈ wsG, w ∈ lw_tbl := fun _ h => (List.mem_filter.mp h).1
theorem wsG_good : ∀ w ∈ wsG, (w.onTables && w.keeps) = true ∨ ∃ ty, w = .arrayClass ty := fun _ h => good_of_word (List.mem_filter.mp h).2
theorem gTb1 {w : Cond} (h : w ∈ tables_1_1) : w ∈ lw_tbl := List.mem_append_right _ (show w ∈ tables_1_1 ++ (tables_1_2 ++ (tables_1_3 ++ tables_1_4)) from List.mem_append_left _ h)
theorem gIn1 {w : Cond} (i : Nat) (h : tables_1_1[i]? = some w) (g : goodWord w = true) : w ∈ wsG := List.mem_filter.mpr ⟨gTb1 (List.mem_of_getElem? h), g⟩
theorem gTb2 {w : Cond} (h : w ∈ tables_1_2) : w ∈ lw_tbl := List.mem_append_right _ (show w ∈ tables_1_1 ++ (tables_1_2 ++ (tables_1_3 ++ tables_1_4)) from List.mem_append_right _ (List.mem_append_left _ h))
theorem gIn2 {w : Cond} (i : Nat) (h : tables_1_2[i]? = some w) (g : goodWord w = true) : w ∈ wsG := List.mem_filter.mpr ⟨gTb2 (List.mem_of_getElem? h), g⟩
theorem gTb3 {w : Cond} (h : w ∈ tables_1_3) : w ∈ lw_tbl := List.mem_append_right _ (show w ∈ tables_1_1 ++ (tables_1_2 ++ (tables_1_3 ++ tables_1_4)) from List.mem_append_right _ (List.mem_append_right _ (List.mem_append_left _ h)))
theorem gIn3 {w : Cond} (i : Nat) (h : tables_1_3[i]? = some w) (g : goodWord w = true) : w ∈ wsG := List.mem_filter.mpr ⟨gTb3 (List.mem_of_getElem? h), g⟩
theorem gTb4 {w : Cond} (h : w ∈ tables_1_4) : w ∈ lw_tbl := List.mem_append_right _ (show w ∈ tables_1_1 ++ (tables_1_2 ++ (tables_1_3 ++ tables_1_4)) from List.mem_append_right _ (List.mem_append_right _ (List.mem_append_right _ (h))))
theorem gIn4 {w : Cond} (i : Nat) (h : tables_1_4[i]? = some w) (g : goodWord w = true) : w ∈ wsG := List.mem_filter.mpr ⟨gTb4 (List.mem_of_getElem? h), g⟩
theorem in_L : (Cond.initialized "LessonHorsesLaw") ∈ wsG := gIn1 0 rfl rfl
theorem in_X5 : (Cond.initialized "LessonHorses") ∈ wsG := gIn1 1 rfl rfl
theorem in_X2 : (Cond.initialized "LessonHorses$Stable") ∈ wsG := gIn1 2 rfl rfl
theorem in_X3 : (Cond.initialized "LessonHorses$Table") ∈ wsG := gIn1 3 rfl rfl
theorem in_X0 : (Cond.initialized "LessonHorses$History") ∈ wsG := gIn1 4 rfl rfl
theorem in_X4 : (Cond.initialized "LessonHorses$Text") ∈ wsG := gIn1 5 rfl rfl
theorem in_X1 : (Cond.initialized "LessonHorses$Plan") ∈ wsG := gIn1 6 rfl rfl
theorem in_X6 : (Cond.initialized "LessonHorsesModel") ∈ wsG := gIn1 7 rfl rfl
theorem in_J10 : (Cond.initialized "java/lang/System") ∈ wsG := gIn1 8 rfl rfl
theorem in_J9 : (Cond.initialized "java/lang/Math") ∈ wsG := gIn1 9 rfl rfl
theorem cl_L_7 : (Cond.classLink "LessonHorsesLaw" 7 "LessonHorses") ∈ wsG := gIn1 10 rfl rfl
theorem is_X5 : (Cond.instantiable "LessonHorses" 7) ∈ wsG := gIn1 11 rfl rfl
theorem ml_L_9 : (Cond.methodLink "LessonHorsesLaw" 9 yX5_init) ∈ wsG := gIn1 12 rfl rfl
theorem im_X5_init : (Cond.instanceMethod yX5_init) ∈ wsG := gIn1 13 rfl rfl
theorem cd_X5_init : (Cond.code yX5_init prog_1_method_1_code 1 (Option.none)) ∈ wsG := gIn1 14 rfl rfl
theorem ml_X5_1 : (Cond.methodLink "LessonHorses" 1 ⟨"java/lang/Object", "<init>", "()V"⟩) ∈ wsG := gIn1 15 rfl rfl
theorem im_Obj_init : (Cond.instanceMethod ⟨"java/lang/Object", "<init>", "()V"⟩) ∈ wsG := gIn1 16 rfl rfl
theorem cd_Obj_init : (Cond.code ⟨"java/lang/Object", "<init>", "()V"⟩ object_method_1_code 1 (Option.none)) ∈ wsG := gIn1 17 rfl rfl
theorem cl_X5_7 : (Cond.classLink "LessonHorses" 7 "LessonHorses$Stable") ∈ wsG := gIn1 18 rfl rfl
theorem is_X2 : (Cond.instantiable "LessonHorses$Stable" 8) ∈ wsG := gIn1 19 rfl rfl
theorem ml_X5_9 : (Cond.methodLink "LessonHorses" 9 yX2_init) ∈ wsG := gIn1 20 rfl rfl
theorem im_X2_init : (Cond.instanceMethod yX2_init) ∈ wsG := gIn1 21 rfl rfl
theorem cd_X2_init : (Cond.code yX2_init prog_4_method_1_code 2 (Option.none)) ∈ wsG := gIn1 22 rfl rfl
theorem ml_X2_3 : (Cond.methodLink "LessonHorses$Stable" 3 ⟨"java/lang/Object", "<init>", "()V"⟩) ∈ wsG := gIn1 23 rfl rfl
theorem cl_X2_9 : (Cond.classLink "LessonHorses$Stable" 9 "LessonHorses$Table") ∈ wsG := gIn1 24 rfl rfl
theorem is_X3 : (Cond.instantiable "LessonHorses$Table" 2) ∈ wsG := gIn1 25 rfl rfl
theorem ml_X2_11 : (Cond.methodLink "LessonHorses$Stable" 11 yX3_init) ∈ wsG := gIn1 26 rfl rfl
theorem im_X3_init : (Cond.instanceMethod yX3_init) ∈ wsG := gIn1 27 rfl rfl
theorem cd_X3_init : (Cond.code yX3_init prog_5_method_1_code 4 (Option.none)) ∈ wsG := gIn1 28 rfl rfl
theorem ml_X3_1 : (Cond.methodLink "LessonHorses$Table" 1 ⟨"java/lang/Object", "<init>", "()V"⟩) ∈ wsG := gIn1 29 rfl rfl
theorem fl_X3_7 : (Cond.fieldLink "LessonHorses$Table" 7 "LessonHorses$Table" "width" "I") ∈ wsG := gIn1 30 rfl rfl
theorem fl_X3_13 : (Cond.fieldLink "LessonHorses$Table" 13 "LessonHorses$Table" "cells" "[I") ∈ wsG := gIn1 31 rfl rfl
theorem ly_X3_width : (Cond.laysFinal "LessonHorses$Table" "LessonHorses$Table" "width" "I") ∈ wsG := gIn1 32 rfl rfl
theorem ly_X3_cells : (Cond.laysFinal "LessonHorses$Table" "LessonHorses$Table" "cells" "[I") ∈ wsG := gIn1 34 rfl rfl
theorem ac_int : (Cond.arrayClass .int) ∈ wsG := gIn1 37 rfl rfl
theorem fn_X2_32 : (Cond.fieldLinkNest "LessonHorses$Stable" 32 "LessonHorses" "FIRST_OF_SETTING" "[I" "LessonHorses") ∈ lw_tbl := gTb1 (List.mem_of_getElem? (i := 38) rfl)
theorem ls_X5_FIRST_OF_SETTING : (Cond.laysStatic "LessonHorses" "FIRST_OF_SETTING" "[I") ∈ lw_tbl := gTb1 (List.mem_of_getElem? (i := 39) rfl)
theorem mn_X2_36 : (Cond.methodLinkNest "LessonHorses$Stable" 36 yX5_entry "LessonHorses") ∈ lw_tbl := gTb1 (List.mem_of_getElem? (i := 40) rfl)
theorem st_X5_entry : (Cond.static yX5_entry) ∈ wsG := gIn1 41 rfl rfl
theorem cd_X5_entry : (Cond.code yX5_entry prog_1_method_28_code 2 (Option.some FieldType.int)) ∈ wsG := gIn1 42 rfl rfl
theorem ml_X2_40 : (Cond.methodLink "LessonHorses$Stable" 40 yX3_put) ∈ wsG := gIn1 43 rfl rfl
theorem im_X3_put : (Cond.instanceMethod yX3_put) ∈ wsG := gIn1 44 rfl rfl
theorem sl_X3_put : (Cond.selects "LessonHorses$Table" yX3_put yX3_put) ∈ wsG := gIn1 45 rfl rfl
theorem cd_X3_put : (Cond.code yX3_put prog_5_method_3_code 5 (Option.none)) ∈ wsG := gIn1 46 rfl rfl
theorem fl_X2_44 : (Cond.fieldLink "LessonHorses$Stable" 44 "LessonHorses$Stable" "time" "I") ∈ wsG := gIn1 47 rfl rfl
theorem fl_X2_14 : (Cond.fieldLink "LessonHorses$Stable" 14 "LessonHorses$Stable" "settings" "LLessonHorses$Table;") ∈ wsG := gIn1 48 rfl rfl
theorem fl_X2_20 : (Cond.fieldLink "LessonHorses$Stable" 20 "LessonHorses$Stable" "horses" "LLessonHorses$Table;") ∈ wsG := gIn1 49 rfl rfl
theorem fl_X2_23 : (Cond.fieldLink "LessonHorses$Stable" 23 "LessonHorses$Stable" "riders" "LLessonHorses$Table;") ∈ wsG := gIn1 50 rfl rfl
theorem fl_X2_26 : (Cond.fieldLink "LessonHorses$Stable" 26 "LessonHorses$Stable" "bookings" "LLessonHorses$Table;") ∈ wsG := gIn1 51 rfl rfl
theorem fl_X2_52 : (Cond.fieldLink "LessonHorses$Stable" 52 "LessonHorses$Stable" "bookingCount" "I") ∈ wsG := gIn1 52 rfl rfl
theorem fl_X2_29 : (Cond.fieldLink "LessonHorses$Stable" 29 "LessonHorses$Stable" "falls" "LLessonHorses$Table;") ∈ wsG := gIn1 53 rfl rfl
theorem fl_X2_55 : (Cond.fieldLink "LessonHorses$Stable" 55 "LessonHorses$Stable" "fallCount" "I") ∈ wsG := gIn1 54 rfl rfl
theorem ly_X2_time : (Cond.lays "LessonHorses$Stable" "LessonHorses$Stable" "time" "I") ∈ wsG := gIn1 55 rfl rfl
theorem ly_X2_settings : (Cond.laysFinal "LessonHorses$Stable" "LessonHorses$Stable" "settings" "LLessonHorses$Table;") ∈ wsG := gIn1 57 rfl rfl
theorem ly_X2_horses : (Cond.laysFinal "LessonHorses$Stable" "LessonHorses$Stable" "horses" "LLessonHorses$Table;") ∈ wsG := gIn1 59 rfl rfl
theorem ly_X2_riders : (Cond.laysFinal "LessonHorses$Stable" "LessonHorses$Stable" "riders" "LLessonHorses$Table;") ∈ wsG := gIn1 61 rfl rfl
theorem ly_X2_bookings : (Cond.laysFinal "LessonHorses$Stable" "LessonHorses$Stable" "bookings" "LLessonHorses$Table;") ∈ wsG := gIn1 63 rfl rfl
theorem ly_X2_bookingCount : (Cond.lays "LessonHorses$Stable" "LessonHorses$Stable" "bookingCount" "I") ∈ wsG := gIn1 65 rfl rfl
theorem ly_X2_falls : (Cond.laysFinal "LessonHorses$Stable" "LessonHorses$Stable" "falls" "LLessonHorses$Table;") ∈ wsG := gIn1 67 rfl rfl
theorem ly_X2_fallCount : (Cond.lays "LessonHorses$Stable" "LessonHorses$Stable" "fallCount" "I") ∈ wsG := gIn1 69 rfl rfl
theorem cl_X5_22 : (Cond.classLink "LessonHorses" 22 "LessonHorses$History") ∈ wsG := gIn1 72 rfl rfl
theorem is_X0 : (Cond.instantiable "LessonHorses$History" 3) ∈ wsG := gIn1 73 rfl rfl
theorem ml_X5_24 : (Cond.methodLink "LessonHorses" 24 yX0_init) ∈ wsG := gIn1 74 rfl rfl
theorem im_X0_init : (Cond.instanceMethod yX0_init) ∈ wsG := gIn1 75 rfl rfl
theorem cd_X0_init : (Cond.code yX0_init prog_2_method_1_code 2 (Option.none)) ∈ wsG := gIn1 76 rfl rfl
theorem ml_X0_3 : (Cond.methodLink "LessonHorses$History" 3 ⟨"java/lang/Object", "<init>", "()V"⟩) ∈ wsG := gIn1 77 rfl rfl
theorem cl_X0_9 : (Cond.classLink "LessonHorses$History" 9 "LessonHorses$Stable") ∈ wsG := gIn1 78 rfl rfl
theorem ao_Stable : (Cond.arrayOver (FieldType.object "LessonHorses$Stable")) ∈ lw_tbl := gTb1 (List.mem_of_getElem? (i := 79) rfl)
theorem ml_X0_17 : (Cond.methodLink "LessonHorses$History" 17 yX2_init) ∈ wsG := gIn1 80 rfl rfl
theorem fl_X0_11 : (Cond.fieldLink "LessonHorses$History" 11 "LessonHorses$History" "states" "[LLessonHorses$Stable;") ∈ wsG := gIn1 81 rfl rfl
theorem fl_X0_22 : (Cond.fieldLink "LessonHorses$History" 22 "LessonHorses$History" "next" "I") ∈ wsG := gIn1 82 rfl rfl
theorem fl_X0_18 : (Cond.fieldLink "LessonHorses$History" 18 "LessonHorses$History" "size" "I") ∈ wsG := gIn1 83 rfl rfl
theorem ly_X0_states : (Cond.laysFinal "LessonHorses$History" "LessonHorses$History" "states" "[LLessonHorses$Stable;") ∈ wsG := gIn1 84 rfl rfl
theorem ly_X0_next : (Cond.lays "LessonHorses$History" "LessonHorses$History" "next" "I") ∈ wsG := gIn1 86 rfl rfl
theorem ly_X0_size : (Cond.lays "LessonHorses$History" "LessonHorses$History" "size" "I") ∈ wsG := gIn1 88 rfl rfl
theorem cl_X5_29 : (Cond.classLink "LessonHorses" 29 "LessonHorses$Text") ∈ wsG := gIn1 91 rfl rfl
theorem is_X4 : (Cond.instantiable "LessonHorses$Text" 2) ∈ wsG := gIn1 92 rfl rfl
theorem mn_X5_31 : (Cond.methodLinkNest "LessonHorses" 31 yX4_init "LessonHorses") ∈ lw_tbl := gTb1 (List.mem_of_getElem? (i := 93) rfl)
theorem im_X4_init : (Cond.instanceMethod yX4_init) ∈ wsG := gIn1 94 rfl rfl
theorem cd_X4_init : (Cond.code yX4_init prog_6_method_1_code 1 (Option.none)) ∈ wsG := gIn1 95 rfl rfl
theorem ml_X4_3 : (Cond.methodLink "LessonHorses$Text" 3 ⟨"java/lang/Object", "<init>", "()V"⟩) ∈ wsG := gIn1 96 rfl rfl
theorem fl_X4_9 : (Cond.fieldLink "LessonHorses$Text" 9 "LessonHorses$Text" "characters" "[C") ∈ wsG := gIn1 97 rfl rfl
theorem fl_X4_15 : (Cond.fieldLink "LessonHorses$Text" 15 "LessonHorses$Text" "length" "I") ∈ wsG := gIn1 98 rfl rfl
theorem ly_X4_characters : (Cond.laysFinal "LessonHorses$Text" "LessonHorses$Text" "characters" "[C") ∈ wsG := gIn1 99 rfl rfl
theorem ly_X4_length : (Cond.lays "LessonHorses$Text" "LessonHorses$Text" "length" "I") ∈ wsG := gIn1 101 rfl rfl
theorem ac_char : (Cond.arrayClass .char) ∈ wsG := gIn1 104 rfl rfl
theorem cl_X5_36 : (Cond.classLink "LessonHorses" 36 "LessonHorses$Plan") ∈ wsG := gIn1 105 rfl rfl
theorem is_X1 : (Cond.instantiable "LessonHorses$Plan" 6) ∈ wsG := gIn1 106 rfl rfl
theorem mn_X5_38 : (Cond.methodLinkNest "LessonHorses" 38 yX1_init "LessonHorses") ∈ lw_tbl := gTb1 (List.mem_of_getElem? (i := 107) rfl)
theorem im_X1_init : (Cond.instanceMethod yX1_init) ∈ wsG := gIn1 108 rfl rfl
theorem cd_X1_init : (Cond.code yX1_init prog_3_method_1_code 1 (Option.none)) ∈ wsG := gIn1 109 rfl rfl
theorem ml_X1_3 : (Cond.methodLink "LessonHorses$Plan" 3 ⟨"java/lang/Object", "<init>", "()V"⟩) ∈ wsG := gIn1 110 rfl rfl
theorem cl_X1_9 : (Cond.classLink "LessonHorses$Plan" 9 "LessonHorses$Table") ∈ wsG := gIn1 111 rfl rfl
theorem ml_X1_13 : (Cond.methodLink "LessonHorses$Plan" 13 yX3_init) ∈ wsG := gIn1 112 rfl rfl
theorem fl_X1_16 : (Cond.fieldLink "LessonHorses$Plan" 16 "LessonHorses$Plan" "entries" "LLessonHorses$Table;") ∈ wsG := gIn1 113 rfl rfl
theorem fl_X1_20 : (Cond.fieldLink "LessonHorses$Plan" 20 "LessonHorses$Plan" "size" "I") ∈ wsG := gIn1 114 rfl rfl
theorem fl_X1_46 : (Cond.fieldLink "LessonHorses$Plan" 46 "LessonHorses$Plan" "place" "I") ∈ wsG := gIn1 115 rfl rfl
theorem fl_X1_49 : (Cond.fieldLink "LessonHorses$Plan" 49 "LessonHorses$Plan" "number" "I") ∈ wsG := gIn1 116 rfl rfl
theorem fl_X1_55 : (Cond.fieldLink "LessonHorses$Plan" 55 "LessonHorses$Plan" "hours" "I") ∈ wsG := gIn1 117 rfl rfl
theorem fl_X1_62 : (Cond.fieldLink "LessonHorses$Plan" 62 "LessonHorses$Plan" "ring" "I") ∈ wsG := gIn1 118 rfl rfl
theorem ly_X1_entries : (Cond.laysFinal "LessonHorses$Plan" "LessonHorses$Plan" "entries" "LLessonHorses$Table;") ∈ wsG := gIn1 119 rfl rfl
theorem ly_X1_size : (Cond.lays "LessonHorses$Plan" "LessonHorses$Plan" "size" "I") ∈ wsG := gIn1 121 rfl rfl
theorem ly_X1_place : (Cond.lays "LessonHorses$Plan" "LessonHorses$Plan" "place" "I") ∈ wsG := gIn1 123 rfl rfl
theorem ly_X1_number : (Cond.lays "LessonHorses$Plan" "LessonHorses$Plan" "number" "I") ∈ wsG := gIn1 125 rfl rfl
theorem ly_X1_hours : (Cond.lays "LessonHorses$Plan" "LessonHorses$Plan" "hours" "I") ∈ wsG := gIn1 127 rfl rfl
theorem ly_X1_ring : (Cond.lays "LessonHorses$Plan" "LessonHorses$Plan" "ring" "I") ∈ wsG := gIn1 129 rfl rfl
theorem fl_X5_10 : (Cond.fieldLink "LessonHorses" 10 "LessonHorses" "now" "LLessonHorses$Stable;") ∈ wsG := gIn1 132 rfl rfl
theorem fl_X5_16 : (Cond.fieldLink "LessonHorses" 16 "LessonHorses" "ahead" "LLessonHorses$Stable;") ∈ wsG := gIn1 133 rfl rfl
theorem fl_X5_19 : (Cond.fieldLink "LessonHorses" 19 "LessonHorses" "snapshot" "LLessonHorses$Stable;") ∈ wsG := gIn1 134 rfl rfl
theorem fl_X5_158 : (Cond.fieldLink "LessonHorses" 158 "LessonHorses" "hasSnapshot" "Z") ∈ wsG := gIn1 135 rfl rfl
theorem fl_X5_25 : (Cond.fieldLink "LessonHorses" 25 "LessonHorses" "history" "LLessonHorses$History;") ∈ wsG := gIn1 136 rfl rfl
theorem fl_X5_32 : (Cond.fieldLink "LessonHorses" 32 "LessonHorses" "text" "LLessonHorses$Text;") ∈ wsG := gIn1 137 rfl rfl
theorem fl_X5_39 : (Cond.fieldLink "LessonHorses" 39 "LessonHorses" "plan" "LLessonHorses$Plan;") ∈ wsG := gIn1 138 rfl rfl
theorem ly_X5_now : (Cond.laysFinal "LessonHorses" "LessonHorses" "now" "LLessonHorses$Stable;") ∈ wsG := gIn1 139 rfl rfl
theorem ly_X5_ahead : (Cond.laysFinal "LessonHorses" "LessonHorses" "ahead" "LLessonHorses$Stable;") ∈ wsG := gIn1 141 rfl rfl
theorem ly_X5_snapshot : (Cond.laysFinal "LessonHorses" "LessonHorses" "snapshot" "LLessonHorses$Stable;") ∈ wsG := gIn1 143 rfl rfl
theorem ly_X5_hasSnapshot : (Cond.lays "LessonHorses" "LessonHorses" "hasSnapshot" "Z") ∈ wsG := gIn1 145 rfl rfl
theorem ly_X5_history : (Cond.laysFinal "LessonHorses" "LessonHorses" "history" "LLessonHorses$History;") ∈ wsG := gIn1 147 rfl rfl
theorem ly_X5_text : (Cond.laysFinal "LessonHorses" "LessonHorses" "text" "LLessonHorses$Text;") ∈ wsG := gIn1 149 rfl rfl
theorem ly_X5_plan : (Cond.laysFinal "LessonHorses" "LessonHorses" "plan" "LLessonHorses$Plan;") ∈ wsG := gIn1 151 rfl rfl
theorem ml_L_13 : (Cond.methodLink "LessonHorsesLaw" 13 yX5_setHorse) ∈ wsG := gIn1 154 rfl rfl
theorem im_X5_setHorse : (Cond.instanceMethod yX5_setHorse) ∈ wsG := gIn1 155 rfl rfl
theorem sl_X5_setHorse : (Cond.selects "LessonHorses" yX5_setHorse yX5_setHorse) ∈ wsG := gIn1 156 rfl rfl
theorem cd_X5_setHorse : (Cond.code yX5_setHorse prog_1_method_2_code 5 (Option.some FieldType.int)) ∈ wsG := gIn1 157 rfl rfl
theorem ml_X5_43 : (Cond.methodLink "LessonHorses" 43 yX5_isNoHorse) ∈ wsG := gIn1 158 rfl rfl
theorem st_X5_isNoHorse : (Cond.static yX5_isNoHorse) ∈ wsG := gIn1 159 rfl rfl
theorem cd_X5_isNoHorse : (Cond.code yX5_isNoHorse prog_1_method_25_code 1 (Option.some FieldType.boolean)) ∈ wsG := gIn1 160 rfl rfl
theorem ml_X5_47 : (Cond.methodLink "LessonHorses" 47 yX5_isOutside) ∈ wsG := gIn1 161 rfl rfl
theorem st_X5_isOutside : (Cond.static yX5_isOutside) ∈ wsG := gIn1 162 rfl rfl
theorem cd_X5_isOutside : (Cond.code yX5_isOutside prog_1_method_24_code 3 (Option.some FieldType.boolean)) ∈ wsG := gIn1 163 rfl rfl
theorem ml_X5_51 : (Cond.methodLink "LessonHorses" 51 yX2_ofHorse) ∈ wsG := gIn1 164 rfl rfl
theorem im_X2_ofHorse : (Cond.instanceMethod yX2_ofHorse) ∈ wsG := gIn1 165 rfl rfl
theorem sl_X2_ofHorse : (Cond.selects "LessonHorses$Stable" yX2_ofHorse yX2_ofHorse) ∈ wsG := gIn1 166 rfl rfl
theorem cd_X2_ofHorse : (Cond.code yX2_ofHorse prog_4_method_6_code 3 (Option.some FieldType.int)) ∈ wsG := gIn1 167 rfl rfl
theorem ml_X2_58 : (Cond.methodLink "LessonHorses$Stable" 58 yX3_at) ∈ wsG := gIn1 168 rfl rfl
theorem im_X3_at : (Cond.instanceMethod yX3_at) ∈ wsG := gIn1 169 rfl rfl
theorem sl_X3_at : (Cond.selects "LessonHorses$Table" yX3_at yX3_at) ∈ wsG := gIn1 170 rfl rfl
theorem cd_X3_at : (Cond.code yX3_at prog_5_method_2_code 4 (Option.some FieldType.int)) ∈ wsG := gIn1 171 rfl rfl
theorem ml_X5_55 : (Cond.methodLink "LessonHorses" 55 yX0_record) ∈ wsG := gIn1 172 rfl rfl
theorem im_X0_record : (Cond.instanceMethod yX0_record) ∈ wsG := gIn1 173 rfl rfl
theorem sl_X0_record : (Cond.selects "LessonHorses$History" yX0_record yX0_record) ∈ wsG := gIn1 174 rfl rfl
theorem cd_X0_record : (Cond.code yX0_record prog_2_method_4_code 3 (Option.none)) ∈ wsG := gIn1 175 rfl rfl
theorem ml_X0_25 : (Cond.methodLink "LessonHorses$History" 25 yX0_stateAt) ∈ wsG := gIn1 176 rfl rfl
theorem im_X0_stateAt : (Cond.instanceMethod yX0_stateAt) ∈ wsG := gIn1 178 rfl rfl
theorem cd_X0_stateAt : (Cond.code yX0_stateAt prog_2_method_3_code 2 (Option.some (FieldType.object "LessonHorses$Stable"))) ∈ wsG := gIn1 179 rfl rfl
theorem ml_X0_29 : (Cond.methodLink "LessonHorses$History" 29 yX2_copyFrom) ∈ wsG := gIn1 180 rfl rfl
theorem im_X2_copyFrom : (Cond.instanceMethod yX2_copyFrom) ∈ wsG := gIn1 181 rfl rfl
theorem sl_X2_copyFrom : (Cond.selects "LessonHorses$Stable" yX2_copyFrom yX2_copyFrom) ∈ wsG := gIn1 182 rfl rfl
theorem cd_X2_copyFrom : (Cond.code yX2_copyFrom prog_4_method_2_code 2 (Option.none)) ∈ wsG := gIn1 183 rfl rfl
theorem ml_X2_48 : (Cond.methodLink "LessonHorses$Stable" 48 yX3_copyFrom) ∈ wsG := gIn1 184 rfl rfl
theorem im_X3_copyFrom : (Cond.instanceMethod yX3_copyFrom) ∈ wsG := gIn1 185 rfl rfl
theorem sl_X3_copyFrom : (Cond.selects "LessonHorses$Table" yX3_copyFrom yX3_copyFrom) ∈ wsG := gIn1 186 rfl rfl
theorem cd_X3_copyFrom : (Cond.code yX3_copyFrom prog_5_method_9_code 2 (Option.none)) ∈ wsG := gIn1 187 rfl rfl
theorem ml_X3_33 : (Cond.methodLink "LessonHorses$Table" 33 ⟨"java/lang/System", "arraycopy", "(Ljava/lang/Object;ILjava/lang/Object;II)V"⟩) ∈ wsG := gIn1 188 rfl rfl
theorem st_System_arraycopy : (Cond.static ⟨"java/lang/System", "arraycopy", "(Ljava/lang/Object;ILjava/lang/Object;II)V"⟩) ∈ wsG := gIn1 189 rfl rfl
theorem na_System_arraycopy : (Cond.native ⟨"java/lang/System", "arraycopy", "(Ljava/lang/Object;ILjava/lang/Object;II)V"⟩) ∈ wsG := gIn1 190 rfl rfl
theorem ml_X0_33 : (Cond.methodLink "LessonHorses$History" 33 yJ9_min_7cf53) ∈ wsG := gIn1 191 rfl rfl
theorem st_J9_min_7cf53 : (Cond.static yJ9_min_7cf53) ∈ wsG := gIn1 192 rfl rfl
theorem cd_J9_min_7cf53 : (Cond.code yJ9_min_7cf53 prog_9_method_69_code 2 (Option.some FieldType.int)) ∈ wsG := gIn1 193 rfl rfl
theorem ml_X5_59 : (Cond.methodLink "LessonHorses" 59 yX2_changeHorse) ∈ wsG := gIn1 194 rfl rfl
theorem im_X2_changeHorse : (Cond.instanceMethod yX2_changeHorse) ∈ wsG := gIn1 195 rfl rfl
theorem sl_X2_changeHorse : (Cond.selects "LessonHorses$Stable" yX2_changeHorse yX2_changeHorse) ∈ wsG := gIn1 196 rfl rfl
theorem cd_X2_changeHorse : (Cond.code yX2_changeHorse prog_4_method_7_code 4 (Option.none)) ∈ wsG := gIn1 197 rfl rfl
theorem ml_L_18 : (Cond.methodLink "LessonHorsesLaw" 18 yX5_setRider) ∈ wsG := gIn1 198 rfl rfl
theorem im_X5_setRider : (Cond.instanceMethod yX5_setRider) ∈ wsG := gIn1 199 rfl rfl
theorem sl_X5_setRider : (Cond.selects "LessonHorses" yX5_setRider yX5_setRider) ∈ wsG := gIn1 200 rfl rfl
theorem cd_X5_setRider : (Cond.code yX5_setRider prog_1_method_3_code 5 (Option.some FieldType.int)) ∈ wsG := gIn1 201 rfl rfl
theorem ml_X5_63 : (Cond.methodLink "LessonHorses" 63 yX5_isNoRider) ∈ wsG := gIn1 202 rfl rfl
theorem st_X5_isNoRider : (Cond.static yX5_isNoRider) ∈ wsG := gIn1 203 rfl rfl
theorem cd_X5_isNoRider : (Cond.code yX5_isNoRider prog_1_method_26_code 1 (Option.some FieldType.boolean)) ∈ wsG := gIn1 204 rfl rfl
theorem ml_X5_66 : (Cond.methodLink "LessonHorses" 66 yX2_ofRider) ∈ wsG := gIn1 205 rfl rfl
theorem im_X2_ofRider : (Cond.instanceMethod yX2_ofRider) ∈ wsG := gIn1 206 rfl rfl
theorem sl_X2_ofRider : (Cond.selects "LessonHorses$Stable" yX2_ofRider yX2_ofRider) ∈ wsG := gIn1 207 rfl rfl
theorem cd_X2_ofRider : (Cond.code yX2_ofRider prog_4_method_10_code 3 (Option.some FieldType.int)) ∈ wsG := gIn1 208 rfl rfl
theorem ml_X2_66 : (Cond.methodLink "LessonHorses$Stable" 66 yX2_abilityOf) ∈ wsG := gIn1 209 rfl rfl
theorem im_X2_abilityOf : (Cond.instanceMethod yX2_abilityOf) ∈ wsG := gIn1 211 rfl rfl
theorem cd_X2_abilityOf : (Cond.code yX2_abilityOf prog_4_method_13_code 2 (Option.some FieldType.int)) ∈ wsG := gIn1 212 rfl rfl
theorem ml_X2_72 : (Cond.methodLink "LessonHorses$Stable" 72 yJ9_max_7cf53) ∈ wsG := gIn1 213 rfl rfl
theorem st_J9_max_7cf53 : (Cond.static yJ9_max_7cf53) ∈ wsG := gIn1 214 rfl rfl
theorem cd_J9_max_7cf53 : (Cond.code yJ9_max_7cf53 prog_9_method_65_code 2 (Option.some FieldType.int)) ∈ wsG := gIn1 215 rfl rfl
theorem ml_X2_69 : (Cond.methodLink "LessonHorses$Stable" 69 yX2_bookingsOf) ∈ wsG := gIn1 216 rfl rfl
theorem im_X2_bookingsOf : (Cond.instanceMethod yX2_bookingsOf) ∈ wsG := gIn1 218 rfl rfl
theorem cd_X2_bookingsOf : (Cond.code yX2_bookingsOf prog_4_method_22_code 4 (Option.some FieldType.int)) ∈ wsG := gIn1 219 rfl rfl
theorem ml_X5_69 : (Cond.methodLink "LessonHorses" 69 yX2_changeRider) ∈ wsG := gIn1 220 rfl rfl
theorem im_X2_changeRider : (Cond.instanceMethod yX2_changeRider) ∈ wsG := gIn1 221 rfl rfl
theorem sl_X2_changeRider : (Cond.selects "LessonHorses$Stable" yX2_changeRider yX2_changeRider) ∈ wsG := gIn1 222 rfl rfl
theorem cd_X2_changeRider : (Cond.code yX2_changeRider prog_4_method_11_code 4 (Option.none)) ∈ wsG := gIn1 223 rfl rfl
theorem ml_L_22 : (Cond.methodLink "LessonHorsesLaw" 22 yX5_set) ∈ wsG := gIn1 224 rfl rfl
theorem im_X5_set : (Cond.instanceMethod yX5_set) ∈ wsG := gIn1 225 rfl rfl
theorem sl_X5_set : (Cond.selects "LessonHorses" yX5_set yX5_set) ∈ wsG := gIn1 226 rfl rfl
theorem cd_X5_set : (Cond.code yX5_set prog_1_method_4_code 4 (Option.some FieldType.int)) ∈ wsG := gIn1 227 rfl rfl
theorem fl_X5_72 : (Cond.fieldLink "LessonHorses" 72 "LessonHorses" "LEAST_OF_SETTING" "[I") ∈ wsG := gIn1 228 rfl rfl
theorem ls_X5_LEAST_OF_SETTING : (Cond.laysStatic "LessonHorses" "LEAST_OF_SETTING" "[I") ∈ lw_tbl := gTb1 (List.mem_of_getElem? (i := 229) rfl)
theorem ml_X5_76 : (Cond.methodLink "LessonHorses" 76 yX5_entry) ∈ wsG := gIn1 230 rfl rfl
theorem fl_X5_80 : (Cond.fieldLink "LessonHorses" 80 "LessonHorses" "MOST_OF_SETTING" "[I") ∈ wsG := gIn1 231 rfl rfl
theorem ls_X5_MOST_OF_SETTING : (Cond.laysStatic "LessonHorses" "MOST_OF_SETTING" "[I") ∈ lw_tbl := gTb1 (List.mem_of_getElem? (i := 232) rfl)
theorem ml_X5_83 : (Cond.methodLink "LessonHorses" 83 yX2_setting) ∈ wsG := gIn1 233 rfl rfl
theorem im_X2_setting : (Cond.instanceMethod yX2_setting) ∈ wsG := gIn1 234 rfl rfl
theorem sl_X2_setting : (Cond.selects "LessonHorses$Stable" yX2_setting yX2_setting) ∈ wsG := gIn1 235 rfl rfl
theorem cd_X2_setting : (Cond.code yX2_setting prog_4_method_4_code 2 (Option.some FieldType.int)) ∈ wsG := gIn1 236 rfl rfl
theorem ml_X5_87 : (Cond.methodLink "LessonHorses" 87 yX2_changeSetting) ∈ wsG := gIn1 237 rfl rfl
theorem im_X2_changeSetting : (Cond.instanceMethod yX2_changeSetting) ∈ wsG := gIn1 238 rfl rfl
theorem sl_X2_changeSetting : (Cond.selects "LessonHorses$Stable" yX2_changeSetting yX2_changeSetting) ∈ wsG := gIn1 239 rfl rfl
theorem cd_X2_changeSetting : (Cond.code yX2_changeSetting prog_4_method_5_code 3 (Option.none)) ∈ wsG := gIn2 0 rfl rfl
theorem ml_L_27 : (Cond.methodLink "LessonHorsesLaw" 27 yX5_book) ∈ wsG := gIn2 1 rfl rfl
theorem im_X5_book : (Cond.instanceMethod yX5_book) ∈ wsG := gIn2 2 rfl rfl
theorem sl_X5_book : (Cond.selects "LessonHorses" yX5_book yX5_book) ∈ wsG := gIn2 3 rfl rfl
theorem cd_X5_book : (Cond.code yX5_book prog_1_method_5_code 5 (Option.some FieldType.int)) ∈ wsG := gIn2 4 rfl rfl
theorem ml_X5_91 : (Cond.methodLink "LessonHorses" 91 yX5_isNoRing) ∈ wsG := gIn2 5 rfl rfl
theorem st_X5_isNoRing : (Cond.static yX5_isNoRing) ∈ wsG := gIn2 6 rfl rfl
theorem cd_X5_isNoRing : (Cond.code yX5_isNoRing prog_1_method_27_code 1 (Option.some FieldType.boolean)) ∈ wsG := gIn2 7 rfl rfl
theorem ml_X5_94 : (Cond.methodLink "LessonHorses" 94 yX2_bookingError) ∈ wsG := gIn2 8 rfl rfl
theorem im_X2_bookingError : (Cond.instanceMethod yX2_bookingError) ∈ wsG := gIn2 9 rfl rfl
theorem sl_X2_bookingError : (Cond.selects "LessonHorses$Stable" yX2_bookingError yX2_bookingError) ∈ wsG := gIn2 10 rfl rfl
theorem cd_X2_bookingError : (Cond.code yX2_bookingError prog_4_method_23_code 5 (Option.some FieldType.int)) ∈ wsG := gIn2 11 rfl rfl
theorem ml_X2_84 : (Cond.methodLink "LessonHorses$Stable" 84 yX2_findBooking) ∈ wsG := gIn2 12 rfl rfl
theorem im_X2_findBooking : (Cond.instanceMethod yX2_findBooking) ∈ wsG := gIn2 13 rfl rfl
theorem sl_X2_findBooking : (Cond.selects "LessonHorses$Stable" yX2_findBooking yX2_findBooking) ∈ wsG := gIn2 14 rfl rfl
theorem cd_X2_findBooking : (Cond.code yX2_findBooking prog_4_method_18_code 4 (Option.some FieldType.int)) ∈ wsG := gIn2 15 rfl rfl
theorem ml_X2_77 : (Cond.methodLink "LessonHorses$Stable" 77 yX2_isBooked) ∈ wsG := gIn2 16 rfl rfl
theorem im_X2_isBooked : (Cond.instanceMethod yX2_isBooked) ∈ wsG := gIn2 18 rfl rfl
theorem cd_X2_isBooked : (Cond.code yX2_isBooked prog_4_method_16_code 3 (Option.some FieldType.boolean)) ∈ wsG := gIn2 19 rfl rfl
theorem ml_X2_87 : (Cond.methodLink "LessonHorses$Stable" 87 yX2_bookedFor) ∈ wsG := gIn2 20 rfl rfl
theorem im_X2_bookedFor : (Cond.instanceMethod yX2_bookedFor) ∈ wsG := gIn2 21 rfl rfl
theorem sl_X2_bookedFor : (Cond.selects "LessonHorses$Stable" yX2_bookedFor yX2_bookedFor) ∈ wsG := gIn2 22 rfl rfl
theorem cd_X2_bookedFor : (Cond.code yX2_bookedFor prog_4_method_19_code 5 (Option.some FieldType.int)) ∈ wsG := gIn2 23 rfl rfl
theorem ml_X2_81 : (Cond.methodLink "LessonHorses$Stable" 81 yX2_isBooked_) ∈ wsG := gIn2 24 rfl rfl
theorem im_X2_isBooked_ : (Cond.instanceMethod yX2_isBooked_) ∈ wsG := gIn2 26 rfl rfl
theorem cd_X2_isBooked_ : (Cond.code yX2_isBooked_ prog_4_method_17_code 4 (Option.some FieldType.boolean)) ∈ wsG := gIn2 27 rfl rfl
theorem fn_X2_90 : (Cond.fieldLinkNest "LessonHorses$Stable" 90 "LessonHorses" "ROOM_OF_RING" "[I" "LessonHorses") ∈ lw_tbl := gTb2 (List.mem_of_getElem? (i := 28) rfl)
theorem ls_X5_ROOM_OF_RING : (Cond.laysStatic "LessonHorses" "ROOM_OF_RING" "[I") ∈ lw_tbl := gTb2 (List.mem_of_getElem? (i := 29) rfl)
theorem ml_X5_98 : (Cond.methodLink "LessonHorses" 98 yX2_addBooking) ∈ wsG := gIn2 30 rfl rfl
theorem im_X2_addBooking : (Cond.instanceMethod yX2_addBooking) ∈ wsG := gIn2 31 rfl rfl
theorem sl_X2_addBooking : (Cond.selects "LessonHorses$Stable" yX2_addBooking yX2_addBooking) ∈ wsG := gIn2 32 rfl rfl
theorem cd_X2_addBooking : (Cond.code yX2_addBooking prog_4_method_24_code 4 (Option.none)) ∈ wsG := gIn2 33 rfl rfl
theorem ml_X2_93 : (Cond.methodLink "LessonHorses$Stable" 93 yJ9_min_7cf53) ∈ wsG := gIn2 34 rfl rfl
theorem ml_X5_101 : (Cond.methodLink "LessonHorses" 101 yX2_bookedFor) ∈ wsG := gIn2 35 rfl rfl
theorem ml_L_31 : (Cond.methodLink "LessonHorsesLaw" 31 yX5_cancel) ∈ wsG := gIn2 36 rfl rfl
theorem im_X5_cancel : (Cond.instanceMethod yX5_cancel) ∈ wsG := gIn2 37 rfl rfl
theorem sl_X5_cancel : (Cond.selects "LessonHorses" yX5_cancel yX5_cancel) ∈ wsG := gIn2 38 rfl rfl
theorem cd_X5_cancel : (Cond.code yX5_cancel prog_1_method_6_code 5 (Option.some FieldType.int)) ∈ wsG := gIn2 39 rfl rfl
theorem ml_X5_104 : (Cond.methodLink "LessonHorses" 104 yX2_findBooking) ∈ wsG := gIn2 40 rfl rfl
theorem ml_X5_107 : (Cond.methodLink "LessonHorses" 107 yX2_ringOfBooking) ∈ wsG := gIn2 41 rfl rfl
theorem im_X2_ringOfBooking : (Cond.instanceMethod yX2_ringOfBooking) ∈ wsG := gIn2 42 rfl rfl
theorem sl_X2_ringOfBooking : (Cond.selects "LessonHorses$Stable" yX2_ringOfBooking yX2_ringOfBooking) ∈ wsG := gIn2 43 rfl rfl
theorem cd_X2_ringOfBooking : (Cond.code yX2_ringOfBooking prog_4_method_15_code 2 (Option.some FieldType.int)) ∈ wsG := gIn2 44 rfl rfl
theorem ml_X5_110 : (Cond.methodLink "LessonHorses" 110 yX2_removeBooking) ∈ wsG := gIn2 45 rfl rfl
theorem im_X2_removeBooking : (Cond.instanceMethod yX2_removeBooking) ∈ wsG := gIn2 46 rfl rfl
theorem sl_X2_removeBooking : (Cond.selects "LessonHorses$Stable" yX2_removeBooking yX2_removeBooking) ∈ wsG := gIn2 47 rfl rfl
theorem cd_X2_removeBooking : (Cond.code yX2_removeBooking prog_4_method_25_code 3 (Option.none)) ∈ wsG := gIn2 48 rfl rfl
theorem ml_X2_96 : (Cond.methodLink "LessonHorses$Stable" 96 yX3_moveColumn) ∈ wsG := gIn2 49 rfl rfl
theorem im_X3_moveColumn : (Cond.instanceMethod yX3_moveColumn) ∈ wsG := gIn2 50 rfl rfl
theorem sl_X3_moveColumn : (Cond.selects "LessonHorses$Table" yX3_moveColumn yX3_moveColumn) ∈ wsG := gIn2 51 rfl rfl
theorem cd_X3_moveColumn : (Cond.code yX3_moveColumn prog_5_method_8_code 5 (Option.none)) ∈ wsG := gIn2 52 rfl rfl
theorem ml_X3_17 : (Cond.methodLink "LessonHorses$Table" 17 yX3_at) ∈ wsG := gIn2 53 rfl rfl
theorem ml_X3_21 : (Cond.methodLink "LessonHorses$Table" 21 yX3_put) ∈ wsG := gIn2 54 rfl rfl
theorem ml_L_35 : (Cond.methodLink "LessonHorsesLaw" 35 yX5_pass) ∈ wsG := gIn2 55 rfl rfl
theorem im_X5_pass : (Cond.instanceMethod yX5_pass) ∈ wsG := gIn2 56 rfl rfl
theorem sl_X5_pass : (Cond.selects "LessonHorses" yX5_pass yX5_pass) ∈ wsG := gIn2 57 rfl rfl
theorem cd_X5_pass : (Cond.code yX5_pass prog_1_method_7_code 4 (Option.some FieldType.int)) ∈ wsG := gIn2 58 rfl rfl
theorem ml_X5_114 : (Cond.methodLink "LessonHorses" 114 yX2_time) ∈ wsG := gIn2 59 rfl rfl
theorem im_X2_time : (Cond.instanceMethod yX2_time) ∈ wsG := gIn2 60 rfl rfl
theorem sl_X2_time : (Cond.selects "LessonHorses$Stable" yX2_time yX2_time) ∈ wsG := gIn2 61 rfl rfl
theorem cd_X2_time : (Cond.code yX2_time prog_4_method_3_code 1 (Option.some FieldType.int)) ∈ wsG := gIn2 62 rfl rfl
theorem ml_X5_118 : (Cond.methodLink "LessonHorses" 118 yX2_sumOfHorses) ∈ wsG := gIn2 63 rfl rfl
theorem im_X2_sumOfHorses : (Cond.instanceMethod yX2_sumOfHorses) ∈ wsG := gIn2 64 rfl rfl
theorem sl_X2_sumOfHorses : (Cond.selects "LessonHorses$Stable" yX2_sumOfHorses yX2_sumOfHorses) ∈ wsG := gIn2 65 rfl rfl
theorem cd_X2_sumOfHorses : (Cond.code yX2_sumOfHorses prog_4_method_8_code 2 (Option.some FieldType.int)) ∈ wsG := gIn2 66 rfl rfl
theorem ml_X2_62 : (Cond.methodLink "LessonHorses$Stable" 62 yX3_sum) ∈ wsG := gIn2 67 rfl rfl
theorem im_X3_sum : (Cond.instanceMethod yX3_sum) ∈ wsG := gIn2 68 rfl rfl
theorem sl_X3_sum : (Cond.selects "LessonHorses$Table" yX3_sum yX3_sum) ∈ wsG := gIn2 69 rfl rfl
theorem cd_X3_sum : (Cond.code yX3_sum prog_5_method_7_code 4 (Option.some FieldType.int)) ∈ wsG := gIn2 70 rfl rfl
theorem ml_X5_121 : (Cond.methodLink "LessonHorses" 121 yX2_passHour) ∈ wsG := gIn2 71 rfl rfl
theorem im_X2_passHour : (Cond.instanceMethod yX2_passHour) ∈ wsG := gIn2 72 rfl rfl
theorem sl_X2_passHour : (Cond.selects "LessonHorses$Stable" yX2_passHour yX2_passHour) ∈ wsG := gIn2 73 rfl rfl
theorem cd_X2_passHour : (Cond.code yX2_passHour prog_4_method_31_code 5 (Option.none)) ∈ wsG := gIn2 74 rfl rfl
theorem ml_X2_110 : (Cond.methodLink "LessonHorses$Stable" 110 yX2_farriersHorse) ∈ wsG := gIn2 75 rfl rfl
theorem im_X2_farriersHorse : (Cond.instanceMethod yX2_farriersHorse) ∈ wsG := gIn2 76 rfl rfl
theorem sl_X2_farriersHorse : (Cond.selects "LessonHorses$Stable" yX2_farriersHorse yX2_farriersHorse) ∈ wsG := gIn2 77 rfl rfl
theorem cd_X2_farriersHorse : (Cond.code yX2_farriersHorse prog_4_method_27_code 5 (Option.some FieldType.int)) ∈ wsG := gIn2 78 rfl rfl
theorem ml_X2_99 : (Cond.methodLink "LessonHorses$Stable" 99 yX2_isFarrierThere) ∈ wsG := gIn2 79 rfl rfl
theorem im_X2_isFarrierThere : (Cond.instanceMethod yX2_isFarrierThere) ∈ wsG := gIn2 80 rfl rfl
theorem sl_X2_isFarrierThere : (Cond.selects "LessonHorses$Stable" yX2_isFarrierThere yX2_isFarrierThere) ∈ wsG := gIn2 81 rfl rfl
theorem cd_X2_isFarrierThere : (Cond.code yX2_isFarrierThere prog_4_method_26_code 2 (Option.some FieldType.boolean)) ∈ wsG := gIn2 82 rfl rfl
theorem ml_X2_114 : (Cond.methodLink "LessonHorses$Stable" 114 yX2_giveLessons) ∈ wsG := gIn2 83 rfl rfl
theorem im_X2_giveLessons : (Cond.instanceMethod yX2_giveLessons) ∈ wsG := gIn2 85 rfl rfl
theorem cd_X2_giveLessons : (Cond.code yX2_giveLessons prog_4_method_32_code 5 (Option.some FieldType.int)) ∈ wsG := gIn2 86 rfl rfl
theorem ml_X2_123 : (Cond.methodLink "LessonHorses$Stable" 123 yX2_giveLesson) ∈ wsG := gIn2 87 rfl rfl
theorem im_X2_giveLesson : (Cond.instanceMethod yX2_giveLesson) ∈ wsG := gIn2 89 rfl rfl
theorem cd_X2_giveLesson : (Cond.code yX2_giveLesson prog_4_method_33_code 5 (Option.some FieldType.int)) ∈ wsG := gIn2 90 rfl rfl
theorem ml_X2_126 : (Cond.methodLink "LessonHorses$Stable" 126 yX2_bestHorse) ∈ wsG := gIn2 91 rfl rfl
theorem im_X2_bestHorse : (Cond.instanceMethod yX2_bestHorse) ∈ wsG := gIn2 92 rfl rfl
theorem sl_X2_bestHorse : (Cond.selects "LessonHorses$Stable" yX2_bestHorse yX2_bestHorse) ∈ wsG := gIn2 93 rfl rfl
theorem cd_X2_bestHorse : (Cond.code yX2_bestHorse prog_4_method_29_code 7 (Option.some FieldType.int)) ∈ wsG := gIn2 94 rfl rfl
theorem ml_X2_103 : (Cond.methodLink "LessonHorses$Stable" 103 yX2_hindrance) ∈ wsG := gIn2 95 rfl rfl
theorem im_X2_hindrance : (Cond.instanceMethod yX2_hindrance) ∈ wsG := gIn2 96 rfl rfl
theorem sl_X2_hindrance : (Cond.selects "LessonHorses$Stable" yX2_hindrance yX2_hindrance) ∈ wsG := gIn2 97 rfl rfl
theorem cd_X2_hindrance : (Cond.code yX2_hindrance prog_4_method_28_code 4 (Option.some FieldType.int)) ∈ wsG := gIn2 98 rfl rfl
theorem ml_X2_107 : (Cond.methodLink "LessonHorses$Stable" 107 yX2_isBetter) ∈ wsG := gIn2 99 rfl rfl
theorem im_X2_isBetter : (Cond.instanceMethod yX2_isBetter) ∈ wsG := gIn2 101 rfl rfl
theorem cd_X2_isBetter : (Cond.code yX2_isBetter prog_4_method_30_code 8 (Option.some FieldType.boolean)) ∈ wsG := gIn2 102 rfl rfl
theorem ml_X2_117 : (Cond.methodLink "LessonHorses$Stable" 117 yX3_add) ∈ wsG := gIn2 103 rfl rfl
theorem im_X3_add : (Cond.instanceMethod yX3_add) ∈ wsG := gIn2 104 rfl rfl
theorem sl_X3_add : (Cond.selects "LessonHorses$Table" yX3_add yX3_add) ∈ wsG := gIn2 105 rfl rfl
theorem cd_X3_add : (Cond.code yX3_add prog_5_method_4_code 4 (Option.none)) ∈ wsG := gIn2 106 rfl rfl
theorem ml_X2_129 : (Cond.methodLink "LessonHorses$Stable" 129 yX2_letFall) ∈ wsG := gIn2 107 rfl rfl
theorem im_X2_letFall : (Cond.instanceMethod yX2_letFall) ∈ wsG := gIn2 109 rfl rfl
theorem cd_X2_letFall : (Cond.code yX2_letFall prog_4_method_34_code 4 (Option.none)) ∈ wsG := gIn2 110 rfl rfl
theorem ml_X2_139 : (Cond.methodLink "LessonHorses$Stable" 139 yX3_addUpTo) ∈ wsG := gIn2 111 rfl rfl
theorem im_X3_addUpTo : (Cond.instanceMethod yX3_addUpTo) ∈ wsG := gIn2 112 rfl rfl
theorem sl_X3_addUpTo : (Cond.selects "LessonHorses$Table" yX3_addUpTo yX3_addUpTo) ∈ wsG := gIn2 113 rfl rfl
theorem cd_X3_addUpTo : (Cond.code yX3_addUpTo prog_5_method_6_code 4 (Option.none)) ∈ wsG := gIn2 114 rfl rfl
theorem ml_X3_30 : (Cond.methodLink "LessonHorses$Table" 30 yJ9_min_7cf53) ∈ wsG := gIn2 115 rfl rfl
theorem ml_X2_132 : (Cond.methodLink "LessonHorses$Stable" 132 yX2_letLearn) ∈ wsG := gIn2 116 rfl rfl
theorem im_X2_letLearn : (Cond.instanceMethod yX2_letLearn) ∈ wsG := gIn2 118 rfl rfl
theorem cd_X2_letLearn : (Cond.code yX2_letLearn prog_4_method_35_code 2 (Option.none)) ∈ wsG := gIn2 119 rfl rfl
theorem ml_X2_120 : (Cond.methodLink "LessonHorses$Stable" 120 yX3_takeAway) ∈ wsG := gIn2 120 rfl rfl
theorem im_X3_takeAway : (Cond.instanceMethod yX3_takeAway) ∈ wsG := gIn2 121 rfl rfl
theorem sl_X3_takeAway : (Cond.selects "LessonHorses$Table" yX3_takeAway yX3_takeAway) ∈ wsG := gIn2 122 rfl rfl
theorem cd_X3_takeAway : (Cond.code yX3_takeAway prog_5_method_5_code 4 (Option.none)) ∈ wsG := gIn2 123 rfl rfl
theorem ml_X3_25 : (Cond.methodLink "LessonHorses$Table" 25 yJ9_max_7cf53) ∈ wsG := gIn2 124 rfl rfl
theorem ml_X2_136 : (Cond.methodLink "LessonHorses$Stable" 136 yX2_strain) ∈ wsG := gIn2 125 rfl rfl
theorem im_X2_strain : (Cond.instanceMethod yX2_strain) ∈ wsG := gIn2 127 rfl rfl
theorem cd_X2_strain : (Cond.code yX2_strain prog_4_method_36_code 3 (Option.none)) ∈ wsG := gIn2 128 rfl rfl
theorem ml_L_40 : (Cond.methodLink "LessonHorsesLaw" 40 yX5_type) ∈ wsG := gIn2 129 rfl rfl
theorem im_X5_type : (Cond.instanceMethod yX5_type) ∈ wsG := gIn2 130 rfl rfl
theorem sl_X5_type : (Cond.selects "LessonHorses" yX5_type yX5_type) ∈ wsG := gIn2 131 rfl rfl
theorem cd_X5_type : (Cond.code yX5_type prog_1_method_8_code 2 (Option.some FieldType.int)) ∈ wsG := gIn2 132 rfl rfl
theorem ml_X5_125 : (Cond.methodLink "LessonHorses" 125 yX4_append) ∈ wsG := gIn2 133 rfl rfl
theorem im_X4_append : (Cond.instanceMethod yX4_append) ∈ wsG := gIn2 134 rfl rfl
theorem sl_X4_append : (Cond.selects "LessonHorses$Text" yX4_append yX4_append) ∈ wsG := gIn2 135 rfl rfl
theorem cd_X4_append : (Cond.code yX4_append prog_6_method_4_code 2 (Option.some FieldType.boolean)) ∈ wsG := gIn2 136 rfl rfl
theorem ml_X5_129 : (Cond.methodLink "LessonHorses" 129 yX4_length) ∈ wsG := gIn2 137 rfl rfl
theorem im_X4_length : (Cond.instanceMethod yX4_length) ∈ wsG := gIn2 138 rfl rfl
theorem sl_X4_length : (Cond.selects "LessonHorses$Text" yX4_length yX4_length) ∈ wsG := gIn2 139 rfl rfl
theorem cd_X4_length : (Cond.code yX4_length prog_6_method_2_code 1 (Option.some FieldType.int)) ∈ wsG := gIn2 140 rfl rfl
theorem ml_L_45 : (Cond.methodLink "LessonHorsesLaw" 45 yX5_clearText) ∈ wsG := gIn2 141 rfl rfl
theorem im_X5_clearText : (Cond.instanceMethod yX5_clearText) ∈ wsG := gIn2 142 rfl rfl
theorem sl_X5_clearText : (Cond.selects "LessonHorses" yX5_clearText yX5_clearText) ∈ wsG := gIn2 143 rfl rfl
theorem cd_X5_clearText : (Cond.code yX5_clearText prog_1_method_9_code 2 (Option.some FieldType.int)) ∈ wsG := gIn2 144 rfl rfl
theorem ml_X5_132 : (Cond.methodLink "LessonHorses" 132 yX4_empty) ∈ wsG := gIn2 145 rfl rfl
theorem im_X4_empty : (Cond.instanceMethod yX4_empty) ∈ wsG := gIn2 146 rfl rfl
theorem sl_X4_empty : (Cond.selects "LessonHorses$Text" yX4_empty yX4_empty) ∈ wsG := gIn2 147 rfl rfl
theorem cd_X4_empty : (Cond.code yX4_empty prog_6_method_5_code 1 (Option.none)) ∈ wsG := gIn2 148 rfl rfl
theorem ml_L_50 : (Cond.methodLink "LessonHorsesLaw" 50 yX5_bookPlan) ∈ wsG := gIn2 149 rfl rfl
theorem im_X5_bookPlan : (Cond.instanceMethod yX5_bookPlan) ∈ wsG := gIn2 150 rfl rfl
theorem sl_X5_bookPlan : (Cond.selects "LessonHorses" yX5_bookPlan yX5_bookPlan) ∈ wsG := gIn2 151 rfl rfl
theorem cd_X5_bookPlan : (Cond.code yX5_bookPlan prog_1_method_10_code 7 (Option.some FieldType.int)) ∈ wsG := gIn2 152 rfl rfl
theorem ml_X5_135 : (Cond.methodLink "LessonHorses" 135 yX1_read) ∈ wsG := gIn2 153 rfl rfl
theorem im_X1_read : (Cond.instanceMethod yX1_read) ∈ wsG := gIn2 154 rfl rfl
theorem sl_X1_read : (Cond.selects "LessonHorses$Plan" yX1_read yX1_read) ∈ wsG := gIn2 155 rfl rfl
theorem cd_X1_read : (Cond.code yX1_read prog_3_method_6_code 3 (Option.some FieldType.int)) ∈ wsG := gIn2 156 rfl rfl
theorem ml_X1_28 : (Cond.methodLink "LessonHorses$Plan" 28 yX1_moveTo) ∈ wsG := gIn2 157 rfl rfl
theorem im_X1_moveTo : (Cond.instanceMethod yX1_moveTo) ∈ wsG := gIn2 159 rfl rfl
theorem cd_X1_moveTo : (Cond.code yX1_moveTo prog_3_method_7_code 2 (Option.none)) ∈ wsG := gIn2 160 rfl rfl
theorem ml_X1_32 : (Cond.methodLink "LessonHorses$Plan" 32 yX4_length) ∈ wsG := gIn2 161 rfl rfl
theorem ml_X1_38 : (Cond.methodLink "LessonHorses$Plan" 38 yX4_characterAt) ∈ wsG := gIn2 162 rfl rfl
theorem im_X4_characterAt : (Cond.instanceMethod yX4_characterAt) ∈ wsG := gIn2 163 rfl rfl
theorem sl_X4_characterAt : (Cond.selects "LessonHorses$Text" yX4_characterAt yX4_characterAt) ∈ wsG := gIn2 164 rfl rfl
theorem cd_X4_characterAt : (Cond.code yX4_characterAt prog_6_method_3_code 2 (Option.some FieldType.char)) ∈ wsG := gIn2 165 rfl rfl
theorem ml_X1_42 : (Cond.methodLink "LessonHorses$Plan" 42 yX1_accepts) ∈ wsG := gIn2 166 rfl rfl
theorem im_X1_accepts : (Cond.instanceMethod yX1_accepts) ∈ wsG := gIn2 168 rfl rfl
theorem cd_X1_accepts : (Cond.code yX1_accepts prog_3_method_9_code 2 (Option.some FieldType.boolean)) ∈ wsG := gIn2 169 rfl rfl
theorem ml_X1_70 : (Cond.methodLink "LessonHorses$Plan" 70 yX1_acceptsDigit) ∈ wsG := gIn2 170 rfl rfl
theorem im_X1_acceptsDigit : (Cond.instanceMethod yX1_acceptsDigit) ∈ wsG := gIn2 172 rfl rfl
theorem cd_X1_acceptsDigit : (Cond.code yX1_acceptsDigit prog_3_method_10_code 3 (Option.some FieldType.boolean)) ∈ wsG := gIn2 173 rfl rfl
theorem fl_X1_81 : (Cond.fieldLink "LessonHorses$Plan" 81 "LessonHorses$Plan" "MOST_AT" "[I") ∈ wsG := gIn2 174 rfl rfl
theorem ls_X1_MOST_AT : (Cond.laysStatic "LessonHorses$Plan" "MOST_AT" "[I") ∈ lw_tbl := gTb2 (List.mem_of_getElem? (i := 175) rfl)
theorem mn_X1_85 : (Cond.methodLinkNest "LessonHorses$Plan" 85 yX5_entry "LessonHorses") ∈ lw_tbl := gTb2 (List.mem_of_getElem? (i := 176) rfl)
theorem ml_X1_74 : (Cond.methodLink "LessonHorses$Plan" 74 yX1_acceptsStart) ∈ wsG := gIn2 177 rfl rfl
theorem im_X1_acceptsStart : (Cond.instanceMethod yX1_acceptsStart) ∈ wsG := gIn2 179 rfl rfl
theorem cd_X1_acceptsStart : (Cond.code yX1_acceptsStart prog_3_method_11_code 1 (Option.some FieldType.boolean)) ∈ wsG := gIn2 180 rfl rfl
theorem ml_X1_78 : (Cond.methodLink "LessonHorses$Plan" 78 yX1_acceptsSignBehindNumber) ∈ wsG := gIn2 181 rfl rfl
theorem im_X1_acceptsSignBehindNumber : (Cond.instanceMethod yX1_acceptsSignBehindNumber) ∈ wsG := gIn2 183 rfl rfl
theorem cd_X1_acceptsSignBehindNumber : (Cond.code yX1_acceptsSignBehindNumber prog_3_method_12_code 2 (Option.some FieldType.boolean)) ∈ wsG := gIn2 184 rfl rfl
theorem ml_X1_52 : (Cond.methodLink "LessonHorses$Plan" 52 yX1_addEntry) ∈ wsG := gIn2 185 rfl rfl
theorem im_X1_addEntry : (Cond.instanceMethod yX1_addEntry) ∈ wsG := gIn2 187 rfl rfl
theorem cd_X1_addEntry : (Cond.code yX1_addEntry prog_3_method_8_code 1 (Option.none)) ∈ wsG := gIn2 188 rfl rfl
theorem ml_X1_58 : (Cond.methodLink "LessonHorses$Plan" 58 yX3_put) ∈ wsG := gIn2 189 rfl rfl
theorem ml_X1_65 : (Cond.methodLink "LessonHorses$Plan" 65 yJ9_min_7cf53) ∈ wsG := gIn2 190 rfl rfl
theorem ml_X5_139 : (Cond.methodLink "LessonHorses" 139 yX2_copyFrom) ∈ wsG := gIn2 191 rfl rfl
theorem ml_X5_142 : (Cond.methodLink "LessonHorses" 142 yX1_size) ∈ wsG := gIn2 192 rfl rfl
theorem im_X1_size : (Cond.instanceMethod yX1_size) ∈ wsG := gIn2 193 rfl rfl
theorem sl_X1_size : (Cond.selects "LessonHorses$Plan" yX1_size yX1_size) ∈ wsG := gIn2 194 rfl rfl
theorem cd_X1_size : (Cond.code yX1_size prog_3_method_2_code 1 (Option.some FieldType.int)) ∈ wsG := gIn2 195 rfl rfl
theorem ml_X5_145 : (Cond.methodLink "LessonHorses" 145 yX1_hoursAt) ∈ wsG := gIn2 196 rfl rfl
theorem im_X1_hoursAt : (Cond.instanceMethod yX1_hoursAt) ∈ wsG := gIn2 197 rfl rfl
theorem sl_X1_hoursAt : (Cond.selects "LessonHorses$Plan" yX1_hoursAt yX1_hoursAt) ∈ wsG := gIn2 198 rfl rfl
theorem cd_X1_hoursAt : (Cond.code yX1_hoursAt prog_3_method_3_code 2 (Option.some FieldType.int)) ∈ wsG := gIn2 199 rfl rfl
theorem ml_X1_24 : (Cond.methodLink "LessonHorses$Plan" 24 yX3_at) ∈ wsG := gIn2 200 rfl rfl
theorem ml_X5_148 : (Cond.methodLink "LessonHorses" 148 yX1_ringAt) ∈ wsG := gIn2 201 rfl rfl
theorem im_X1_ringAt : (Cond.instanceMethod yX1_ringAt) ∈ wsG := gIn2 202 rfl rfl
theorem sl_X1_ringAt : (Cond.selects "LessonHorses$Plan" yX1_ringAt yX1_ringAt) ∈ wsG := gIn2 203 rfl rfl
theorem cd_X1_ringAt : (Cond.code yX1_ringAt prog_3_method_4_code 2 (Option.some FieldType.int)) ∈ wsG := gIn2 204 rfl rfl
theorem ml_X5_151 : (Cond.methodLink "LessonHorses" 151 yX1_riderAt) ∈ wsG := gIn2 205 rfl rfl
theorem im_X1_riderAt : (Cond.instanceMethod yX1_riderAt) ∈ wsG := gIn2 206 rfl rfl
theorem sl_X1_riderAt : (Cond.selects "LessonHorses$Plan" yX1_riderAt yX1_riderAt) ∈ wsG := gIn2 207 rfl rfl
theorem cd_X1_riderAt : (Cond.code yX1_riderAt prog_3_method_5_code 2 (Option.some FieldType.int)) ∈ wsG := gIn2 208 rfl rfl
theorem ml_L_54 : (Cond.methodLink "LessonHorsesLaw" 54 yX5_undo) ∈ wsG := gIn2 209 rfl rfl
theorem im_X5_undo : (Cond.instanceMethod yX5_undo) ∈ wsG := gIn2 210 rfl rfl
theorem sl_X5_undo : (Cond.selects "LessonHorses" yX5_undo yX5_undo) ∈ wsG := gIn2 211 rfl rfl
theorem cd_X5_undo : (Cond.code yX5_undo prog_1_method_11_code 1 (Option.some FieldType.int)) ∈ wsG := gIn2 212 rfl rfl
theorem ml_X5_154 : (Cond.methodLink "LessonHorses" 154 yX0_size) ∈ wsG := gIn2 213 rfl rfl
theorem im_X0_size : (Cond.instanceMethod yX0_size) ∈ wsG := gIn2 214 rfl rfl
theorem sl_X0_size : (Cond.selects "LessonHorses$History" yX0_size yX0_size) ∈ wsG := gIn2 215 rfl rfl
theorem cd_X0_size : (Cond.code yX0_size prog_2_method_2_code 1 (Option.some FieldType.int)) ∈ wsG := gIn2 216 rfl rfl
theorem ml_X5_155 : (Cond.methodLink "LessonHorses" 155 yX0_takeBack) ∈ wsG := gIn2 217 rfl rfl
theorem im_X0_takeBack : (Cond.instanceMethod yX0_takeBack) ∈ wsG := gIn2 218 rfl rfl
theorem sl_X0_takeBack : (Cond.selects "LessonHorses$History" yX0_takeBack yX0_takeBack) ∈ wsG := gIn2 219 rfl rfl
theorem cd_X0_takeBack : (Cond.code yX0_takeBack prog_2_method_5_code 3 (Option.none)) ∈ wsG := gIn2 220 rfl rfl
theorem ml_X0_39 : (Cond.methodLink "LessonHorses$History" 39 yJ9_max_7cf53) ∈ wsG := gIn2 221 rfl rfl
theorem ml_L_58 : (Cond.methodLink "LessonHorsesLaw" 58 yX5_keep) ∈ wsG := gIn2 222 rfl rfl
theorem im_X5_keep : (Cond.instanceMethod yX5_keep) ∈ wsG := gIn2 223 rfl rfl
theorem sl_X5_keep : (Cond.selects "LessonHorses" yX5_keep yX5_keep) ∈ wsG := gIn2 224 rfl rfl
theorem cd_X5_keep : (Cond.code yX5_keep prog_1_method_12_code 1 (Option.some FieldType.int)) ∈ wsG := gIn2 225 rfl rfl
theorem ml_L_62 : (Cond.methodLink "LessonHorsesLaw" 62 yX5_restore) ∈ wsG := gIn2 226 rfl rfl
theorem im_X5_restore : (Cond.instanceMethod yX5_restore) ∈ wsG := gIn2 227 rfl rfl
theorem sl_X5_restore : (Cond.selects "LessonHorses" yX5_restore yX5_restore) ∈ wsG := gIn2 228 rfl rfl
theorem cd_X5_restore : (Cond.code yX5_restore prog_1_method_13_code 1 (Option.some FieldType.int)) ∈ wsG := gIn2 229 rfl rfl
theorem ml_L_66 : (Cond.methodLink "LessonHorsesLaw" 66 yX5_horse) ∈ wsG := gIn2 230 rfl rfl
theorem im_X5_horse : (Cond.instanceMethod yX5_horse) ∈ wsG := gIn2 231 rfl rfl
theorem sl_X5_horse : (Cond.selects "LessonHorses" yX5_horse yX5_horse) ∈ wsG := gIn2 232 rfl rfl
theorem cd_X5_horse : (Cond.code yX5_horse prog_1_method_14_code 3 (Option.some FieldType.int)) ∈ wsG := gIn2 233 rfl rfl
theorem ml_L_70 : (Cond.methodLink "LessonHorsesLaw" 70 yX5_rider) ∈ wsG := gIn2 234 rfl rfl
theorem im_X5_rider : (Cond.instanceMethod yX5_rider) ∈ wsG := gIn2 235 rfl rfl
theorem sl_X5_rider : (Cond.selects "LessonHorses" yX5_rider yX5_rider) ∈ wsG := gIn2 236 rfl rfl
theorem cd_X5_rider : (Cond.code yX5_rider prog_1_method_15_code 3 (Option.some FieldType.int)) ∈ wsG := gIn2 237 rfl rfl
theorem ml_L_74 : (Cond.methodLink "LessonHorsesLaw" 74 yX5_lesson) ∈ wsG := gIn2 238 rfl rfl
theorem im_X5_lesson : (Cond.instanceMethod yX5_lesson) ∈ wsG := gIn2 239 rfl rfl
theorem sl_X5_lesson : (Cond.selects "LessonHorses" yX5_lesson yX5_lesson) ∈ wsG := gIn3 0 rfl rfl
theorem cd_X5_lesson : (Cond.code yX5_lesson prog_1_method_16_code 5 (Option.some FieldType.int)) ∈ wsG := gIn3 1 rfl rfl
theorem ml_X5_162 : (Cond.methodLink "LessonHorses" 162 yX2_setOfRiders) ∈ wsG := gIn3 2 rfl rfl
theorem im_X2_setOfRiders : (Cond.instanceMethod yX2_setOfRiders) ∈ wsG := gIn3 3 rfl rfl
theorem sl_X2_setOfRiders : (Cond.selects "LessonHorses$Stable" yX2_setOfRiders yX2_setOfRiders) ∈ wsG := gIn3 4 rfl rfl
theorem cd_X2_setOfRiders : (Cond.code yX2_setOfRiders prog_4_method_21_code 5 (Option.some FieldType.int)) ∈ wsG := gIn3 5 rfl rfl
theorem fl_X5_165 : (Cond.fieldLink "LessonHorses" 165 "LessonHorses" "ROOM_OF_RING" "[I") ∈ wsG := gIn3 6 rfl rfl
theorem ml_L_78 : (Cond.methodLink "LessonHorsesLaw" 78 yX5_fall) ∈ wsG := gIn3 7 rfl rfl
theorem im_X5_fall : (Cond.instanceMethod yX5_fall) ∈ wsG := gIn3 8 rfl rfl
theorem sl_X5_fall : (Cond.selects "LessonHorses" yX5_fall yX5_fall) ∈ wsG := gIn3 9 rfl rfl
theorem cd_X5_fall : (Cond.code yX5_fall prog_1_method_17_code 3 (Option.some FieldType.int)) ∈ wsG := gIn3 10 rfl rfl
theorem ml_X5_168 : (Cond.methodLink "LessonHorses" 168 yX2_ofFall) ∈ wsG := gIn3 11 rfl rfl
theorem im_X2_ofFall : (Cond.instanceMethod yX2_ofFall) ∈ wsG := gIn3 12 rfl rfl
theorem sl_X2_ofFall : (Cond.selects "LessonHorses$Stable" yX2_ofFall yX2_ofFall) ∈ wsG := gIn3 13 rfl rfl
theorem cd_X2_ofFall : (Cond.code yX2_ofFall prog_4_method_38_code 3 (Option.some FieldType.int)) ∈ wsG := gIn3 14 rfl rfl
theorem ml_L_82 : (Cond.methodLink "LessonHorsesLaw" 82 yX5_reason) ∈ wsG := gIn3 15 rfl rfl
theorem im_X5_reason : (Cond.instanceMethod yX5_reason) ∈ wsG := gIn3 16 rfl rfl
theorem sl_X5_reason : (Cond.selects "LessonHorses" yX5_reason yX5_reason) ∈ wsG := gIn3 17 rfl rfl
theorem cd_X5_reason : (Cond.code yX5_reason prog_1_method_18_code 3 (Option.some FieldType.int)) ∈ wsG := gIn3 18 rfl rfl
theorem ml_X5_171 : (Cond.methodLink "LessonHorses" 171 yX2_farriersHorse) ∈ wsG := gIn3 19 rfl rfl
theorem ml_X5_174 : (Cond.methodLink "LessonHorses" 174 yX2_hindrance) ∈ wsG := gIn3 20 rfl rfl
theorem ml_L_86 : (Cond.methodLink "LessonHorsesLaw" 86 yX5_best) ∈ wsG := gIn3 21 rfl rfl
theorem im_X5_best : (Cond.instanceMethod yX5_best) ∈ wsG := gIn3 22 rfl rfl
theorem sl_X5_best : (Cond.selects "LessonHorses" yX5_best yX5_best) ∈ wsG := gIn3 23 rfl rfl
theorem cd_X5_best : (Cond.code yX5_best prog_1_method_19_code 2 (Option.some FieldType.int)) ∈ wsG := gIn3 24 rfl rfl
theorem ml_X5_177 : (Cond.methodLink "LessonHorses" 177 yX2_bestHorse) ∈ wsG := gIn3 25 rfl rfl
theorem ml_L_90 : (Cond.methodLink "LessonHorsesLaw" 90 yX5_takenIn) ∈ wsG := gIn3 26 rfl rfl
theorem im_X5_takenIn : (Cond.instanceMethod yX5_takenIn) ∈ wsG := gIn3 27 rfl rfl
theorem sl_X5_takenIn : (Cond.selects "LessonHorses" yX5_takenIn yX5_takenIn) ∈ wsG := gIn3 28 rfl rfl
theorem cd_X5_takenIn : (Cond.code yX5_takenIn prog_1_method_20_code 4 (Option.some FieldType.int)) ∈ wsG := gIn3 29 rfl rfl
theorem ml_L_94 : (Cond.methodLink "LessonHorsesLaw" 94 yX5_ifPassed) ∈ wsG := gIn3 30 rfl rfl
theorem im_X5_ifPassed : (Cond.instanceMethod yX5_ifPassed) ∈ wsG := gIn3 31 rfl rfl
theorem sl_X5_ifPassed : (Cond.selects "LessonHorses" yX5_ifPassed yX5_ifPassed) ∈ wsG := gIn3 32 rfl rfl
theorem cd_X5_ifPassed : (Cond.code yX5_ifPassed prog_1_method_21_code 4 (Option.some FieldType.int)) ∈ wsG := gIn3 33 rfl rfl
theorem ml_X5_180 : (Cond.methodLink "LessonHorses" 180 yX2_sumOfRiders) ∈ wsG := gIn3 34 rfl rfl
theorem im_X2_sumOfRiders : (Cond.instanceMethod yX2_sumOfRiders) ∈ wsG := gIn3 35 rfl rfl
theorem sl_X2_sumOfRiders : (Cond.selects "LessonHorses$Stable" yX2_sumOfRiders yX2_sumOfRiders) ∈ wsG := gIn3 36 rfl rfl
theorem cd_X2_sumOfRiders : (Cond.code yX2_sumOfRiders prog_4_method_12_code 2 (Option.some FieldType.int)) ∈ wsG := gIn3 37 rfl rfl
theorem ml_X5_183 : (Cond.methodLink "LessonHorses" 183 yX2_fallsSoFar) ∈ wsG := gIn3 38 rfl rfl
theorem im_X2_fallsSoFar : (Cond.instanceMethod yX2_fallsSoFar) ∈ wsG := gIn3 39 rfl rfl
theorem sl_X2_fallsSoFar : (Cond.selects "LessonHorses$Stable" yX2_fallsSoFar yX2_fallsSoFar) ∈ wsG := gIn3 40 rfl rfl
theorem cd_X2_fallsSoFar : (Cond.code yX2_fallsSoFar prog_4_method_37_code 1 (Option.some FieldType.int)) ∈ wsG := gIn3 41 rfl rfl
theorem ml_X5_186 : (Cond.methodLink "LessonHorses" 186 yX2_lameHorses) ∈ wsG := gIn3 42 rfl rfl
theorem im_X2_lameHorses : (Cond.instanceMethod yX2_lameHorses) ∈ wsG := gIn3 43 rfl rfl
theorem sl_X2_lameHorses : (Cond.selects "LessonHorses$Stable" yX2_lameHorses yX2_lameHorses) ∈ wsG := gIn3 44 rfl rfl
theorem cd_X2_lameHorses : (Cond.code yX2_lameHorses prog_4_method_9_code 3 (Option.some FieldType.int)) ∈ wsG := gIn3 45 rfl rfl
theorem ml_L_98 : (Cond.methodLink "LessonHorsesLaw" 98 yX5_busiest) ∈ wsG := gIn3 46 rfl rfl
theorem im_X5_busiest : (Cond.instanceMethod yX5_busiest) ∈ wsG := gIn3 47 rfl rfl
theorem sl_X5_busiest : (Cond.selects "LessonHorses" yX5_busiest yX5_busiest) ∈ wsG := gIn3 48 rfl rfl
theorem cd_X5_busiest : (Cond.code yX5_busiest prog_1_method_22_code 5 (Option.some FieldType.int)) ∈ wsG := gIn3 49 rfl rfl
theorem ml_X5_189 : (Cond.methodLink "LessonHorses" 189 yX2_bookedInAllRings) ∈ wsG := gIn3 50 rfl rfl
theorem im_X2_bookedInAllRings : (Cond.instanceMethod yX2_bookedInAllRings) ∈ wsG := gIn3 51 rfl rfl
theorem sl_X2_bookedInAllRings : (Cond.selects "LessonHorses$Stable" yX2_bookedInAllRings yX2_bookedInAllRings) ∈ wsG := gIn3 52 rfl rfl
theorem cd_X2_bookedInAllRings : (Cond.code yX2_bookedInAllRings prog_4_method_20_code 4 (Option.some FieldType.int)) ∈ wsG := gIn3 53 rfl rfl
theorem ml_L_102 : (Cond.methodLink "LessonHorsesLaw" 102 yX5_count) ∈ wsG := gIn3 54 rfl rfl
theorem im_X5_count : (Cond.instanceMethod yX5_count) ∈ wsG := gIn3 55 rfl rfl
theorem sl_X5_count : (Cond.selects "LessonHorses" yX5_count yX5_count) ∈ wsG := gIn3 56 rfl rfl
theorem cd_X5_count : (Cond.code yX5_count prog_1_method_23_code 2 (Option.some FieldType.int)) ∈ wsG := gIn3 57 rfl rfl
theorem ml_X5_192 : (Cond.methodLink "LessonHorses" 192 yX2_bookingsWaiting) ∈ wsG := gIn3 58 rfl rfl
theorem im_X2_bookingsWaiting : (Cond.instanceMethod yX2_bookingsWaiting) ∈ wsG := gIn3 59 rfl rfl
theorem sl_X2_bookingsWaiting : (Cond.selects "LessonHorses$Stable" yX2_bookingsWaiting yX2_bookingsWaiting) ∈ wsG := gIn3 60 rfl rfl
theorem cd_X2_bookingsWaiting : (Cond.code yX2_bookingsWaiting prog_4_method_14_code 1 (Option.some FieldType.int)) ∈ wsG := gIn3 61 rfl rfl
theorem ml_X5_195 : (Cond.methodLink "LessonHorses" 195 yX2_isFarrierThere) ∈ wsG := gIn3 62 rfl rfl
theorem cl_L_10 : (Cond.classLink "LessonHorsesLaw" 10 "LessonHorsesModel") ∈ wsG := gIn3 63 rfl rfl
theorem is_X6 : (Cond.instantiable "LessonHorsesModel" 14) ∈ wsG := gIn3 64 rfl rfl
theorem ml_L_12 : (Cond.methodLink "LessonHorsesLaw" 12 yX6_init) ∈ wsG := gIn3 65 rfl rfl
theorem im_X6_init : (Cond.instanceMethod yX6_init) ∈ wsG := gIn3 66 rfl rfl
theorem cd_X6_init : (Cond.code yX6_init prog_8_method_1_code 2 (Option.none)) ∈ wsG := gIn3 67 rfl rfl
theorem ml_X6_1 : (Cond.methodLink "LessonHorsesModel" 1 ⟨"java/lang/Object", "<init>", "()V"⟩) ∈ wsG := gIn3 68 rfl rfl
theorem ml_X6_31 : (Cond.methodLink "LessonHorsesModel" 31 yX6_of) ∈ wsG := gIn3 69 rfl rfl
theorem st_X6_of : (Cond.static yX6_of) ∈ wsG := gIn3 70 rfl rfl
theorem cd_X6_of : (Cond.code yX6_of prog_8_method_7_code 2 (Option.some FieldType.int)) ∈ wsG := gIn3 71 rfl rfl
theorem ml_X6_35 : (Cond.methodLink "LessonHorsesModel" 35 yX6_ofRider) ∈ wsG := gIn3 72 rfl rfl
theorem st_X6_ofRider : (Cond.static yX6_ofRider) ∈ wsG := gIn3 73 rfl rfl
theorem cd_X6_ofRider : (Cond.code yX6_ofRider prog_8_method_8_code 2 (Option.some FieldType.int)) ∈ wsG := gIn3 74 rfl rfl
theorem fl_X6_7 : (Cond.fieldLink "LessonHorsesModel" 7 "LessonHorsesModel" "s" "[I") ∈ wsG := gIn3 75 rfl rfl
theorem fl_X6_13 : (Cond.fieldLink "LessonHorsesModel" 13 "LessonHorsesModel" "aside" "[I") ∈ wsG := gIn3 76 rfl rfl
theorem fl_X6_16 : (Cond.fieldLink "LessonHorsesModel" 16 "LessonHorsesModel" "history" "[I") ∈ wsG := gIn3 77 rfl rfl
theorem fl_X6_42 : (Cond.fieldLink "LessonHorsesModel" 42 "LessonHorsesModel" "known" "I") ∈ wsG := gIn3 78 rfl rfl
theorem fl_X6_19 : (Cond.fieldLink "LessonHorsesModel" 19 "LessonHorsesModel" "snapshot" "[I") ∈ wsG := gIn3 79 rfl rfl
theorem fl_X6_175 : (Cond.fieldLink "LessonHorsesModel" 175 "LessonHorsesModel" "isKept" "Z") ∈ wsG := gIn3 80 rfl rfl
theorem fl_X6_22 : (Cond.fieldLink "LessonHorsesModel" 22 "LessonHorsesModel" "text" "[I") ∈ wsG := gIn3 81 rfl rfl
theorem fl_X6_136 : (Cond.fieldLink "LessonHorsesModel" 136 "LessonHorsesModel" "length" "I") ∈ wsG := gIn3 82 rfl rfl
theorem fl_X6_25 : (Cond.fieldLink "LessonHorsesModel" 25 "LessonHorsesModel" "isTaken" "[I") ∈ wsG := gIn3 83 rfl rfl
theorem fl_X6_28 : (Cond.fieldLink "LessonHorsesModel" 28 "LessonHorsesModel" "wasLame" "[I") ∈ wsG := gIn3 84 rfl rfl
theorem fl_X6_143 : (Cond.fieldLink "LessonHorsesModel" 143 "LessonHorsesModel" "spot" "I") ∈ wsG := gIn3 85 rfl rfl
theorem fl_X6_139 : (Cond.fieldLink "LessonHorsesModel" 139 "LessonHorsesModel" "isWrong" "Z") ∈ wsG := gIn3 86 rfl rfl
theorem fl_X6_152 : (Cond.fieldLink "LessonHorsesModel" 152 "LessonHorsesModel" "riders" "I") ∈ wsG := gIn3 87 rfl rfl
theorem fl_X6_155 : (Cond.fieldLink "LessonHorsesModel" 155 "LessonHorsesModel" "error" "I") ∈ wsG := gIn3 88 rfl rfl
theorem ly_X6_s : (Cond.laysFinal "LessonHorsesModel" "LessonHorsesModel" "s" "[I") ∈ wsG := gIn3 89 rfl rfl
theorem ly_X6_aside : (Cond.laysFinal "LessonHorsesModel" "LessonHorsesModel" "aside" "[I") ∈ wsG := gIn3 91 rfl rfl
theorem ly_X6_history : (Cond.laysFinal "LessonHorsesModel" "LessonHorsesModel" "history" "[I") ∈ wsG := gIn3 93 rfl rfl
theorem ly_X6_known : (Cond.lays "LessonHorsesModel" "LessonHorsesModel" "known" "I") ∈ wsG := gIn3 95 rfl rfl
theorem ly_X6_snapshot : (Cond.laysFinal "LessonHorsesModel" "LessonHorsesModel" "snapshot" "[I") ∈ wsG := gIn3 97 rfl rfl
theorem ly_X6_isKept : (Cond.lays "LessonHorsesModel" "LessonHorsesModel" "isKept" "Z") ∈ wsG := gIn3 99 rfl rfl
theorem ly_X6_text : (Cond.laysFinal "LessonHorsesModel" "LessonHorsesModel" "text" "[I") ∈ wsG := gIn3 101 rfl rfl
theorem ly_X6_length : (Cond.lays "LessonHorsesModel" "LessonHorsesModel" "length" "I") ∈ wsG := gIn3 103 rfl rfl
theorem ly_X6_isTaken : (Cond.laysFinal "LessonHorsesModel" "LessonHorsesModel" "isTaken" "[I") ∈ wsG := gIn3 105 rfl rfl
theorem ly_X6_wasLame : (Cond.laysFinal "LessonHorsesModel" "LessonHorsesModel" "wasLame" "[I") ∈ wsG := gIn3 107 rfl rfl
theorem ly_X6_spot : (Cond.lays "LessonHorsesModel" "LessonHorsesModel" "spot" "I") ∈ wsG := gIn3 109 rfl rfl
theorem ly_X6_isWrong : (Cond.lays "LessonHorsesModel" "LessonHorsesModel" "isWrong" "Z") ∈ wsG := gIn3 111 rfl rfl
theorem ly_X6_riders : (Cond.lays "LessonHorsesModel" "LessonHorsesModel" "riders" "I") ∈ wsG := gIn3 113 rfl rfl
theorem ly_X6_error : (Cond.lays "LessonHorsesModel" "LessonHorsesModel" "error" "I") ∈ wsG := gIn3 115 rfl rfl
theorem ml_L_17 : (Cond.methodLink "LessonHorsesLaw" 17 yX6_setHorse) ∈ wsG := gIn3 118 rfl rfl
theorem im_X6_setHorse : (Cond.instanceMethod yX6_setHorse) ∈ wsG := gIn3 119 rfl rfl
theorem sl_X6_setHorse : (Cond.selects "LessonHorsesModel" yX6_setHorse yX6_setHorse) ∈ wsG := gIn3 120 rfl rfl
theorem cd_X6_setHorse : (Cond.code yX6_setHorse prog_8_method_27_code 5 (Option.some FieldType.int)) ∈ wsG := gIn3 121 rfl rfl
theorem ml_X6_95 : (Cond.methodLink "LessonHorsesModel" 95 yX6_isHorse) ∈ wsG := gIn3 122 rfl rfl
theorem st_X6_isHorse : (Cond.static yX6_isHorse) ∈ wsG := gIn3 123 rfl rfl
theorem cd_X6_isHorse : (Cond.code yX6_isHorse prog_8_method_3_code 1 (Option.some FieldType.boolean)) ∈ wsG := gIn3 124 rfl rfl
theorem ml_X6_38 : (Cond.methodLink "LessonHorsesModel" 38 yX6_in) ∈ wsG := gIn3 125 rfl rfl
theorem st_X6_in : (Cond.static yX6_in) ∈ wsG := gIn3 126 rfl rfl
theorem cd_X6_in : (Cond.code yX6_in prog_8_method_2_code 3 (Option.some FieldType.boolean)) ∈ wsG := gIn3 127 rfl rfl
theorem ml_X6_99 : (Cond.methodLink "LessonHorsesModel" 99 yX6_record) ∈ wsG := gIn3 128 rfl rfl
theorem im_X6_record : (Cond.instanceMethod yX6_record) ∈ wsG := gIn3 130 rfl rfl
theorem cd_X6_record : (Cond.code yX6_record prog_8_method_10_code 2 (Option.none)) ∈ wsG := gIn3 131 rfl rfl
theorem ml_L_21 : (Cond.methodLink "LessonHorsesLaw" 21 yX6_setRider) ∈ wsG := gIn3 132 rfl rfl
theorem im_X6_setRider : (Cond.instanceMethod yX6_setRider) ∈ wsG := gIn3 133 rfl rfl
theorem sl_X6_setRider : (Cond.selects "LessonHorsesModel" yX6_setRider yX6_setRider) ∈ wsG := gIn3 134 rfl rfl
theorem cd_X6_setRider : (Cond.code yX6_setRider prog_8_method_28_code 5 (Option.some FieldType.int)) ∈ wsG := gIn3 135 rfl rfl
theorem ml_X6_102 : (Cond.methodLink "LessonHorsesModel" 102 yX6_isRider) ∈ wsG := gIn3 136 rfl rfl
theorem st_X6_isRider : (Cond.static yX6_isRider) ∈ wsG := gIn3 137 rfl rfl
theorem cd_X6_isRider : (Cond.code yX6_isRider prog_8_method_4_code 1 (Option.some FieldType.boolean)) ∈ wsG := gIn3 138 rfl rfl
theorem ml_L_26 : (Cond.methodLink "LessonHorsesLaw" 26 yX6_set) ∈ wsG := gIn3 139 rfl rfl
theorem im_X6_set : (Cond.instanceMethod yX6_set) ∈ wsG := gIn3 140 rfl rfl
theorem sl_X6_set : (Cond.selects "LessonHorsesModel" yX6_set yX6_set) ∈ wsG := gIn3 141 rfl rfl
theorem cd_X6_set : (Cond.code yX6_set prog_8_method_31_code 4 (Option.some FieldType.int)) ∈ wsG := gIn3 142 rfl rfl
theorem ml_X6_105 : (Cond.methodLink "LessonHorsesModel" 105 yX6_least) ∈ wsG := gIn3 143 rfl rfl
theorem st_X6_least : (Cond.static yX6_least) ∈ wsG := gIn3 144 rfl rfl
theorem cd_X6_least : (Cond.code yX6_least prog_8_method_29_code 1 (Option.some FieldType.int)) ∈ wsG := gIn3 145 rfl rfl
theorem ml_X6_108 : (Cond.methodLink "LessonHorsesModel" 108 yX6_most) ∈ wsG := gIn3 146 rfl rfl
theorem st_X6_most : (Cond.static yX6_most) ∈ wsG := gIn3 147 rfl rfl
theorem cd_X6_most : (Cond.code yX6_most prog_8_method_30_code 1 (Option.some FieldType.int)) ∈ wsG := gIn3 148 rfl rfl
theorem ml_L_30 : (Cond.methodLink "LessonHorsesLaw" 30 yX6_book) ∈ wsG := gIn3 149 rfl rfl
theorem im_X6_book : (Cond.instanceMethod yX6_book) ∈ wsG := gIn3 150 rfl rfl
theorem sl_X6_book : (Cond.selects "LessonHorsesModel" yX6_book yX6_book) ∈ wsG := gIn3 151 rfl rfl
theorem cd_X6_book : (Cond.code yX6_book prog_8_method_35_code 5 (Option.some FieldType.int)) ∈ wsG := gIn3 152 rfl rfl
theorem ml_X6_123 : (Cond.methodLink "LessonHorsesModel" 123 yX6_putAside) ∈ wsG := gIn3 153 rfl rfl
theorem im_X6_putAside : (Cond.instanceMethod yX6_putAside) ∈ wsG := gIn3 155 rfl rfl
theorem cd_X6_putAside : (Cond.code yX6_putAside prog_8_method_11_code 2 (Option.none)) ∈ wsG := gIn3 156 rfl rfl
theorem ml_X6_126 : (Cond.methodLink "LessonHorsesModel" 126 yX6_books) ∈ wsG := gIn3 157 rfl rfl
theorem im_X6_books : (Cond.instanceMethod yX6_books) ∈ wsG := gIn3 159 rfl rfl
theorem cd_X6_books : (Cond.code yX6_books prog_8_method_34_code 6 (Option.some FieldType.int)) ∈ wsG := gIn3 160 rfl rfl
theorem ml_X6_111 : (Cond.methodLink "LessonHorsesModel" 111 yX6_isRing) ∈ wsG := gIn3 161 rfl rfl
theorem st_X6_isRing : (Cond.static yX6_isRing) ∈ wsG := gIn3 162 rfl rfl
theorem cd_X6_isRing : (Cond.code yX6_isRing prog_8_method_5_code 1 (Option.some FieldType.boolean)) ∈ wsG := gIn3 163 rfl rfl
theorem ml_X6_114 : (Cond.methodLink "LessonHorsesModel" 114 yX6_isAhead) ∈ wsG := gIn3 164 rfl rfl
theorem st_X6_isAhead : (Cond.static yX6_isAhead) ∈ wsG := gIn3 165 rfl rfl
theorem cd_X6_isAhead : (Cond.code yX6_isAhead prog_8_method_6_code 1 (Option.some FieldType.boolean)) ∈ wsG := gIn3 166 rfl rfl
theorem ml_X6_117 : (Cond.methodLink "LessonHorsesModel" 117 yX6_bookingOf) ∈ wsG := gIn3 167 rfl rfl
theorem im_X6_bookingOf : (Cond.instanceMethod yX6_bookingOf) ∈ wsG := gIn3 169 rfl rfl
theorem cd_X6_bookingOf : (Cond.code yX6_bookingOf prog_8_method_32_code 6 (Option.some FieldType.int)) ∈ wsG := gIn3 170 rfl rfl
theorem ml_X6_75 : (Cond.methodLink "LessonHorsesModel" 75 yX6_ofBooking) ∈ wsG := gIn3 171 rfl rfl
theorem st_X6_ofBooking : (Cond.static yX6_ofBooking) ∈ wsG := gIn3 172 rfl rfl
theorem cd_X6_ofBooking : (Cond.code yX6_ofBooking prog_8_method_9_code 2 (Option.some FieldType.int)) ∈ wsG := gIn3 173 rfl rfl
theorem ml_X6_120 : (Cond.methodLink "LessonHorsesModel" 120 yX6_bookedFor) ∈ wsG := gIn3 174 rfl rfl
theorem im_X6_bookedFor : (Cond.instanceMethod yX6_bookedFor) ∈ wsG := gIn3 176 rfl rfl
theorem cd_X6_bookedFor : (Cond.code yX6_bookedFor prog_8_method_33_code 5 (Option.some FieldType.int)) ∈ wsG := gIn3 177 rfl rfl
theorem ml_X6_129 : (Cond.methodLink "LessonHorsesModel" 129 yX6_recordAside) ∈ wsG := gIn3 178 rfl rfl
theorem im_X6_recordAside : (Cond.instanceMethod yX6_recordAside) ∈ wsG := gIn3 180 rfl rfl
theorem cd_X6_recordAside : (Cond.code yX6_recordAside prog_8_method_36_code 2 (Option.none)) ∈ wsG := gIn3 181 rfl rfl
theorem ml_L_34 : (Cond.methodLink "LessonHorsesLaw" 34 yX6_cancel) ∈ wsG := gIn3 182 rfl rfl
theorem im_X6_cancel : (Cond.instanceMethod yX6_cancel) ∈ wsG := gIn3 183 rfl rfl
theorem sl_X6_cancel : (Cond.selects "LessonHorsesModel" yX6_cancel yX6_cancel) ∈ wsG := gIn3 184 rfl rfl
theorem cd_X6_cancel : (Cond.code yX6_cancel prog_8_method_37_code 6 (Option.some FieldType.int)) ∈ wsG := gIn3 185 rfl rfl
theorem ml_L_39 : (Cond.methodLink "LessonHorsesLaw" 39 yX6_pass) ∈ wsG := gIn3 186 rfl rfl
theorem im_X6_pass : (Cond.instanceMethod yX6_pass) ∈ wsG := gIn3 187 rfl rfl
theorem sl_X6_pass : (Cond.selects "LessonHorsesModel" yX6_pass yX6_pass) ∈ wsG := gIn3 188 rfl rfl
theorem cd_X6_pass : (Cond.code yX6_pass prog_8_method_38_code 4 (Option.some FieldType.int)) ∈ wsG := gIn3 189 rfl rfl
theorem ml_X6_132 : (Cond.methodLink "LessonHorsesModel" 132 yX6_hour) ∈ wsG := gIn3 190 rfl rfl
theorem im_X6_hour : (Cond.instanceMethod yX6_hour) ∈ wsG := gIn3 192 rfl rfl
theorem cd_X6_hour : (Cond.code yX6_hour prog_8_method_26_code 5 (Option.some FieldType.int)) ∈ wsG := gIn3 193 rfl rfl
theorem ml_X6_82 : (Cond.methodLink "LessonHorsesModel" 82 yX6_shodHorse) ∈ wsG := gIn3 194 rfl rfl
theorem im_X6_shodHorse : (Cond.instanceMethod yX6_shodHorse) ∈ wsG := gIn3 196 rfl rfl
theorem cd_X6_shodHorse : (Cond.code yX6_shodHorse prog_8_method_14_code 4 (Option.some FieldType.int)) ∈ wsG := gIn3 197 rfl rfl
theorem ml_X6_46 : (Cond.methodLink "LessonHorsesModel" 46 yX6_isFarrierThere) ∈ wsG := gIn3 198 rfl rfl
theorem im_X6_isFarrierThere : (Cond.instanceMethod yX6_isFarrierThere) ∈ wsG := gIn3 200 rfl rfl
theorem cd_X6_isFarrierThere : (Cond.code yX6_isFarrierThere prog_8_method_13_code 1 (Option.some FieldType.boolean)) ∈ wsG := gIn3 201 rfl rfl
theorem ml_X6_86 : (Cond.methodLink "LessonHorsesModel" 86 yX6_frees) ∈ wsG := gIn3 202 rfl rfl
theorem im_X6_frees : (Cond.instanceMethod yX6_frees) ∈ wsG := gIn3 204 rfl rfl
theorem cd_X6_frees : (Cond.code yX6_frees prog_8_method_19_code 2 (Option.none)) ∈ wsG := gIn3 205 rfl rfl
theorem ml_X6_89 : (Cond.methodLink "LessonHorsesModel" 89 yX6_gives) ∈ wsG := gIn3 206 rfl rfl
theorem im_X6_gives : (Cond.instanceMethod yX6_gives) ∈ wsG := gIn3 208 rfl rfl
theorem cd_X6_gives : (Cond.code yX6_gives prog_8_method_24_code 7 (Option.some FieldType.int)) ∈ wsG := gIn3 209 rfl rfl
theorem ml_X6_78 : (Cond.methodLink "LessonHorsesModel" 78 yX6_rides) ∈ wsG := gIn3 210 rfl rfl
theorem im_X6_rides : (Cond.instanceMethod yX6_rides) ∈ wsG := gIn3 212 rfl rfl
theorem cd_X6_rides : (Cond.code yX6_rides prog_8_method_23_code 4 (Option.some FieldType.boolean)) ∈ wsG := gIn3 213 rfl rfl
theorem ml_X6_61 : (Cond.methodLink "LessonHorsesModel" 61 yX6_bestFor) ∈ wsG := gIn3 214 rfl rfl
theorem im_X6_bestFor : (Cond.instanceMethod yX6_bestFor) ∈ wsG := gIn3 216 rfl rfl
theorem cd_X6_bestFor : (Cond.code yX6_bestFor prog_8_method_18_code 6 (Option.some FieldType.int)) ∈ wsG := gIn3 217 rfl rfl
theorem ml_X6_54 : (Cond.methodLink "LessonHorsesModel" 54 yX6_hindrance) ∈ wsG := gIn3 218 rfl rfl
theorem im_X6_hindrance : (Cond.instanceMethod yX6_hindrance) ∈ wsG := gIn3 220 rfl rfl
theorem cd_X6_hindrance : (Cond.code yX6_hindrance prog_8_method_15_code 4 (Option.some FieldType.int)) ∈ wsG := gIn3 221 rfl rfl
theorem ml_X6_58 : (Cond.methodLink "LessonHorsesModel" 58 yX6_isBetter) ∈ wsG := gIn3 222 rfl rfl
theorem im_X6_isBetter : (Cond.instanceMethod yX6_isBetter) ∈ wsG := gIn3 224 rfl rfl
theorem cd_X6_isBetter : (Cond.code yX6_isBetter prog_8_method_17_code 7 (Option.some FieldType.boolean)) ∈ wsG := gIn3 225 rfl rfl
theorem ml_X6_50 : (Cond.methodLink "LessonHorsesModel" 50 yX6_can) ∈ wsG := gIn3 226 rfl rfl
theorem im_X6_can : (Cond.instanceMethod yX6_can) ∈ wsG := gIn3 228 rfl rfl
theorem cd_X6_can : (Cond.code yX6_can prog_8_method_16_code 3 (Option.some FieldType.int)) ∈ wsG := gIn3 229 rfl rfl
theorem ml_X6_64 : (Cond.methodLink "LessonHorsesModel" 64 yX6_falls) ∈ wsG := gIn3 230 rfl rfl
theorem im_X6_falls : (Cond.instanceMethod yX6_falls) ∈ wsG := gIn3 232 rfl rfl
theorem cd_X6_falls : (Cond.code yX6_falls prog_8_method_20_code 4 (Option.none)) ∈ wsG := gIn3 233 rfl rfl
theorem ml_X6_68 : (Cond.methodLink "LessonHorsesModel" 68 yX6_learns) ∈ wsG := gIn3 234 rfl rfl
theorem im_X6_learns : (Cond.instanceMethod yX6_learns) ∈ wsG := gIn3 236 rfl rfl
theorem cd_X6_learns : (Cond.code yX6_learns prog_8_method_21_code 3 (Option.none)) ∈ wsG := gIn3 237 rfl rfl
theorem ml_X6_72 : (Cond.methodLink "LessonHorsesModel" 72 yX6_strains) ∈ wsG := gIn3 238 rfl rfl
theorem im_X6_strains : (Cond.instanceMethod yX6_strains) ∈ wsG := gIn4 0 rfl rfl
theorem cd_X6_strains : (Cond.code yX6_strains prog_8_method_22_code 2 (Option.none)) ∈ wsG := gIn4 1 rfl rfl
theorem ml_X6_92 : (Cond.methodLink "LessonHorsesModel" 92 yX6_rests) ∈ wsG := gIn4 2 rfl rfl
theorem im_X6_rests : (Cond.instanceMethod yX6_rests) ∈ wsG := gIn4 4 rfl rfl
theorem cd_X6_rests : (Cond.code yX6_rests prog_8_method_25_code 6 (Option.none)) ∈ wsG := gIn4 5 rfl rfl
theorem ml_L_44 : (Cond.methodLink "LessonHorsesLaw" 44 yX6_type) ∈ wsG := gIn4 6 rfl rfl
theorem im_X6_type : (Cond.instanceMethod yX6_type) ∈ wsG := gIn4 7 rfl rfl
theorem sl_X6_type : (Cond.selects "LessonHorsesModel" yX6_type yX6_type) ∈ wsG := gIn4 8 rfl rfl
theorem cd_X6_type : (Cond.code yX6_type prog_8_method_39_code 2 (Option.some FieldType.int)) ∈ wsG := gIn4 9 rfl rfl
theorem ml_L_49 : (Cond.methodLink "LessonHorsesLaw" 49 yX6_clearText) ∈ wsG := gIn4 10 rfl rfl
theorem im_X6_clearText : (Cond.instanceMethod yX6_clearText) ∈ wsG := gIn4 11 rfl rfl
theorem sl_X6_clearText : (Cond.selects "LessonHorsesModel" yX6_clearText yX6_clearText) ∈ wsG := gIn4 12 rfl rfl
theorem cd_X6_clearText : (Cond.code yX6_clearText prog_8_method_40_code 2 (Option.some FieldType.int)) ∈ wsG := gIn4 13 rfl rfl
theorem ml_L_53 : (Cond.methodLink "LessonHorsesLaw" 53 yX6_bookPlan) ∈ wsG := gIn4 14 rfl rfl
theorem im_X6_bookPlan : (Cond.instanceMethod yX6_bookPlan) ∈ wsG := gIn4 15 rfl rfl
theorem sl_X6_bookPlan : (Cond.selects "LessonHorsesModel" yX6_bookPlan yX6_bookPlan) ∈ wsG := gIn4 16 rfl rfl
theorem cd_X6_bookPlan : (Cond.code yX6_bookPlan prog_8_method_47_code 2 (Option.some FieldType.int)) ∈ wsG := gIn4 17 rfl rfl
theorem ml_X6_169 : (Cond.methodLink "LessonHorsesModel" 169 yX6_readsPlan) ∈ wsG := gIn4 18 rfl rfl
theorem im_X6_readsPlan : (Cond.instanceMethod yX6_readsPlan) ∈ wsG := gIn4 20 rfl rfl
theorem cd_X6_readsPlan : (Cond.code yX6_readsPlan prog_8_method_46_code 3 (Option.some FieldType.int)) ∈ wsG := gIn4 21 rfl rfl
theorem ml_X6_165 : (Cond.methodLink "LessonHorsesModel" 165 yX6_readsBooking) ∈ wsG := gIn4 22 rfl rfl
theorem im_X6_readsBooking : (Cond.instanceMethod yX6_readsBooking) ∈ wsG := gIn4 24 rfl rfl
theorem cd_X6_readsBooking : (Cond.code yX6_readsBooking prog_8_method_45_code 4 (Option.none)) ∈ wsG := gIn4 25 rfl rfl
theorem ml_X6_158 : (Cond.methodLink "LessonHorsesModel" 158 yX6_needs) ∈ wsG := gIn4 26 rfl rfl
theorem im_X6_needs : (Cond.instanceMethod yX6_needs) ∈ wsG := gIn4 28 rfl rfl
theorem cd_X6_needs : (Cond.code yX6_needs prog_8_method_42_code 3 (Option.none)) ∈ wsG := gIn4 29 rfl rfl
theorem ml_X6_146 : (Cond.methodLink "LessonHorsesModel" 146 yX6_isNext) ∈ wsG := gIn4 30 rfl rfl
theorem im_X6_isNext : (Cond.instanceMethod yX6_isNext) ∈ wsG := gIn4 32 rfl rfl
theorem cd_X6_isNext : (Cond.code yX6_isNext prog_8_method_41_code 3 (Option.some FieldType.boolean)) ∈ wsG := gIn4 33 rfl rfl
theorem ml_X6_149 : (Cond.methodLink "LessonHorsesModel" 149 yX6_number) ∈ wsG := gIn4 34 rfl rfl
theorem im_X6_number : (Cond.instanceMethod yX6_number) ∈ wsG := gIn4 36 rfl rfl
theorem cd_X6_number : (Cond.code yX6_number prog_8_method_43_code 3 (Option.some FieldType.int)) ∈ wsG := gIn4 37 rfl rfl
theorem ml_X6_161 : (Cond.methodLink "LessonHorsesModel" 161 yX6_reads) ∈ wsG := gIn4 38 rfl rfl
theorem im_X6_reads : (Cond.instanceMethod yX6_reads) ∈ wsG := gIn4 40 rfl rfl
theorem cd_X6_reads : (Cond.code yX6_reads prog_8_method_44_code 6 (Option.none)) ∈ wsG := gIn4 41 rfl rfl
theorem ml_X6_172 : (Cond.methodLink "LessonHorsesModel" 172 yX6_putBack) ∈ wsG := gIn4 42 rfl rfl
theorem im_X6_putBack : (Cond.instanceMethod yX6_putBack) ∈ wsG := gIn4 44 rfl rfl
theorem cd_X6_putBack : (Cond.code yX6_putBack prog_8_method_12_code 2 (Option.none)) ∈ wsG := gIn4 45 rfl rfl
theorem ml_L_57 : (Cond.methodLink "LessonHorsesLaw" 57 yX6_undo) ∈ wsG := gIn4 46 rfl rfl
theorem im_X6_undo : (Cond.instanceMethod yX6_undo) ∈ wsG := gIn4 47 rfl rfl
theorem sl_X6_undo : (Cond.selects "LessonHorsesModel" yX6_undo yX6_undo) ∈ wsG := gIn4 48 rfl rfl
theorem cd_X6_undo : (Cond.code yX6_undo prog_8_method_48_code 2 (Option.some FieldType.int)) ∈ wsG := gIn4 49 rfl rfl
theorem ml_L_61 : (Cond.methodLink "LessonHorsesLaw" 61 yX6_keep) ∈ wsG := gIn4 50 rfl rfl
theorem im_X6_keep : (Cond.instanceMethod yX6_keep) ∈ wsG := gIn4 51 rfl rfl
theorem sl_X6_keep : (Cond.selects "LessonHorsesModel" yX6_keep yX6_keep) ∈ wsG := gIn4 52 rfl rfl
theorem cd_X6_keep : (Cond.code yX6_keep prog_8_method_49_code 2 (Option.some FieldType.int)) ∈ wsG := gIn4 53 rfl rfl
theorem ml_L_65 : (Cond.methodLink "LessonHorsesLaw" 65 yX6_restore) ∈ wsG := gIn4 54 rfl rfl
theorem im_X6_restore : (Cond.instanceMethod yX6_restore) ∈ wsG := gIn4 55 rfl rfl
theorem sl_X6_restore : (Cond.selects "LessonHorsesModel" yX6_restore yX6_restore) ∈ wsG := gIn4 56 rfl rfl
theorem cd_X6_restore : (Cond.code yX6_restore prog_8_method_50_code 2 (Option.some FieldType.int)) ∈ wsG := gIn4 57 rfl rfl
theorem ml_L_69 : (Cond.methodLink "LessonHorsesLaw" 69 yX6_horse) ∈ wsG := gIn4 58 rfl rfl
theorem im_X6_horse : (Cond.instanceMethod yX6_horse) ∈ wsG := gIn4 59 rfl rfl
theorem sl_X6_horse : (Cond.selects "LessonHorsesModel" yX6_horse yX6_horse) ∈ wsG := gIn4 60 rfl rfl
theorem cd_X6_horse : (Cond.code yX6_horse prog_8_method_51_code 3 (Option.some FieldType.int)) ∈ wsG := gIn4 61 rfl rfl
theorem ml_L_73 : (Cond.methodLink "LessonHorsesLaw" 73 yX6_rider) ∈ wsG := gIn4 62 rfl rfl
theorem im_X6_rider : (Cond.instanceMethod yX6_rider) ∈ wsG := gIn4 63 rfl rfl
theorem sl_X6_rider : (Cond.selects "LessonHorsesModel" yX6_rider yX6_rider) ∈ wsG := gIn4 64 rfl rfl
theorem cd_X6_rider : (Cond.code yX6_rider prog_8_method_53_code 3 (Option.some FieldType.int)) ∈ wsG := gIn4 65 rfl rfl
theorem ml_X6_178 : (Cond.methodLink "LessonHorsesModel" 178 yX6_bookingsOf) ∈ wsG := gIn4 66 rfl rfl
theorem im_X6_bookingsOf : (Cond.instanceMethod yX6_bookingsOf) ∈ wsG := gIn4 68 rfl rfl
theorem cd_X6_bookingsOf : (Cond.code yX6_bookingsOf prog_8_method_52_code 4 (Option.some FieldType.int)) ∈ wsG := gIn4 69 rfl rfl
theorem ml_L_77 : (Cond.methodLink "LessonHorsesLaw" 77 yX6_lesson) ∈ wsG := gIn4 70 rfl rfl
theorem im_X6_lesson : (Cond.instanceMethod yX6_lesson) ∈ wsG := gIn4 71 rfl rfl
theorem sl_X6_lesson : (Cond.selects "LessonHorsesModel" yX6_lesson yX6_lesson) ∈ wsG := gIn4 72 rfl rfl
theorem cd_X6_lesson : (Cond.code yX6_lesson prog_8_method_55_code 6 (Option.some FieldType.int)) ∈ wsG := gIn4 73 rfl rfl
theorem ml_X6_181 : (Cond.methodLink "LessonHorsesModel" 181 yX6_ridersFor) ∈ wsG := gIn4 74 rfl rfl
theorem im_X6_ridersFor : (Cond.instanceMethod yX6_ridersFor) ∈ wsG := gIn4 76 rfl rfl
theorem cd_X6_ridersFor : (Cond.code yX6_ridersFor prog_8_method_54_code 6 (Option.some FieldType.int)) ∈ wsG := gIn4 77 rfl rfl
theorem ml_L_81 : (Cond.methodLink "LessonHorsesLaw" 81 yX6_fall) ∈ wsG := gIn4 78 rfl rfl
theorem im_X6_fall : (Cond.instanceMethod yX6_fall) ∈ wsG := gIn4 79 rfl rfl
theorem sl_X6_fall : (Cond.selects "LessonHorsesModel" yX6_fall yX6_fall) ∈ wsG := gIn4 80 rfl rfl
theorem cd_X6_fall : (Cond.code yX6_fall prog_8_method_56_code 3 (Option.some FieldType.int)) ∈ wsG := gIn4 81 rfl rfl
theorem ml_L_85 : (Cond.methodLink "LessonHorsesLaw" 85 yX6_reason) ∈ wsG := gIn4 82 rfl rfl
theorem im_X6_reason : (Cond.instanceMethod yX6_reason) ∈ wsG := gIn4 83 rfl rfl
theorem sl_X6_reason : (Cond.selects "LessonHorsesModel" yX6_reason yX6_reason) ∈ wsG := gIn4 84 rfl rfl
theorem cd_X6_reason : (Cond.code yX6_reason prog_8_method_57_code 3 (Option.some FieldType.int)) ∈ wsG := gIn4 85 rfl rfl
theorem ml_L_89 : (Cond.methodLink "LessonHorsesLaw" 89 yX6_best) ∈ wsG := gIn4 86 rfl rfl
theorem im_X6_best : (Cond.instanceMethod yX6_best) ∈ wsG := gIn4 87 rfl rfl
theorem sl_X6_best : (Cond.selects "LessonHorsesModel" yX6_best yX6_best) ∈ wsG := gIn4 88 rfl rfl
theorem cd_X6_best : (Cond.code yX6_best prog_8_method_58_code 2 (Option.some FieldType.int)) ∈ wsG := gIn4 89 rfl rfl
theorem ml_L_93 : (Cond.methodLink "LessonHorsesLaw" 93 yX6_takenIn) ∈ wsG := gIn4 90 rfl rfl
theorem im_X6_takenIn : (Cond.instanceMethod yX6_takenIn) ∈ wsG := gIn4 91 rfl rfl
theorem sl_X6_takenIn : (Cond.selects "LessonHorsesModel" yX6_takenIn yX6_takenIn) ∈ wsG := gIn4 92 rfl rfl
theorem cd_X6_takenIn : (Cond.code yX6_takenIn prog_8_method_59_code 5 (Option.some FieldType.int)) ∈ wsG := gIn4 93 rfl rfl
theorem ml_L_97 : (Cond.methodLink "LessonHorsesLaw" 97 yX6_ifPassed) ∈ wsG := gIn4 94 rfl rfl
theorem im_X6_ifPassed : (Cond.instanceMethod yX6_ifPassed) ∈ wsG := gIn4 95 rfl rfl
theorem sl_X6_ifPassed : (Cond.selects "LessonHorsesModel" yX6_ifPassed yX6_ifPassed) ∈ wsG := gIn4 96 rfl rfl
theorem cd_X6_ifPassed : (Cond.code yX6_ifPassed prog_8_method_61_code 7 (Option.some FieldType.int)) ∈ wsG := gIn4 97 rfl rfl
theorem ml_X6_184 : (Cond.methodLink "LessonHorsesModel" 184 yX6_lameHorses) ∈ wsG := gIn4 98 rfl rfl
theorem im_X6_lameHorses : (Cond.instanceMethod yX6_lameHorses) ∈ wsG := gIn4 100 rfl rfl
theorem cd_X6_lameHorses : (Cond.code yX6_lameHorses prog_8_method_60_code 3 (Option.some FieldType.int)) ∈ wsG := gIn4 101 rfl rfl
theorem ml_L_101 : (Cond.methodLink "LessonHorsesLaw" 101 yX6_busiest) ∈ wsG := gIn4 102 rfl rfl
theorem im_X6_busiest : (Cond.instanceMethod yX6_busiest) ∈ wsG := gIn4 103 rfl rfl
theorem sl_X6_busiest : (Cond.selects "LessonHorsesModel" yX6_busiest yX6_busiest) ∈ wsG := gIn4 104 rfl rfl
theorem cd_X6_busiest : (Cond.code yX6_busiest prog_8_method_62_code 6 (Option.some FieldType.int)) ∈ wsG := gIn4 105 rfl rfl
theorem ml_L_105 : (Cond.methodLink "LessonHorsesLaw" 105 yX6_count) ∈ wsG := gIn4 106 rfl rfl
theorem im_X6_count : (Cond.instanceMethod yX6_count) ∈ wsG := gIn4 107 rfl rfl
theorem sl_X6_count : (Cond.selects "LessonHorsesModel" yX6_count yX6_count) ∈ wsG := gIn4 108 rfl rfl
theorem cd_X6_count : (Cond.code yX6_count prog_8_method_64_code 2 (Option.some FieldType.int)) ∈ wsG := gIn4 109 rfl rfl
theorem ml_X6_187 : (Cond.methodLink "LessonHorsesModel" 187 yX6_tiredness) ∈ wsG := gIn4 110 rfl rfl
theorem im_X6_tiredness : (Cond.instanceMethod yX6_tiredness) ∈ wsG := gIn4 112 rfl rfl
theorem cd_X6_tiredness : (Cond.code yX6_tiredness prog_8_method_63_code 3 (Option.some FieldType.int)) ∈ wsG := gIn4 113 rfl rfl
theorem gPr {q : MethodName × Nat} (h : q ∈ lw_privs) (g : goodWord (Cond.selects q.1.cls q.1 q.1) = true) : (Cond.selects q.1.cls q.1 q.1) ∈ wsG := List.mem_filter.mpr ⟨List.mem_append_left _ (List.mem_map.mpr ⟨q, h, rfl⟩), g⟩
theorem sl_X0_stateAt : (Cond.selects "LessonHorses$History" yX0_stateAt yX0_stateAt) ∈ wsG := gPr (q := (yX0_stateAt, 3)) (show _ ∈ lw_privs_1 ++ (lw_privs_2 ++ lw_privs_3) from List.mem_append_left _ (List.mem_of_getElem? (i := 0) rfl)) rfl
theorem sl_X2_abilityOf : (Cond.selects "LessonHorses$Stable" yX2_abilityOf yX2_abilityOf) ∈ wsG := gPr (q := (yX2_abilityOf, 8)) (show _ ∈ lw_privs_1 ++ (lw_privs_2 ++ lw_privs_3) from List.mem_append_left _ (List.mem_of_getElem? (i := 1) rfl)) rfl
theorem sl_X2_bookingsOf : (Cond.selects "LessonHorses$Stable" yX2_bookingsOf yX2_bookingsOf) ∈ wsG := gPr (q := (yX2_bookingsOf, 8)) (show _ ∈ lw_privs_1 ++ (lw_privs_2 ++ lw_privs_3) from List.mem_append_left _ (List.mem_of_getElem? (i := 2) rfl)) rfl
theorem sl_X2_isBooked : (Cond.selects "LessonHorses$Stable" yX2_isBooked yX2_isBooked) ∈ wsG := gPr (q := (yX2_isBooked, 8)) (show _ ∈ lw_privs_1 ++ (lw_privs_2 ++ lw_privs_3) from List.mem_append_left _ (List.mem_of_getElem? (i := 3) rfl)) rfl
theorem sl_X2_isBooked_ : (Cond.selects "LessonHorses$Stable" yX2_isBooked_ yX2_isBooked_) ∈ wsG := gPr (q := (yX2_isBooked_, 8)) (show _ ∈ lw_privs_1 ++ (lw_privs_2 ++ lw_privs_3) from List.mem_append_left _ (List.mem_of_getElem? (i := 4) rfl)) rfl
theorem sl_X2_giveLessons : (Cond.selects "LessonHorses$Stable" yX2_giveLessons yX2_giveLessons) ∈ wsG := gPr (q := (yX2_giveLessons, 8)) (show _ ∈ lw_privs_1 ++ (lw_privs_2 ++ lw_privs_3) from List.mem_append_left _ (List.mem_of_getElem? (i := 5) rfl)) rfl
theorem sl_X2_giveLesson : (Cond.selects "LessonHorses$Stable" yX2_giveLesson yX2_giveLesson) ∈ wsG := gPr (q := (yX2_giveLesson, 8)) (show _ ∈ lw_privs_1 ++ (lw_privs_2 ++ lw_privs_3) from List.mem_append_left _ (List.mem_of_getElem? (i := 6) rfl)) rfl
theorem sl_X2_isBetter : (Cond.selects "LessonHorses$Stable" yX2_isBetter yX2_isBetter) ∈ wsG := gPr (q := (yX2_isBetter, 8)) (show _ ∈ lw_privs_1 ++ (lw_privs_2 ++ lw_privs_3) from List.mem_append_left _ (List.mem_of_getElem? (i := 7) rfl)) rfl
theorem sl_X2_letFall : (Cond.selects "LessonHorses$Stable" yX2_letFall yX2_letFall) ∈ wsG := gPr (q := (yX2_letFall, 8)) (show _ ∈ lw_privs_1 ++ (lw_privs_2 ++ lw_privs_3) from List.mem_append_left _ (List.mem_of_getElem? (i := 8) rfl)) rfl
theorem sl_X2_letLearn : (Cond.selects "LessonHorses$Stable" yX2_letLearn yX2_letLearn) ∈ wsG := gPr (q := (yX2_letLearn, 8)) (show _ ∈ lw_privs_1 ++ (lw_privs_2 ++ lw_privs_3) from List.mem_append_left _ (List.mem_of_getElem? (i := 9) rfl)) rfl
theorem sl_X2_strain : (Cond.selects "LessonHorses$Stable" yX2_strain yX2_strain) ∈ wsG := gPr (q := (yX2_strain, 8)) (show _ ∈ lw_privs_1 ++ (lw_privs_2 ++ lw_privs_3) from List.mem_append_left _ (List.mem_of_getElem? (i := 10) rfl)) rfl
theorem sl_X1_moveTo : (Cond.selects "LessonHorses$Plan" yX1_moveTo yX1_moveTo) ∈ wsG := gPr (q := (yX1_moveTo, 6)) (show _ ∈ lw_privs_1 ++ (lw_privs_2 ++ lw_privs_3) from List.mem_append_left _ (List.mem_of_getElem? (i := 11) rfl)) rfl
theorem sl_X1_accepts : (Cond.selects "LessonHorses$Plan" yX1_accepts yX1_accepts) ∈ wsG := gPr (q := (yX1_accepts, 6)) (show _ ∈ lw_privs_1 ++ (lw_privs_2 ++ lw_privs_3) from List.mem_append_left _ (List.mem_of_getElem? (i := 12) rfl)) rfl
theorem sl_X1_acceptsDigit : (Cond.selects "LessonHorses$Plan" yX1_acceptsDigit yX1_acceptsDigit) ∈ wsG := gPr (q := (yX1_acceptsDigit, 6)) (show _ ∈ lw_privs_1 ++ (lw_privs_2 ++ lw_privs_3) from List.mem_append_left _ (List.mem_of_getElem? (i := 13) rfl)) rfl
theorem sl_X1_acceptsStart : (Cond.selects "LessonHorses$Plan" yX1_acceptsStart yX1_acceptsStart) ∈ wsG := gPr (q := (yX1_acceptsStart, 6)) (show _ ∈ lw_privs_1 ++ (lw_privs_2 ++ lw_privs_3) from List.mem_append_left _ (List.mem_of_getElem? (i := 14) rfl)) rfl
theorem sl_X1_acceptsSignBehindNumber : (Cond.selects "LessonHorses$Plan" yX1_acceptsSignBehindNumber yX1_acceptsSignBehindNumber) ∈ wsG := gPr (q := (yX1_acceptsSignBehindNumber, 6)) (show _ ∈ lw_privs_1 ++ (lw_privs_2 ++ lw_privs_3) from List.mem_append_left _ (List.mem_of_getElem? (i := 15) rfl)) rfl
theorem sl_X1_addEntry : (Cond.selects "LessonHorses$Plan" yX1_addEntry yX1_addEntry) ∈ wsG := gPr (q := (yX1_addEntry, 6)) (show _ ∈ lw_privs_1 ++ (lw_privs_2 ++ lw_privs_3) from List.mem_append_right _ (List.mem_append_left _ (List.mem_of_getElem? (i := 0) rfl))) rfl
theorem sl_X6_record : (Cond.selects "LessonHorsesModel" yX6_record yX6_record) ∈ wsG := gPr (q := (yX6_record, 14)) (show _ ∈ lw_privs_1 ++ (lw_privs_2 ++ lw_privs_3) from List.mem_append_right _ (List.mem_append_left _ (List.mem_of_getElem? (i := 1) rfl))) rfl
theorem sl_X6_putAside : (Cond.selects "LessonHorsesModel" yX6_putAside yX6_putAside) ∈ wsG := gPr (q := (yX6_putAside, 14)) (show _ ∈ lw_privs_1 ++ (lw_privs_2 ++ lw_privs_3) from List.mem_append_right _ (List.mem_append_left _ (List.mem_of_getElem? (i := 2) rfl))) rfl
theorem sl_X6_books : (Cond.selects "LessonHorsesModel" yX6_books yX6_books) ∈ wsG := gPr (q := (yX6_books, 14)) (show _ ∈ lw_privs_1 ++ (lw_privs_2 ++ lw_privs_3) from List.mem_append_right _ (List.mem_append_left _ (List.mem_of_getElem? (i := 3) rfl))) rfl
theorem sl_X6_bookingOf : (Cond.selects "LessonHorsesModel" yX6_bookingOf yX6_bookingOf) ∈ wsG := gPr (q := (yX6_bookingOf, 14)) (show _ ∈ lw_privs_1 ++ (lw_privs_2 ++ lw_privs_3) from List.mem_append_right _ (List.mem_append_left _ (List.mem_of_getElem? (i := 4) rfl))) rfl
theorem sl_X6_bookedFor : (Cond.selects "LessonHorsesModel" yX6_bookedFor yX6_bookedFor) ∈ wsG := gPr (q := (yX6_bookedFor, 14)) (show _ ∈ lw_privs_1 ++ (lw_privs_2 ++ lw_privs_3) from List.mem_append_right _ (List.mem_append_left _ (List.mem_of_getElem? (i := 5) rfl))) rfl
theorem sl_X6_recordAside : (Cond.selects "LessonHorsesModel" yX6_recordAside yX6_recordAside) ∈ wsG := gPr (q := (yX6_recordAside, 14)) (show _ ∈ lw_privs_1 ++ (lw_privs_2 ++ lw_privs_3) from List.mem_append_right _ (List.mem_append_left _ (List.mem_of_getElem? (i := 6) rfl))) rfl
theorem sl_X6_hour : (Cond.selects "LessonHorsesModel" yX6_hour yX6_hour) ∈ wsG := gPr (q := (yX6_hour, 14)) (show _ ∈ lw_privs_1 ++ (lw_privs_2 ++ lw_privs_3) from List.mem_append_right _ (List.mem_append_left _ (List.mem_of_getElem? (i := 7) rfl))) rfl
theorem sl_X6_shodHorse : (Cond.selects "LessonHorsesModel" yX6_shodHorse yX6_shodHorse) ∈ wsG := gPr (q := (yX6_shodHorse, 14)) (show _ ∈ lw_privs_1 ++ (lw_privs_2 ++ lw_privs_3) from List.mem_append_right _ (List.mem_append_left _ (List.mem_of_getElem? (i := 8) rfl))) rfl
theorem sl_X6_isFarrierThere : (Cond.selects "LessonHorsesModel" yX6_isFarrierThere yX6_isFarrierThere) ∈ wsG := gPr (q := (yX6_isFarrierThere, 14)) (show _ ∈ lw_privs_1 ++ (lw_privs_2 ++ lw_privs_3) from List.mem_append_right _ (List.mem_append_left _ (List.mem_of_getElem? (i := 9) rfl))) rfl
theorem sl_X6_frees : (Cond.selects "LessonHorsesModel" yX6_frees yX6_frees) ∈ wsG := gPr (q := (yX6_frees, 14)) (show _ ∈ lw_privs_1 ++ (lw_privs_2 ++ lw_privs_3) from List.mem_append_right _ (List.mem_append_left _ (List.mem_of_getElem? (i := 10) rfl))) rfl
theorem sl_X6_gives : (Cond.selects "LessonHorsesModel" yX6_gives yX6_gives) ∈ wsG := gPr (q := (yX6_gives, 14)) (show _ ∈ lw_privs_1 ++ (lw_privs_2 ++ lw_privs_3) from List.mem_append_right _ (List.mem_append_left _ (List.mem_of_getElem? (i := 11) rfl))) rfl
theorem sl_X6_rides : (Cond.selects "LessonHorsesModel" yX6_rides yX6_rides) ∈ wsG := gPr (q := (yX6_rides, 14)) (show _ ∈ lw_privs_1 ++ (lw_privs_2 ++ lw_privs_3) from List.mem_append_right _ (List.mem_append_left _ (List.mem_of_getElem? (i := 12) rfl))) rfl
theorem sl_X6_bestFor : (Cond.selects "LessonHorsesModel" yX6_bestFor yX6_bestFor) ∈ wsG := gPr (q := (yX6_bestFor, 14)) (show _ ∈ lw_privs_1 ++ (lw_privs_2 ++ lw_privs_3) from List.mem_append_right _ (List.mem_append_left _ (List.mem_of_getElem? (i := 13) rfl))) rfl
theorem sl_X6_hindrance : (Cond.selects "LessonHorsesModel" yX6_hindrance yX6_hindrance) ∈ wsG := gPr (q := (yX6_hindrance, 14)) (show _ ∈ lw_privs_1 ++ (lw_privs_2 ++ lw_privs_3) from List.mem_append_right _ (List.mem_append_left _ (List.mem_of_getElem? (i := 14) rfl))) rfl
theorem sl_X6_isBetter : (Cond.selects "LessonHorsesModel" yX6_isBetter yX6_isBetter) ∈ wsG := gPr (q := (yX6_isBetter, 14)) (show _ ∈ lw_privs_1 ++ (lw_privs_2 ++ lw_privs_3) from List.mem_append_right _ (List.mem_append_left _ (List.mem_of_getElem? (i := 15) rfl))) rfl
theorem sl_X6_can : (Cond.selects "LessonHorsesModel" yX6_can yX6_can) ∈ wsG := gPr (q := (yX6_can, 14)) (show _ ∈ lw_privs_1 ++ (lw_privs_2 ++ lw_privs_3) from List.mem_append_right _ (List.mem_append_right _ (List.mem_of_getElem? (i := 0) rfl))) rfl
theorem sl_X6_falls : (Cond.selects "LessonHorsesModel" yX6_falls yX6_falls) ∈ wsG := gPr (q := (yX6_falls, 14)) (show _ ∈ lw_privs_1 ++ (lw_privs_2 ++ lw_privs_3) from List.mem_append_right _ (List.mem_append_right _ (List.mem_of_getElem? (i := 1) rfl))) rfl
theorem sl_X6_learns : (Cond.selects "LessonHorsesModel" yX6_learns yX6_learns) ∈ wsG := gPr (q := (yX6_learns, 14)) (show _ ∈ lw_privs_1 ++ (lw_privs_2 ++ lw_privs_3) from List.mem_append_right _ (List.mem_append_right _ (List.mem_of_getElem? (i := 2) rfl))) rfl
theorem sl_X6_strains : (Cond.selects "LessonHorsesModel" yX6_strains yX6_strains) ∈ wsG := gPr (q := (yX6_strains, 14)) (show _ ∈ lw_privs_1 ++ (lw_privs_2 ++ lw_privs_3) from List.mem_append_right _ (List.mem_append_right _ (List.mem_of_getElem? (i := 3) rfl))) rfl
theorem sl_X6_rests : (Cond.selects "LessonHorsesModel" yX6_rests yX6_rests) ∈ wsG := gPr (q := (yX6_rests, 14)) (show _ ∈ lw_privs_1 ++ (lw_privs_2 ++ lw_privs_3) from List.mem_append_right _ (List.mem_append_right _ (List.mem_of_getElem? (i := 4) rfl))) rfl
theorem sl_X6_readsPlan : (Cond.selects "LessonHorsesModel" yX6_readsPlan yX6_readsPlan) ∈ wsG := gPr (q := (yX6_readsPlan, 14)) (show _ ∈ lw_privs_1 ++ (lw_privs_2 ++ lw_privs_3) from List.mem_append_right _ (List.mem_append_right _ (List.mem_of_getElem? (i := 5) rfl))) rfl
theorem sl_X6_readsBooking : (Cond.selects "LessonHorsesModel" yX6_readsBooking yX6_readsBooking) ∈ wsG := gPr (q := (yX6_readsBooking, 14)) (show _ ∈ lw_privs_1 ++ (lw_privs_2 ++ lw_privs_3) from List.mem_append_right _ (List.mem_append_right _ (List.mem_of_getElem? (i := 6) rfl))) rfl
theorem sl_X6_needs : (Cond.selects "LessonHorsesModel" yX6_needs yX6_needs) ∈ wsG := gPr (q := (yX6_needs, 14)) (show _ ∈ lw_privs_1 ++ (lw_privs_2 ++ lw_privs_3) from List.mem_append_right _ (List.mem_append_right _ (List.mem_of_getElem? (i := 7) rfl))) rfl
theorem sl_X6_isNext : (Cond.selects "LessonHorsesModel" yX6_isNext yX6_isNext) ∈ wsG := gPr (q := (yX6_isNext, 14)) (show _ ∈ lw_privs_1 ++ (lw_privs_2 ++ lw_privs_3) from List.mem_append_right _ (List.mem_append_right _ (List.mem_of_getElem? (i := 8) rfl))) rfl
theorem sl_X6_number : (Cond.selects "LessonHorsesModel" yX6_number yX6_number) ∈ wsG := gPr (q := (yX6_number, 14)) (show _ ∈ lw_privs_1 ++ (lw_privs_2 ++ lw_privs_3) from List.mem_append_right _ (List.mem_append_right _ (List.mem_of_getElem? (i := 9) rfl))) rfl
theorem sl_X6_reads : (Cond.selects "LessonHorsesModel" yX6_reads yX6_reads) ∈ wsG := gPr (q := (yX6_reads, 14)) (show _ ∈ lw_privs_1 ++ (lw_privs_2 ++ lw_privs_3) from List.mem_append_right _ (List.mem_append_right _ (List.mem_of_getElem? (i := 10) rfl))) rfl
theorem sl_X6_putBack : (Cond.selects "LessonHorsesModel" yX6_putBack yX6_putBack) ∈ wsG := gPr (q := (yX6_putBack, 14)) (show _ ∈ lw_privs_1 ++ (lw_privs_2 ++ lw_privs_3) from List.mem_append_right _ (List.mem_append_right _ (List.mem_of_getElem? (i := 11) rfl))) rfl
theorem sl_X6_bookingsOf : (Cond.selects "LessonHorsesModel" yX6_bookingsOf yX6_bookingsOf) ∈ wsG := gPr (q := (yX6_bookingsOf, 14)) (show _ ∈ lw_privs_1 ++ (lw_privs_2 ++ lw_privs_3) from List.mem_append_right _ (List.mem_append_right _ (List.mem_of_getElem? (i := 12) rfl))) rfl
theorem sl_X6_ridersFor : (Cond.selects "LessonHorsesModel" yX6_ridersFor yX6_ridersFor) ∈ wsG := gPr (q := (yX6_ridersFor, 14)) (show _ ∈ lw_privs_1 ++ (lw_privs_2 ++ lw_privs_3) from List.mem_append_right _ (List.mem_append_right _ (List.mem_of_getElem? (i := 13) rfl))) rfl
theorem sl_X6_lameHorses : (Cond.selects "LessonHorsesModel" yX6_lameHorses yX6_lameHorses) ∈ wsG := gPr (q := (yX6_lameHorses, 14)) (show _ ∈ lw_privs_1 ++ (lw_privs_2 ++ lw_privs_3) from List.mem_append_right _ (List.mem_append_right _ (List.mem_of_getElem? (i := 14) rfl))) rfl
theorem sl_X6_tiredness : (Cond.selects "LessonHorsesModel" yX6_tiredness yX6_tiredness) ∈ wsG := gPr (q := (yX6_tiredness, 14)) (show _ ∈ lw_privs_1 ++ (lw_privs_2 ++ lw_privs_3) from List.mem_append_right _ (List.mem_append_right _ (List.mem_of_getElem? (i := 15) rfl))) rfl
theorem hd_X5_init : yX5_init.cls = RX5 ∧ yX5_init.cls ≠ "java/lang/invoke/MethodHandle" ∧ yX5_init.cls ≠ "java/lang/invoke/VarHandle" ∧ (parseMethodDescriptor yX5_init.desc).map (fun d => d.parameters.length) = some 0 := by decide +kernel
theorem hd_X5_best : yX5_best.cls = RX5 ∧ yX5_best.cls ≠ "java/lang/invoke/MethodHandle" ∧ yX5_best.cls ≠ "java/lang/invoke/VarHandle" ∧ (parseMethodDescriptor yX5_best.desc).map (fun d => d.parameters.length) = some 1 := by decide +kernel
theorem hd_X5_book : yX5_book.cls = RX5 ∧ yX5_book.cls ≠ "java/lang/invoke/MethodHandle" ∧ yX5_book.cls ≠ "java/lang/invoke/VarHandle" ∧ (parseMethodDescriptor yX5_book.desc).map (fun d => d.parameters.length) = some 3 := by decide +kernel
theorem hd_X5_bookPlan : yX5_bookPlan.cls = RX5 ∧ yX5_bookPlan.cls ≠ "java/lang/invoke/MethodHandle" ∧ yX5_bookPlan.cls ≠ "java/lang/invoke/VarHandle" ∧ (parseMethodDescriptor yX5_bookPlan.desc).map (fun d => d.parameters.length) = some 0 := by decide +kernel
theorem hd_X5_busiest : yX5_busiest.cls = RX5 ∧ yX5_busiest.cls ≠ "java/lang/invoke/MethodHandle" ∧ yX5_busiest.cls ≠ "java/lang/invoke/VarHandle" ∧ (parseMethodDescriptor yX5_busiest.desc).map (fun d => d.parameters.length) = some 0 := by decide +kernel
theorem hd_X5_cancel : yX5_cancel.cls = RX5 ∧ yX5_cancel.cls ≠ "java/lang/invoke/MethodHandle" ∧ yX5_cancel.cls ≠ "java/lang/invoke/VarHandle" ∧ (parseMethodDescriptor yX5_cancel.desc).map (fun d => d.parameters.length) = some 2 := by decide +kernel
theorem hd_X5_clearText : yX5_clearText.cls = RX5 ∧ yX5_clearText.cls ≠ "java/lang/invoke/MethodHandle" ∧ yX5_clearText.cls ≠ "java/lang/invoke/VarHandle" ∧ (parseMethodDescriptor yX5_clearText.desc).map (fun d => d.parameters.length) = some 0 := by decide +kernel
theorem hd_X5_count : yX5_count.cls = RX5 ∧ yX5_count.cls ≠ "java/lang/invoke/MethodHandle" ∧ yX5_count.cls ≠ "java/lang/invoke/VarHandle" ∧ (parseMethodDescriptor yX5_count.desc).map (fun d => d.parameters.length) = some 1 := by decide +kernel
theorem hd_X5_entry : yX5_entry.cls = RX5 ∧ yX5_entry.cls ≠ "java/lang/invoke/MethodHandle" ∧ yX5_entry.cls ≠ "java/lang/invoke/VarHandle" ∧ (parseMethodDescriptor yX5_entry.desc).map (fun d => d.parameters.length) = some 2 := by decide +kernel
theorem hd_X5_fall : yX5_fall.cls = RX5 ∧ yX5_fall.cls ≠ "java/lang/invoke/MethodHandle" ∧ yX5_fall.cls ≠ "java/lang/invoke/VarHandle" ∧ (parseMethodDescriptor yX5_fall.desc).map (fun d => d.parameters.length) = some 2 := by decide +kernel
theorem hd_X5_horse : yX5_horse.cls = RX5 ∧ yX5_horse.cls ≠ "java/lang/invoke/MethodHandle" ∧ yX5_horse.cls ≠ "java/lang/invoke/VarHandle" ∧ (parseMethodDescriptor yX5_horse.desc).map (fun d => d.parameters.length) = some 2 := by decide +kernel
theorem hd_X5_ifPassed : yX5_ifPassed.cls = RX5 ∧ yX5_ifPassed.cls ≠ "java/lang/invoke/MethodHandle" ∧ yX5_ifPassed.cls ≠ "java/lang/invoke/VarHandle" ∧ (parseMethodDescriptor yX5_ifPassed.desc).map (fun d => d.parameters.length) = some 2 := by decide +kernel
theorem hd_X5_isNoHorse : yX5_isNoHorse.cls = RX5 ∧ yX5_isNoHorse.cls ≠ "java/lang/invoke/MethodHandle" ∧ yX5_isNoHorse.cls ≠ "java/lang/invoke/VarHandle" ∧ (parseMethodDescriptor yX5_isNoHorse.desc).map (fun d => d.parameters.length) = some 1 := by decide +kernel
theorem hd_X5_isNoRider : yX5_isNoRider.cls = RX5 ∧ yX5_isNoRider.cls ≠ "java/lang/invoke/MethodHandle" ∧ yX5_isNoRider.cls ≠ "java/lang/invoke/VarHandle" ∧ (parseMethodDescriptor yX5_isNoRider.desc).map (fun d => d.parameters.length) = some 1 := by decide +kernel
theorem hd_X5_isNoRing : yX5_isNoRing.cls = RX5 ∧ yX5_isNoRing.cls ≠ "java/lang/invoke/MethodHandle" ∧ yX5_isNoRing.cls ≠ "java/lang/invoke/VarHandle" ∧ (parseMethodDescriptor yX5_isNoRing.desc).map (fun d => d.parameters.length) = some 1 := by decide +kernel
theorem hd_X5_isOutside : yX5_isOutside.cls = RX5 ∧ yX5_isOutside.cls ≠ "java/lang/invoke/MethodHandle" ∧ yX5_isOutside.cls ≠ "java/lang/invoke/VarHandle" ∧ (parseMethodDescriptor yX5_isOutside.desc).map (fun d => d.parameters.length) = some 3 := by decide +kernel
theorem hd_X5_keep : yX5_keep.cls = RX5 ∧ yX5_keep.cls ≠ "java/lang/invoke/MethodHandle" ∧ yX5_keep.cls ≠ "java/lang/invoke/VarHandle" ∧ (parseMethodDescriptor yX5_keep.desc).map (fun d => d.parameters.length) = some 0 := by decide +kernel
theorem hd_X5_lesson : yX5_lesson.cls = RX5 ∧ yX5_lesson.cls ≠ "java/lang/invoke/MethodHandle" ∧ yX5_lesson.cls ≠ "java/lang/invoke/VarHandle" ∧ (parseMethodDescriptor yX5_lesson.desc).map (fun d => d.parameters.length) = some 3 := by decide +kernel
theorem hd_X5_pass : yX5_pass.cls = RX5 ∧ yX5_pass.cls ≠ "java/lang/invoke/MethodHandle" ∧ yX5_pass.cls ≠ "java/lang/invoke/VarHandle" ∧ (parseMethodDescriptor yX5_pass.desc).map (fun d => d.parameters.length) = some 1 := by decide +kernel
theorem hd_X5_reason : yX5_reason.cls = RX5 ∧ yX5_reason.cls ≠ "java/lang/invoke/MethodHandle" ∧ yX5_reason.cls ≠ "java/lang/invoke/VarHandle" ∧ (parseMethodDescriptor yX5_reason.desc).map (fun d => d.parameters.length) = some 2 := by decide +kernel
theorem hd_X5_restore : yX5_restore.cls = RX5 ∧ yX5_restore.cls ≠ "java/lang/invoke/MethodHandle" ∧ yX5_restore.cls ≠ "java/lang/invoke/VarHandle" ∧ (parseMethodDescriptor yX5_restore.desc).map (fun d => d.parameters.length) = some 0 := by decide +kernel
theorem hd_X5_rider : yX5_rider.cls = RX5 ∧ yX5_rider.cls ≠ "java/lang/invoke/MethodHandle" ∧ yX5_rider.cls ≠ "java/lang/invoke/VarHandle" ∧ (parseMethodDescriptor yX5_rider.desc).map (fun d => d.parameters.length) = some 2 := by decide +kernel
theorem hd_X5_set : yX5_set.cls = RX5 ∧ yX5_set.cls ≠ "java/lang/invoke/MethodHandle" ∧ yX5_set.cls ≠ "java/lang/invoke/VarHandle" ∧ (parseMethodDescriptor yX5_set.desc).map (fun d => d.parameters.length) = some 2 := by decide +kernel
theorem hd_X5_setHorse : yX5_setHorse.cls = RX5 ∧ yX5_setHorse.cls ≠ "java/lang/invoke/MethodHandle" ∧ yX5_setHorse.cls ≠ "java/lang/invoke/VarHandle" ∧ (parseMethodDescriptor yX5_setHorse.desc).map (fun d => d.parameters.length) = some 3 := by decide +kernel
theorem hd_X5_setRider : yX5_setRider.cls = RX5 ∧ yX5_setRider.cls ≠ "java/lang/invoke/MethodHandle" ∧ yX5_setRider.cls ≠ "java/lang/invoke/VarHandle" ∧ (parseMethodDescriptor yX5_setRider.desc).map (fun d => d.parameters.length) = some 3 := by decide +kernel
theorem hd_X5_takenIn : yX5_takenIn.cls = RX5 ∧ yX5_takenIn.cls ≠ "java/lang/invoke/MethodHandle" ∧ yX5_takenIn.cls ≠ "java/lang/invoke/VarHandle" ∧ (parseMethodDescriptor yX5_takenIn.desc).map (fun d => d.parameters.length) = some 2 := by decide +kernel
theorem hd_X5_type : yX5_type.cls = RX5 ∧ yX5_type.cls ≠ "java/lang/invoke/MethodHandle" ∧ yX5_type.cls ≠ "java/lang/invoke/VarHandle" ∧ (parseMethodDescriptor yX5_type.desc).map (fun d => d.parameters.length) = some 1 := by decide +kernel
theorem hd_X5_undo : yX5_undo.cls = RX5 ∧ yX5_undo.cls ≠ "java/lang/invoke/MethodHandle" ∧ yX5_undo.cls ≠ "java/lang/invoke/VarHandle" ∧ (parseMethodDescriptor yX5_undo.desc).map (fun d => d.parameters.length) = some 0 := by decide +kernel
theorem hd_X0_init : yX0_init.cls = RX0 ∧ yX0_init.cls ≠ "java/lang/invoke/MethodHandle" ∧ yX0_init.cls ≠ "java/lang/invoke/VarHandle" ∧ (parseMethodDescriptor yX0_init.desc).map (fun d => d.parameters.length) = some 0 := by decide +kernel
theorem hd_X0_record : yX0_record.cls = RX0 ∧ yX0_record.cls ≠ "java/lang/invoke/MethodHandle" ∧ yX0_record.cls ≠ "java/lang/invoke/VarHandle" ∧ (parseMethodDescriptor yX0_record.desc).map (fun d => d.parameters.length) = some 1 := by decide +kernel
theorem hd_X0_size : yX0_size.cls = RX0 ∧ yX0_size.cls ≠ "java/lang/invoke/MethodHandle" ∧ yX0_size.cls ≠ "java/lang/invoke/VarHandle" ∧ (parseMethodDescriptor yX0_size.desc).map (fun d => d.parameters.length) = some 0 := by decide +kernel
theorem hd_X0_stateAt : yX0_stateAt.cls = RX0 ∧ yX0_stateAt.cls ≠ "java/lang/invoke/MethodHandle" ∧ yX0_stateAt.cls ≠ "java/lang/invoke/VarHandle" ∧ (parseMethodDescriptor yX0_stateAt.desc).map (fun d => d.parameters.length) = some 1 := by decide +kernel
theorem hd_X0_takeBack : yX0_takeBack.cls = RX0 ∧ yX0_takeBack.cls ≠ "java/lang/invoke/MethodHandle" ∧ yX0_takeBack.cls ≠ "java/lang/invoke/VarHandle" ∧ (parseMethodDescriptor yX0_takeBack.desc).map (fun d => d.parameters.length) = some 1 := by decide +kernel
theorem hd_X1_init : yX1_init.cls = RX1 ∧ yX1_init.cls ≠ "java/lang/invoke/MethodHandle" ∧ yX1_init.cls ≠ "java/lang/invoke/VarHandle" ∧ (parseMethodDescriptor yX1_init.desc).map (fun d => d.parameters.length) = some 0 := by decide +kernel
theorem hd_X1_accepts : yX1_accepts.cls = RX1 ∧ yX1_accepts.cls ≠ "java/lang/invoke/MethodHandle" ∧ yX1_accepts.cls ≠ "java/lang/invoke/VarHandle" ∧ (parseMethodDescriptor yX1_accepts.desc).map (fun d => d.parameters.length) = some 1 := by decide +kernel
theorem hd_X1_acceptsDigit : yX1_acceptsDigit.cls = RX1 ∧ yX1_acceptsDigit.cls ≠ "java/lang/invoke/MethodHandle" ∧ yX1_acceptsDigit.cls ≠ "java/lang/invoke/VarHandle" ∧ (parseMethodDescriptor yX1_acceptsDigit.desc).map (fun d => d.parameters.length) = some 1 := by decide +kernel
theorem hd_X1_acceptsSignBehindNumber : yX1_acceptsSignBehindNumber.cls = RX1 ∧ yX1_acceptsSignBehindNumber.cls ≠ "java/lang/invoke/MethodHandle" ∧ yX1_acceptsSignBehindNumber.cls ≠ "java/lang/invoke/VarHandle" ∧ (parseMethodDescriptor yX1_acceptsSignBehindNumber.desc).map (fun d => d.parameters.length) = some 1 := by decide +kernel
theorem hd_X1_acceptsStart : yX1_acceptsStart.cls = RX1 ∧ yX1_acceptsStart.cls ≠ "java/lang/invoke/MethodHandle" ∧ yX1_acceptsStart.cls ≠ "java/lang/invoke/VarHandle" ∧ (parseMethodDescriptor yX1_acceptsStart.desc).map (fun d => d.parameters.length) = some 0 := by decide +kernel
theorem hd_X1_addEntry : yX1_addEntry.cls = RX1 ∧ yX1_addEntry.cls ≠ "java/lang/invoke/MethodHandle" ∧ yX1_addEntry.cls ≠ "java/lang/invoke/VarHandle" ∧ (parseMethodDescriptor yX1_addEntry.desc).map (fun d => d.parameters.length) = some 0 := by decide +kernel
theorem hd_X1_hoursAt : yX1_hoursAt.cls = RX1 ∧ yX1_hoursAt.cls ≠ "java/lang/invoke/MethodHandle" ∧ yX1_hoursAt.cls ≠ "java/lang/invoke/VarHandle" ∧ (parseMethodDescriptor yX1_hoursAt.desc).map (fun d => d.parameters.length) = some 1 := by decide +kernel
theorem hd_X1_moveTo : yX1_moveTo.cls = RX1 ∧ yX1_moveTo.cls ≠ "java/lang/invoke/MethodHandle" ∧ yX1_moveTo.cls ≠ "java/lang/invoke/VarHandle" ∧ (parseMethodDescriptor yX1_moveTo.desc).map (fun d => d.parameters.length) = some 1 := by decide +kernel
theorem hd_X1_read : yX1_read.cls = RX1 ∧ yX1_read.cls ≠ "java/lang/invoke/MethodHandle" ∧ yX1_read.cls ≠ "java/lang/invoke/VarHandle" ∧ (parseMethodDescriptor yX1_read.desc).map (fun d => d.parameters.length) = some 1 := by decide +kernel
theorem hd_X1_riderAt : yX1_riderAt.cls = RX1 ∧ yX1_riderAt.cls ≠ "java/lang/invoke/MethodHandle" ∧ yX1_riderAt.cls ≠ "java/lang/invoke/VarHandle" ∧ (parseMethodDescriptor yX1_riderAt.desc).map (fun d => d.parameters.length) = some 1 := by decide +kernel
theorem hd_X1_ringAt : yX1_ringAt.cls = RX1 ∧ yX1_ringAt.cls ≠ "java/lang/invoke/MethodHandle" ∧ yX1_ringAt.cls ≠ "java/lang/invoke/VarHandle" ∧ (parseMethodDescriptor yX1_ringAt.desc).map (fun d => d.parameters.length) = some 1 := by decide +kernel
theorem hd_X1_size : yX1_size.cls = RX1 ∧ yX1_size.cls ≠ "java/lang/invoke/MethodHandle" ∧ yX1_size.cls ≠ "java/lang/invoke/VarHandle" ∧ (parseMethodDescriptor yX1_size.desc).map (fun d => d.parameters.length) = some 0 := by decide +kernel
theorem hd_X2_init : yX2_init.cls = RX2 ∧ yX2_init.cls ≠ "java/lang/invoke/MethodHandle" ∧ yX2_init.cls ≠ "java/lang/invoke/VarHandle" ∧ (parseMethodDescriptor yX2_init.desc).map (fun d => d.parameters.length) = some 0 := by decide +kernel
theorem hd_X2_abilityOf : yX2_abilityOf.cls = RX2 ∧ yX2_abilityOf.cls ≠ "java/lang/invoke/MethodHandle" ∧ yX2_abilityOf.cls ≠ "java/lang/invoke/VarHandle" ∧ (parseMethodDescriptor yX2_abilityOf.desc).map (fun d => d.parameters.length) = some 1 := by decide +kernel
theorem hd_X2_addBooking : yX2_addBooking.cls = RX2 ∧ yX2_addBooking.cls ≠ "java/lang/invoke/MethodHandle" ∧ yX2_addBooking.cls ≠ "java/lang/invoke/VarHandle" ∧ (parseMethodDescriptor yX2_addBooking.desc).map (fun d => d.parameters.length) = some 3 := by decide +kernel
theorem hd_X2_bestHorse : yX2_bestHorse.cls = RX2 ∧ yX2_bestHorse.cls ≠ "java/lang/invoke/MethodHandle" ∧ yX2_bestHorse.cls ≠ "java/lang/invoke/VarHandle" ∧ (parseMethodDescriptor yX2_bestHorse.desc).map (fun d => d.parameters.length) = some 3 := by decide +kernel
theorem hd_X2_bookedFor : yX2_bookedFor.cls = RX2 ∧ yX2_bookedFor.cls ≠ "java/lang/invoke/MethodHandle" ∧ yX2_bookedFor.cls ≠ "java/lang/invoke/VarHandle" ∧ (parseMethodDescriptor yX2_bookedFor.desc).map (fun d => d.parameters.length) = some 2 := by decide +kernel
theorem hd_X2_bookedInAllRings : yX2_bookedInAllRings.cls = RX2 ∧ yX2_bookedInAllRings.cls ≠ "java/lang/invoke/MethodHandle" ∧ yX2_bookedInAllRings.cls ≠ "java/lang/invoke/VarHandle" ∧ (parseMethodDescriptor yX2_bookedInAllRings.desc).map (fun d => d.parameters.length) = some 1 := by decide +kernel
theorem hd_X2_bookingError : yX2_bookingError.cls = RX2 ∧ yX2_bookingError.cls ≠ "java/lang/invoke/MethodHandle" ∧ yX2_bookingError.cls ≠ "java/lang/invoke/VarHandle" ∧ (parseMethodDescriptor yX2_bookingError.desc).map (fun d => d.parameters.length) = some 3 := by decide +kernel
theorem hd_X2_bookingsOf : yX2_bookingsOf.cls = RX2 ∧ yX2_bookingsOf.cls ≠ "java/lang/invoke/MethodHandle" ∧ yX2_bookingsOf.cls ≠ "java/lang/invoke/VarHandle" ∧ (parseMethodDescriptor yX2_bookingsOf.desc).map (fun d => d.parameters.length) = some 1 := by decide +kernel
theorem hd_X2_bookingsWaiting : yX2_bookingsWaiting.cls = RX2 ∧ yX2_bookingsWaiting.cls ≠ "java/lang/invoke/MethodHandle" ∧ yX2_bookingsWaiting.cls ≠ "java/lang/invoke/VarHandle" ∧ (parseMethodDescriptor yX2_bookingsWaiting.desc).map (fun d => d.parameters.length) = some 0 := by decide +kernel
theorem hd_X2_changeHorse : yX2_changeHorse.cls = RX2 ∧ yX2_changeHorse.cls ≠ "java/lang/invoke/MethodHandle" ∧ yX2_changeHorse.cls ≠ "java/lang/invoke/VarHandle" ∧ (parseMethodDescriptor yX2_changeHorse.desc).map (fun d => d.parameters.length) = some 3 := by decide +kernel
theorem hd_X2_changeRider : yX2_changeRider.cls = RX2 ∧ yX2_changeRider.cls ≠ "java/lang/invoke/MethodHandle" ∧ yX2_changeRider.cls ≠ "java/lang/invoke/VarHandle" ∧ (parseMethodDescriptor yX2_changeRider.desc).map (fun d => d.parameters.length) = some 3 := by decide +kernel
theorem hd_X2_changeSetting : yX2_changeSetting.cls = RX2 ∧ yX2_changeSetting.cls ≠ "java/lang/invoke/MethodHandle" ∧ yX2_changeSetting.cls ≠ "java/lang/invoke/VarHandle" ∧ (parseMethodDescriptor yX2_changeSetting.desc).map (fun d => d.parameters.length) = some 2 := by decide +kernel
theorem hd_X2_copyFrom : yX2_copyFrom.cls = RX2 ∧ yX2_copyFrom.cls ≠ "java/lang/invoke/MethodHandle" ∧ yX2_copyFrom.cls ≠ "java/lang/invoke/VarHandle" ∧ (parseMethodDescriptor yX2_copyFrom.desc).map (fun d => d.parameters.length) = some 1 := by decide +kernel
theorem hd_X2_fallsSoFar : yX2_fallsSoFar.cls = RX2 ∧ yX2_fallsSoFar.cls ≠ "java/lang/invoke/MethodHandle" ∧ yX2_fallsSoFar.cls ≠ "java/lang/invoke/VarHandle" ∧ (parseMethodDescriptor yX2_fallsSoFar.desc).map (fun d => d.parameters.length) = some 0 := by decide +kernel
theorem hd_X2_farriersHorse : yX2_farriersHorse.cls = RX2 ∧ yX2_farriersHorse.cls ≠ "java/lang/invoke/MethodHandle" ∧ yX2_farriersHorse.cls ≠ "java/lang/invoke/VarHandle" ∧ (parseMethodDescriptor yX2_farriersHorse.desc).map (fun d => d.parameters.length) = some 0 := by decide +kernel
theorem hd_X2_findBooking : yX2_findBooking.cls = RX2 ∧ yX2_findBooking.cls ≠ "java/lang/invoke/MethodHandle" ∧ yX2_findBooking.cls ≠ "java/lang/invoke/VarHandle" ∧ (parseMethodDescriptor yX2_findBooking.desc).map (fun d => d.parameters.length) = some 2 := by decide +kernel
theorem hd_X2_giveLesson : yX2_giveLesson.cls = RX2 ∧ yX2_giveLesson.cls ≠ "java/lang/invoke/MethodHandle" ∧ yX2_giveLesson.cls ≠ "java/lang/invoke/VarHandle" ∧ (parseMethodDescriptor yX2_giveLesson.desc).map (fun d => d.parameters.length) = some 3 := by decide +kernel
theorem hd_X2_giveLessons : yX2_giveLessons.cls = RX2 ∧ yX2_giveLessons.cls ≠ "java/lang/invoke/MethodHandle" ∧ yX2_giveLessons.cls ≠ "java/lang/invoke/VarHandle" ∧ (parseMethodDescriptor yX2_giveLessons.desc).map (fun d => d.parameters.length) = some 1 := by decide +kernel
theorem hd_X2_hindrance : yX2_hindrance.cls = RX2 ∧ yX2_hindrance.cls ≠ "java/lang/invoke/MethodHandle" ∧ yX2_hindrance.cls ≠ "java/lang/invoke/VarHandle" ∧ (parseMethodDescriptor yX2_hindrance.desc).map (fun d => d.parameters.length) = some 3 := by decide +kernel
theorem hd_X2_isBetter : yX2_isBetter.cls = RX2 ∧ yX2_isBetter.cls ≠ "java/lang/invoke/MethodHandle" ∧ yX2_isBetter.cls ≠ "java/lang/invoke/VarHandle" ∧ (parseMethodDescriptor yX2_isBetter.desc).map (fun d => d.parameters.length) = some 3 := by decide +kernel
theorem hd_X2_isBooked : yX2_isBooked.cls = RX2 ∧ yX2_isBooked.cls ≠ "java/lang/invoke/MethodHandle" ∧ yX2_isBooked.cls ≠ "java/lang/invoke/VarHandle" ∧ (parseMethodDescriptor yX2_isBooked.desc).map (fun d => d.parameters.length) = some 2 := by decide +kernel
theorem hd_X2_isBooked_ : yX2_isBooked_.cls = RX2 ∧ yX2_isBooked_.cls ≠ "java/lang/invoke/MethodHandle" ∧ yX2_isBooked_.cls ≠ "java/lang/invoke/VarHandle" ∧ (parseMethodDescriptor yX2_isBooked_.desc).map (fun d => d.parameters.length) = some 3 := by decide +kernel
theorem hd_X2_isFarrierThere : yX2_isFarrierThere.cls = RX2 ∧ yX2_isFarrierThere.cls ≠ "java/lang/invoke/MethodHandle" ∧ yX2_isFarrierThere.cls ≠ "java/lang/invoke/VarHandle" ∧ (parseMethodDescriptor yX2_isFarrierThere.desc).map (fun d => d.parameters.length) = some 0 := by decide +kernel
theorem hd_X2_lameHorses : yX2_lameHorses.cls = RX2 ∧ yX2_lameHorses.cls ≠ "java/lang/invoke/MethodHandle" ∧ yX2_lameHorses.cls ≠ "java/lang/invoke/VarHandle" ∧ (parseMethodDescriptor yX2_lameHorses.desc).map (fun d => d.parameters.length) = some 0 := by decide +kernel
theorem hd_X2_letFall : yX2_letFall.cls = RX2 ∧ yX2_letFall.cls ≠ "java/lang/invoke/MethodHandle" ∧ yX2_letFall.cls ≠ "java/lang/invoke/VarHandle" ∧ (parseMethodDescriptor yX2_letFall.desc).map (fun d => d.parameters.length) = some 2 := by decide +kernel
theorem hd_X2_letLearn : yX2_letLearn.cls = RX2 ∧ yX2_letLearn.cls ≠ "java/lang/invoke/MethodHandle" ∧ yX2_letLearn.cls ≠ "java/lang/invoke/VarHandle" ∧ (parseMethodDescriptor yX2_letLearn.desc).map (fun d => d.parameters.length) = some 1 := by decide +kernel
theorem hd_X2_ofFall : yX2_ofFall.cls = RX2 ∧ yX2_ofFall.cls ≠ "java/lang/invoke/MethodHandle" ∧ yX2_ofFall.cls ≠ "java/lang/invoke/VarHandle" ∧ (parseMethodDescriptor yX2_ofFall.desc).map (fun d => d.parameters.length) = some 2 := by decide +kernel
theorem hd_X2_ofHorse : yX2_ofHorse.cls = RX2 ∧ yX2_ofHorse.cls ≠ "java/lang/invoke/MethodHandle" ∧ yX2_ofHorse.cls ≠ "java/lang/invoke/VarHandle" ∧ (parseMethodDescriptor yX2_ofHorse.desc).map (fun d => d.parameters.length) = some 2 := by decide +kernel
theorem hd_X2_ofRider : yX2_ofRider.cls = RX2 ∧ yX2_ofRider.cls ≠ "java/lang/invoke/MethodHandle" ∧ yX2_ofRider.cls ≠ "java/lang/invoke/VarHandle" ∧ (parseMethodDescriptor yX2_ofRider.desc).map (fun d => d.parameters.length) = some 2 := by decide +kernel
theorem hd_X2_passHour : yX2_passHour.cls = RX2 ∧ yX2_passHour.cls ≠ "java/lang/invoke/MethodHandle" ∧ yX2_passHour.cls ≠ "java/lang/invoke/VarHandle" ∧ (parseMethodDescriptor yX2_passHour.desc).map (fun d => d.parameters.length) = some 1 := by decide +kernel
theorem hd_X2_removeBooking : yX2_removeBooking.cls = RX2 ∧ yX2_removeBooking.cls ≠ "java/lang/invoke/MethodHandle" ∧ yX2_removeBooking.cls ≠ "java/lang/invoke/VarHandle" ∧ (parseMethodDescriptor yX2_removeBooking.desc).map (fun d => d.parameters.length) = some 1 := by decide +kernel
theorem hd_X2_ringOfBooking : yX2_ringOfBooking.cls = RX2 ∧ yX2_ringOfBooking.cls ≠ "java/lang/invoke/MethodHandle" ∧ yX2_ringOfBooking.cls ≠ "java/lang/invoke/VarHandle" ∧ (parseMethodDescriptor yX2_ringOfBooking.desc).map (fun d => d.parameters.length) = some 1 := by decide +kernel
theorem hd_X2_setOfRiders : yX2_setOfRiders.cls = RX2 ∧ yX2_setOfRiders.cls ≠ "java/lang/invoke/MethodHandle" ∧ yX2_setOfRiders.cls ≠ "java/lang/invoke/VarHandle" ∧ (parseMethodDescriptor yX2_setOfRiders.desc).map (fun d => d.parameters.length) = some 2 := by decide +kernel
theorem hd_X2_setting : yX2_setting.cls = RX2 ∧ yX2_setting.cls ≠ "java/lang/invoke/MethodHandle" ∧ yX2_setting.cls ≠ "java/lang/invoke/VarHandle" ∧ (parseMethodDescriptor yX2_setting.desc).map (fun d => d.parameters.length) = some 1 := by decide +kernel
theorem hd_X2_strain : yX2_strain.cls = RX2 ∧ yX2_strain.cls ≠ "java/lang/invoke/MethodHandle" ∧ yX2_strain.cls ≠ "java/lang/invoke/VarHandle" ∧ (parseMethodDescriptor yX2_strain.desc).map (fun d => d.parameters.length) = some 2 := by decide +kernel
theorem hd_X2_sumOfHorses : yX2_sumOfHorses.cls = RX2 ∧ yX2_sumOfHorses.cls ≠ "java/lang/invoke/MethodHandle" ∧ yX2_sumOfHorses.cls ≠ "java/lang/invoke/VarHandle" ∧ (parseMethodDescriptor yX2_sumOfHorses.desc).map (fun d => d.parameters.length) = some 1 := by decide +kernel
theorem hd_X2_sumOfRiders : yX2_sumOfRiders.cls = RX2 ∧ yX2_sumOfRiders.cls ≠ "java/lang/invoke/MethodHandle" ∧ yX2_sumOfRiders.cls ≠ "java/lang/invoke/VarHandle" ∧ (parseMethodDescriptor yX2_sumOfRiders.desc).map (fun d => d.parameters.length) = some 1 := by decide +kernel
theorem hd_X2_time : yX2_time.cls = RX2 ∧ yX2_time.cls ≠ "java/lang/invoke/MethodHandle" ∧ yX2_time.cls ≠ "java/lang/invoke/VarHandle" ∧ (parseMethodDescriptor yX2_time.desc).map (fun d => d.parameters.length) = some 0 := by decide +kernel
theorem hd_X3_init : yX3_init.cls = RX3 ∧ yX3_init.cls ≠ "java/lang/invoke/MethodHandle" ∧ yX3_init.cls ≠ "java/lang/invoke/VarHandle" ∧ (parseMethodDescriptor yX3_init.desc).map (fun d => d.parameters.length) = some 2 := by decide +kernel
theorem hd_X3_add : yX3_add.cls = RX3 ∧ yX3_add.cls ≠ "java/lang/invoke/MethodHandle" ∧ yX3_add.cls ≠ "java/lang/invoke/VarHandle" ∧ (parseMethodDescriptor yX3_add.desc).map (fun d => d.parameters.length) = some 3 := by decide +kernel
theorem hd_X3_addUpTo : yX3_addUpTo.cls = RX3 ∧ yX3_addUpTo.cls ≠ "java/lang/invoke/MethodHandle" ∧ yX3_addUpTo.cls ≠ "java/lang/invoke/VarHandle" ∧ (parseMethodDescriptor yX3_addUpTo.desc).map (fun d => d.parameters.length) = some 3 := by decide +kernel
theorem hd_X3_at : yX3_at.cls = RX3 ∧ yX3_at.cls ≠ "java/lang/invoke/MethodHandle" ∧ yX3_at.cls ≠ "java/lang/invoke/VarHandle" ∧ (parseMethodDescriptor yX3_at.desc).map (fun d => d.parameters.length) = some 2 := by decide +kernel
theorem hd_X3_copyFrom : yX3_copyFrom.cls = RX3 ∧ yX3_copyFrom.cls ≠ "java/lang/invoke/MethodHandle" ∧ yX3_copyFrom.cls ≠ "java/lang/invoke/VarHandle" ∧ (parseMethodDescriptor yX3_copyFrom.desc).map (fun d => d.parameters.length) = some 1 := by decide +kernel
theorem hd_X3_moveColumn : yX3_moveColumn.cls = RX3 ∧ yX3_moveColumn.cls ≠ "java/lang/invoke/MethodHandle" ∧ yX3_moveColumn.cls ≠ "java/lang/invoke/VarHandle" ∧ (parseMethodDescriptor yX3_moveColumn.desc).map (fun d => d.parameters.length) = some 3 := by decide +kernel
theorem hd_X3_put : yX3_put.cls = RX3 ∧ yX3_put.cls ≠ "java/lang/invoke/MethodHandle" ∧ yX3_put.cls ≠ "java/lang/invoke/VarHandle" ∧ (parseMethodDescriptor yX3_put.desc).map (fun d => d.parameters.length) = some 3 := by decide +kernel
theorem hd_X3_sum : yX3_sum.cls = RX3 ∧ yX3_sum.cls ≠ "java/lang/invoke/MethodHandle" ∧ yX3_sum.cls ≠ "java/lang/invoke/VarHandle" ∧ (parseMethodDescriptor yX3_sum.desc).map (fun d => d.parameters.length) = some 1 := by decide +kernel
theorem hd_X3_takeAway : yX3_takeAway.cls = RX3 ∧ yX3_takeAway.cls ≠ "java/lang/invoke/MethodHandle" ∧ yX3_takeAway.cls ≠ "java/lang/invoke/VarHandle" ∧ (parseMethodDescriptor yX3_takeAway.desc).map (fun d => d.parameters.length) = some 3 := by decide +kernel
theorem hd_X4_init : yX4_init.cls = RX4 ∧ yX4_init.cls ≠ "java/lang/invoke/MethodHandle" ∧ yX4_init.cls ≠ "java/lang/invoke/VarHandle" ∧ (parseMethodDescriptor yX4_init.desc).map (fun d => d.parameters.length) = some 0 := by decide +kernel
theorem hd_X4_append : yX4_append.cls = RX4 ∧ yX4_append.cls ≠ "java/lang/invoke/MethodHandle" ∧ yX4_append.cls ≠ "java/lang/invoke/VarHandle" ∧ (parseMethodDescriptor yX4_append.desc).map (fun d => d.parameters.length) = some 1 := by decide +kernel
theorem hd_X4_characterAt : yX4_characterAt.cls = RX4 ∧ yX4_characterAt.cls ≠ "java/lang/invoke/MethodHandle" ∧ yX4_characterAt.cls ≠ "java/lang/invoke/VarHandle" ∧ (parseMethodDescriptor yX4_characterAt.desc).map (fun d => d.parameters.length) = some 1 := by decide +kernel
theorem hd_X4_empty : yX4_empty.cls = RX4 ∧ yX4_empty.cls ≠ "java/lang/invoke/MethodHandle" ∧ yX4_empty.cls ≠ "java/lang/invoke/VarHandle" ∧ (parseMethodDescriptor yX4_empty.desc).map (fun d => d.parameters.length) = some 0 := by decide +kernel
theorem hd_X4_length : yX4_length.cls = RX4 ∧ yX4_length.cls ≠ "java/lang/invoke/MethodHandle" ∧ yX4_length.cls ≠ "java/lang/invoke/VarHandle" ∧ (parseMethodDescriptor yX4_length.desc).map (fun d => d.parameters.length) = some 0 := by decide +kernel
theorem hd_X6_init : yX6_init.cls = RX6 ∧ yX6_init.cls ≠ "java/lang/invoke/MethodHandle" ∧ yX6_init.cls ≠ "java/lang/invoke/VarHandle" ∧ (parseMethodDescriptor yX6_init.desc).map (fun d => d.parameters.length) = some 0 := by decide +kernel
theorem hd_X6_best : yX6_best.cls = RX6 ∧ yX6_best.cls ≠ "java/lang/invoke/MethodHandle" ∧ yX6_best.cls ≠ "java/lang/invoke/VarHandle" ∧ (parseMethodDescriptor yX6_best.desc).map (fun d => d.parameters.length) = some 1 := by decide +kernel
theorem hd_X6_bestFor : yX6_bestFor.cls = RX6 ∧ yX6_bestFor.cls ≠ "java/lang/invoke/MethodHandle" ∧ yX6_bestFor.cls ≠ "java/lang/invoke/VarHandle" ∧ (parseMethodDescriptor yX6_bestFor.desc).map (fun d => d.parameters.length) = some 2 := by decide +kernel
theorem hd_X6_book : yX6_book.cls = RX6 ∧ yX6_book.cls ≠ "java/lang/invoke/MethodHandle" ∧ yX6_book.cls ≠ "java/lang/invoke/VarHandle" ∧ (parseMethodDescriptor yX6_book.desc).map (fun d => d.parameters.length) = some 3 := by decide +kernel
theorem hd_X6_bookPlan : yX6_bookPlan.cls = RX6 ∧ yX6_bookPlan.cls ≠ "java/lang/invoke/MethodHandle" ∧ yX6_bookPlan.cls ≠ "java/lang/invoke/VarHandle" ∧ (parseMethodDescriptor yX6_bookPlan.desc).map (fun d => d.parameters.length) = some 0 := by decide +kernel
theorem hd_X6_bookedFor : yX6_bookedFor.cls = RX6 ∧ yX6_bookedFor.cls ≠ "java/lang/invoke/MethodHandle" ∧ yX6_bookedFor.cls ≠ "java/lang/invoke/VarHandle" ∧ (parseMethodDescriptor yX6_bookedFor.desc).map (fun d => d.parameters.length) = some 2 := by decide +kernel
theorem hd_X6_bookingOf : yX6_bookingOf.cls = RX6 ∧ yX6_bookingOf.cls ≠ "java/lang/invoke/MethodHandle" ∧ yX6_bookingOf.cls ≠ "java/lang/invoke/VarHandle" ∧ (parseMethodDescriptor yX6_bookingOf.desc).map (fun d => d.parameters.length) = some 2 := by decide +kernel
theorem hd_X6_bookingsOf : yX6_bookingsOf.cls = RX6 ∧ yX6_bookingsOf.cls ≠ "java/lang/invoke/MethodHandle" ∧ yX6_bookingsOf.cls ≠ "java/lang/invoke/VarHandle" ∧ (parseMethodDescriptor yX6_bookingsOf.desc).map (fun d => d.parameters.length) = some 1 := by decide +kernel
theorem hd_X6_books : yX6_books.cls = RX6 ∧ yX6_books.cls ≠ "java/lang/invoke/MethodHandle" ∧ yX6_books.cls ≠ "java/lang/invoke/VarHandle" ∧ (parseMethodDescriptor yX6_books.desc).map (fun d => d.parameters.length) = some 3 := by decide +kernel
theorem hd_X6_busiest : yX6_busiest.cls = RX6 ∧ yX6_busiest.cls ≠ "java/lang/invoke/MethodHandle" ∧ yX6_busiest.cls ≠ "java/lang/invoke/VarHandle" ∧ (parseMethodDescriptor yX6_busiest.desc).map (fun d => d.parameters.length) = some 0 := by decide +kernel
theorem hd_X6_can : yX6_can.cls = RX6 ∧ yX6_can.cls ≠ "java/lang/invoke/MethodHandle" ∧ yX6_can.cls ≠ "java/lang/invoke/VarHandle" ∧ (parseMethodDescriptor yX6_can.desc).map (fun d => d.parameters.length) = some 1 := by decide +kernel
theorem hd_X6_cancel : yX6_cancel.cls = RX6 ∧ yX6_cancel.cls ≠ "java/lang/invoke/MethodHandle" ∧ yX6_cancel.cls ≠ "java/lang/invoke/VarHandle" ∧ (parseMethodDescriptor yX6_cancel.desc).map (fun d => d.parameters.length) = some 2 := by decide +kernel
theorem hd_X6_clearText : yX6_clearText.cls = RX6 ∧ yX6_clearText.cls ≠ "java/lang/invoke/MethodHandle" ∧ yX6_clearText.cls ≠ "java/lang/invoke/VarHandle" ∧ (parseMethodDescriptor yX6_clearText.desc).map (fun d => d.parameters.length) = some 0 := by decide +kernel
theorem hd_X6_count : yX6_count.cls = RX6 ∧ yX6_count.cls ≠ "java/lang/invoke/MethodHandle" ∧ yX6_count.cls ≠ "java/lang/invoke/VarHandle" ∧ (parseMethodDescriptor yX6_count.desc).map (fun d => d.parameters.length) = some 1 := by decide +kernel
theorem hd_X6_fall : yX6_fall.cls = RX6 ∧ yX6_fall.cls ≠ "java/lang/invoke/MethodHandle" ∧ yX6_fall.cls ≠ "java/lang/invoke/VarHandle" ∧ (parseMethodDescriptor yX6_fall.desc).map (fun d => d.parameters.length) = some 2 := by decide +kernel
theorem hd_X6_falls : yX6_falls.cls = RX6 ∧ yX6_falls.cls ≠ "java/lang/invoke/MethodHandle" ∧ yX6_falls.cls ≠ "java/lang/invoke/VarHandle" ∧ (parseMethodDescriptor yX6_falls.desc).map (fun d => d.parameters.length) = some 2 := by decide +kernel
theorem hd_X6_frees : yX6_frees.cls = RX6 ∧ yX6_frees.cls ≠ "java/lang/invoke/MethodHandle" ∧ yX6_frees.cls ≠ "java/lang/invoke/VarHandle" ∧ (parseMethodDescriptor yX6_frees.desc).map (fun d => d.parameters.length) = some 0 := by decide +kernel
theorem hd_X6_gives : yX6_gives.cls = RX6 ∧ yX6_gives.cls ≠ "java/lang/invoke/MethodHandle" ∧ yX6_gives.cls ≠ "java/lang/invoke/VarHandle" ∧ (parseMethodDescriptor yX6_gives.desc).map (fun d => d.parameters.length) = some 1 := by decide +kernel
theorem hd_X6_hindrance : yX6_hindrance.cls = RX6 ∧ yX6_hindrance.cls ≠ "java/lang/invoke/MethodHandle" ∧ yX6_hindrance.cls ≠ "java/lang/invoke/VarHandle" ∧ (parseMethodDescriptor yX6_hindrance.desc).map (fun d => d.parameters.length) = some 3 := by decide +kernel
theorem hd_X6_horse : yX6_horse.cls = RX6 ∧ yX6_horse.cls ≠ "java/lang/invoke/MethodHandle" ∧ yX6_horse.cls ≠ "java/lang/invoke/VarHandle" ∧ (parseMethodDescriptor yX6_horse.desc).map (fun d => d.parameters.length) = some 2 := by decide +kernel
theorem hd_X6_hour : yX6_hour.cls = RX6 ∧ yX6_hour.cls ≠ "java/lang/invoke/MethodHandle" ∧ yX6_hour.cls ≠ "java/lang/invoke/VarHandle" ∧ (parseMethodDescriptor yX6_hour.desc).map (fun d => d.parameters.length) = some 1 := by decide +kernel
theorem hd_X6_ifPassed : yX6_ifPassed.cls = RX6 ∧ yX6_ifPassed.cls ≠ "java/lang/invoke/MethodHandle" ∧ yX6_ifPassed.cls ≠ "java/lang/invoke/VarHandle" ∧ (parseMethodDescriptor yX6_ifPassed.desc).map (fun d => d.parameters.length) = some 2 := by decide +kernel
theorem hd_X6_in : yX6_in.cls = RX6 ∧ yX6_in.cls ≠ "java/lang/invoke/MethodHandle" ∧ yX6_in.cls ≠ "java/lang/invoke/VarHandle" ∧ (parseMethodDescriptor yX6_in.desc).map (fun d => d.parameters.length) = some 3 := by decide +kernel
theorem hd_X6_isAhead : yX6_isAhead.cls = RX6 ∧ yX6_isAhead.cls ≠ "java/lang/invoke/MethodHandle" ∧ yX6_isAhead.cls ≠ "java/lang/invoke/VarHandle" ∧ (parseMethodDescriptor yX6_isAhead.desc).map (fun d => d.parameters.length) = some 1 := by decide +kernel
theorem hd_X6_isBetter : yX6_isBetter.cls = RX6 ∧ yX6_isBetter.cls ≠ "java/lang/invoke/MethodHandle" ∧ yX6_isBetter.cls ≠ "java/lang/invoke/VarHandle" ∧ (parseMethodDescriptor yX6_isBetter.desc).map (fun d => d.parameters.length) = some 3 := by decide +kernel
theorem hd_X6_isFarrierThere : yX6_isFarrierThere.cls = RX6 ∧ yX6_isFarrierThere.cls ≠ "java/lang/invoke/MethodHandle" ∧ yX6_isFarrierThere.cls ≠ "java/lang/invoke/VarHandle" ∧ (parseMethodDescriptor yX6_isFarrierThere.desc).map (fun d => d.parameters.length) = some 0 := by decide +kernel
theorem hd_X6_isHorse : yX6_isHorse.cls = RX6 ∧ yX6_isHorse.cls ≠ "java/lang/invoke/MethodHandle" ∧ yX6_isHorse.cls ≠ "java/lang/invoke/VarHandle" ∧ (parseMethodDescriptor yX6_isHorse.desc).map (fun d => d.parameters.length) = some 1 := by decide +kernel
theorem hd_X6_isNext : yX6_isNext.cls = RX6 ∧ yX6_isNext.cls ≠ "java/lang/invoke/MethodHandle" ∧ yX6_isNext.cls ≠ "java/lang/invoke/VarHandle" ∧ (parseMethodDescriptor yX6_isNext.desc).map (fun d => d.parameters.length) = some 2 := by decide +kernel
theorem hd_X6_isRider : yX6_isRider.cls = RX6 ∧ yX6_isRider.cls ≠ "java/lang/invoke/MethodHandle" ∧ yX6_isRider.cls ≠ "java/lang/invoke/VarHandle" ∧ (parseMethodDescriptor yX6_isRider.desc).map (fun d => d.parameters.length) = some 1 := by decide +kernel
theorem hd_X6_isRing : yX6_isRing.cls = RX6 ∧ yX6_isRing.cls ≠ "java/lang/invoke/MethodHandle" ∧ yX6_isRing.cls ≠ "java/lang/invoke/VarHandle" ∧ (parseMethodDescriptor yX6_isRing.desc).map (fun d => d.parameters.length) = some 1 := by decide +kernel
theorem hd_X6_keep : yX6_keep.cls = RX6 ∧ yX6_keep.cls ≠ "java/lang/invoke/MethodHandle" ∧ yX6_keep.cls ≠ "java/lang/invoke/VarHandle" ∧ (parseMethodDescriptor yX6_keep.desc).map (fun d => d.parameters.length) = some 0 := by decide +kernel
theorem hd_X6_lameHorses : yX6_lameHorses.cls = RX6 ∧ yX6_lameHorses.cls ≠ "java/lang/invoke/MethodHandle" ∧ yX6_lameHorses.cls ≠ "java/lang/invoke/VarHandle" ∧ (parseMethodDescriptor yX6_lameHorses.desc).map (fun d => d.parameters.length) = some 0 := by decide +kernel
theorem hd_X6_learns : yX6_learns.cls = RX6 ∧ yX6_learns.cls ≠ "java/lang/invoke/MethodHandle" ∧ yX6_learns.cls ≠ "java/lang/invoke/VarHandle" ∧ (parseMethodDescriptor yX6_learns.desc).map (fun d => d.parameters.length) = some 1 := by decide +kernel
theorem hd_X6_least : yX6_least.cls = RX6 ∧ yX6_least.cls ≠ "java/lang/invoke/MethodHandle" ∧ yX6_least.cls ≠ "java/lang/invoke/VarHandle" ∧ (parseMethodDescriptor yX6_least.desc).map (fun d => d.parameters.length) = some 1 := by decide +kernel
theorem hd_X6_lesson : yX6_lesson.cls = RX6 ∧ yX6_lesson.cls ≠ "java/lang/invoke/MethodHandle" ∧ yX6_lesson.cls ≠ "java/lang/invoke/VarHandle" ∧ (parseMethodDescriptor yX6_lesson.desc).map (fun d => d.parameters.length) = some 3 := by decide +kernel
theorem hd_X6_most : yX6_most.cls = RX6 ∧ yX6_most.cls ≠ "java/lang/invoke/MethodHandle" ∧ yX6_most.cls ≠ "java/lang/invoke/VarHandle" ∧ (parseMethodDescriptor yX6_most.desc).map (fun d => d.parameters.length) = some 1 := by decide +kernel
theorem hd_X6_needs : yX6_needs.cls = RX6 ∧ yX6_needs.cls ≠ "java/lang/invoke/MethodHandle" ∧ yX6_needs.cls ≠ "java/lang/invoke/VarHandle" ∧ (parseMethodDescriptor yX6_needs.desc).map (fun d => d.parameters.length) = some 1 := by decide +kernel
theorem hd_X6_number : yX6_number.cls = RX6 ∧ yX6_number.cls ≠ "java/lang/invoke/MethodHandle" ∧ yX6_number.cls ≠ "java/lang/invoke/VarHandle" ∧ (parseMethodDescriptor yX6_number.desc).map (fun d => d.parameters.length) = some 1 := by decide +kernel
theorem hd_X6_of : yX6_of.cls = RX6 ∧ yX6_of.cls ≠ "java/lang/invoke/MethodHandle" ∧ yX6_of.cls ≠ "java/lang/invoke/VarHandle" ∧ (parseMethodDescriptor yX6_of.desc).map (fun d => d.parameters.length) = some 2 := by decide +kernel
theorem hd_X6_ofBooking : yX6_ofBooking.cls = RX6 ∧ yX6_ofBooking.cls ≠ "java/lang/invoke/MethodHandle" ∧ yX6_ofBooking.cls ≠ "java/lang/invoke/VarHandle" ∧ (parseMethodDescriptor yX6_ofBooking.desc).map (fun d => d.parameters.length) = some 2 := by decide +kernel
theorem hd_X6_ofRider : yX6_ofRider.cls = RX6 ∧ yX6_ofRider.cls ≠ "java/lang/invoke/MethodHandle" ∧ yX6_ofRider.cls ≠ "java/lang/invoke/VarHandle" ∧ (parseMethodDescriptor yX6_ofRider.desc).map (fun d => d.parameters.length) = some 2 := by decide +kernel
theorem hd_X6_pass : yX6_pass.cls = RX6 ∧ yX6_pass.cls ≠ "java/lang/invoke/MethodHandle" ∧ yX6_pass.cls ≠ "java/lang/invoke/VarHandle" ∧ (parseMethodDescriptor yX6_pass.desc).map (fun d => d.parameters.length) = some 1 := by decide +kernel
theorem hd_X6_putAside : yX6_putAside.cls = RX6 ∧ yX6_putAside.cls ≠ "java/lang/invoke/MethodHandle" ∧ yX6_putAside.cls ≠ "java/lang/invoke/VarHandle" ∧ (parseMethodDescriptor yX6_putAside.desc).map (fun d => d.parameters.length) = some 0 := by decide +kernel
theorem hd_X6_putBack : yX6_putBack.cls = RX6 ∧ yX6_putBack.cls ≠ "java/lang/invoke/MethodHandle" ∧ yX6_putBack.cls ≠ "java/lang/invoke/VarHandle" ∧ (parseMethodDescriptor yX6_putBack.desc).map (fun d => d.parameters.length) = some 0 := by decide +kernel
theorem hd_X6_reads : yX6_reads.cls = RX6 ∧ yX6_reads.cls ≠ "java/lang/invoke/MethodHandle" ∧ yX6_reads.cls ≠ "java/lang/invoke/VarHandle" ∧ (parseMethodDescriptor yX6_reads.desc).map (fun d => d.parameters.length) = some 3 := by decide +kernel
theorem hd_X6_readsBooking : yX6_readsBooking.cls = RX6 ∧ yX6_readsBooking.cls ≠ "java/lang/invoke/MethodHandle" ∧ yX6_readsBooking.cls ≠ "java/lang/invoke/VarHandle" ∧ (parseMethodDescriptor yX6_readsBooking.desc).map (fun d => d.parameters.length) = some 1 := by decide +kernel
theorem hd_X6_readsPlan : yX6_readsPlan.cls = RX6 ∧ yX6_readsPlan.cls ≠ "java/lang/invoke/MethodHandle" ∧ yX6_readsPlan.cls ≠ "java/lang/invoke/VarHandle" ∧ (parseMethodDescriptor yX6_readsPlan.desc).map (fun d => d.parameters.length) = some 1 := by decide +kernel
theorem hd_X6_reason : yX6_reason.cls = RX6 ∧ yX6_reason.cls ≠ "java/lang/invoke/MethodHandle" ∧ yX6_reason.cls ≠ "java/lang/invoke/VarHandle" ∧ (parseMethodDescriptor yX6_reason.desc).map (fun d => d.parameters.length) = some 2 := by decide +kernel
theorem hd_X6_record : yX6_record.cls = RX6 ∧ yX6_record.cls ≠ "java/lang/invoke/MethodHandle" ∧ yX6_record.cls ≠ "java/lang/invoke/VarHandle" ∧ (parseMethodDescriptor yX6_record.desc).map (fun d => d.parameters.length) = some 0 := by decide +kernel
theorem hd_X6_recordAside : yX6_recordAside.cls = RX6 ∧ yX6_recordAside.cls ≠ "java/lang/invoke/MethodHandle" ∧ yX6_recordAside.cls ≠ "java/lang/invoke/VarHandle" ∧ (parseMethodDescriptor yX6_recordAside.desc).map (fun d => d.parameters.length) = some 0 := by decide +kernel
theorem hd_X6_restore : yX6_restore.cls = RX6 ∧ yX6_restore.cls ≠ "java/lang/invoke/MethodHandle" ∧ yX6_restore.cls ≠ "java/lang/invoke/VarHandle" ∧ (parseMethodDescriptor yX6_restore.desc).map (fun d => d.parameters.length) = some 0 := by decide +kernel
theorem hd_X6_rests : yX6_rests.cls = RX6 ∧ yX6_rests.cls ≠ "java/lang/invoke/MethodHandle" ∧ yX6_rests.cls ≠ "java/lang/invoke/VarHandle" ∧ (parseMethodDescriptor yX6_rests.desc).map (fun d => d.parameters.length) = some 2 := by decide +kernel
theorem hd_X6_rider : yX6_rider.cls = RX6 ∧ yX6_rider.cls ≠ "java/lang/invoke/MethodHandle" ∧ yX6_rider.cls ≠ "java/lang/invoke/VarHandle" ∧ (parseMethodDescriptor yX6_rider.desc).map (fun d => d.parameters.length) = some 2 := by decide +kernel
theorem hd_X6_ridersFor : yX6_ridersFor.cls = RX6 ∧ yX6_ridersFor.cls ≠ "java/lang/invoke/MethodHandle" ∧ yX6_ridersFor.cls ≠ "java/lang/invoke/VarHandle" ∧ (parseMethodDescriptor yX6_ridersFor.desc).map (fun d => d.parameters.length) = some 2 := by decide +kernel
theorem hd_X6_rides : yX6_rides.cls = RX6 ∧ yX6_rides.cls ≠ "java/lang/invoke/MethodHandle" ∧ yX6_rides.cls ≠ "java/lang/invoke/VarHandle" ∧ (parseMethodDescriptor yX6_rides.desc).map (fun d => d.parameters.length) = some 2 := by decide +kernel
theorem hd_X6_set : yX6_set.cls = RX6 ∧ yX6_set.cls ≠ "java/lang/invoke/MethodHandle" ∧ yX6_set.cls ≠ "java/lang/invoke/VarHandle" ∧ (parseMethodDescriptor yX6_set.desc).map (fun d => d.parameters.length) = some 2 := by decide +kernel
theorem hd_X6_setHorse : yX6_setHorse.cls = RX6 ∧ yX6_setHorse.cls ≠ "java/lang/invoke/MethodHandle" ∧ yX6_setHorse.cls ≠ "java/lang/invoke/VarHandle" ∧ (parseMethodDescriptor yX6_setHorse.desc).map (fun d => d.parameters.length) = some 3 := by decide +kernel
theorem hd_X6_setRider : yX6_setRider.cls = RX6 ∧ yX6_setRider.cls ≠ "java/lang/invoke/MethodHandle" ∧ yX6_setRider.cls ≠ "java/lang/invoke/VarHandle" ∧ (parseMethodDescriptor yX6_setRider.desc).map (fun d => d.parameters.length) = some 3 := by decide +kernel
theorem hd_X6_shodHorse : yX6_shodHorse.cls = RX6 ∧ yX6_shodHorse.cls ≠ "java/lang/invoke/MethodHandle" ∧ yX6_shodHorse.cls ≠ "java/lang/invoke/VarHandle" ∧ (parseMethodDescriptor yX6_shodHorse.desc).map (fun d => d.parameters.length) = some 0 := by decide +kernel
theorem hd_X6_strains : yX6_strains.cls = RX6 ∧ yX6_strains.cls ≠ "java/lang/invoke/MethodHandle" ∧ yX6_strains.cls ≠ "java/lang/invoke/VarHandle" ∧ (parseMethodDescriptor yX6_strains.desc).map (fun d => d.parameters.length) = some 1 := by decide +kernel
theorem hd_X6_takenIn : yX6_takenIn.cls = RX6 ∧ yX6_takenIn.cls ≠ "java/lang/invoke/MethodHandle" ∧ yX6_takenIn.cls ≠ "java/lang/invoke/VarHandle" ∧ (parseMethodDescriptor yX6_takenIn.desc).map (fun d => d.parameters.length) = some 2 := by decide +kernel
theorem hd_X6_tiredness : yX6_tiredness.cls = RX6 ∧ yX6_tiredness.cls ≠ "java/lang/invoke/MethodHandle" ∧ yX6_tiredness.cls ≠ "java/lang/invoke/VarHandle" ∧ (parseMethodDescriptor yX6_tiredness.desc).map (fun d => d.parameters.length) = some 0 := by decide +kernel
theorem hd_X6_type : yX6_type.cls = RX6 ∧ yX6_type.cls ≠ "java/lang/invoke/MethodHandle" ∧ yX6_type.cls ≠ "java/lang/invoke/VarHandle" ∧ (parseMethodDescriptor yX6_type.desc).map (fun d => d.parameters.length) = some 1 := by decide +kernel
theorem hd_X6_undo : yX6_undo.cls = RX6 ∧ yX6_undo.cls ≠ "java/lang/invoke/MethodHandle" ∧ yX6_undo.cls ≠ "java/lang/invoke/VarHandle" ∧ (parseMethodDescriptor yX6_undo.desc).map (fun d => d.parameters.length) = some 0 := by decide +kernel
theorem layX0 : ∀ w ∈ u_ws RX0 TX0 3, w ∈ wsG := show ∀ w ∈ ([u_lay RX0 TX0 0, u_lay RX0 TX0 1, u_lay RX0 TX0 2] : List Cond), w ∈ wsG from List.forall_mem_cons.mpr ⟨ly_X0_states, List.forall_mem_cons.mpr ⟨ly_X0_next, List.forall_mem_cons.mpr ⟨ly_X0_size, List.forall_mem_nil _⟩⟩⟩
theorem layX1 : ∀ w ∈ u_ws RX1 TX1 6, w ∈ wsG := show ∀ w ∈ ([u_lay RX1 TX1 0, u_lay RX1 TX1 1, u_lay RX1 TX1 2, u_lay RX1 TX1 3, u_lay RX1 TX1 4, u_lay RX1 TX1 5] : List Cond), w ∈ wsG from List.forall_mem_cons.mpr ⟨ly_X1_entries, List.forall_mem_cons.mpr ⟨ly_X1_size, List.forall_mem_cons.mpr ⟨ly_X1_place, List.forall_mem_cons.mpr ⟨ly_X1_number, List.forall_mem_cons.mpr ⟨ly_X1_hours, List.forall_mem_cons.mpr ⟨ly_X1_ring, List.forall_mem_nil _⟩⟩⟩⟩⟩⟩
theorem layX2 : ∀ w ∈ u_ws RX2 TX2 8, w ∈ wsG := show ∀ w ∈ ([u_lay RX2 TX2 0, u_lay RX2 TX2 1, u_lay RX2 TX2 2, u_lay RX2 TX2 3, u_lay RX2 TX2 4, u_lay RX2 TX2 5, u_lay RX2 TX2 6, u_lay RX2 TX2 7] : List Cond), w ∈ wsG from List.forall_mem_cons.mpr ⟨ly_X2_time, List.forall_mem_cons.mpr ⟨ly_X2_settings, List.forall_mem_cons.mpr ⟨ly_X2_horses, List.forall_mem_cons.mpr ⟨ly_X2_riders, List.forall_mem_cons.mpr ⟨ly_X2_bookings, List.forall_mem_cons.mpr ⟨ly_X2_bookingCount, List.forall_mem_cons.mpr ⟨ly_X2_falls, List.forall_mem_cons.mpr ⟨ly_X2_fallCount, List.forall_mem_nil _⟩⟩⟩⟩⟩⟩⟩⟩
theorem layX3 : ∀ w ∈ u_ws RX3 TX3 2, w ∈ wsG := show ∀ w ∈ ([u_lay RX3 TX3 0, u_lay RX3 TX3 1] : List Cond), w ∈ wsG from List.forall_mem_cons.mpr ⟨ly_X3_width, List.forall_mem_cons.mpr ⟨ly_X3_cells, List.forall_mem_nil _⟩⟩
theorem layX4 : ∀ w ∈ u_ws RX4 TX4 2, w ∈ wsG := show ∀ w ∈ ([u_lay RX4 TX4 0, u_lay RX4 TX4 1] : List Cond), w ∈ wsG from List.forall_mem_cons.mpr ⟨ly_X4_characters, List.forall_mem_cons.mpr ⟨ly_X4_length, List.forall_mem_nil _⟩⟩
theorem layX5 : ∀ w ∈ u_ws RX5 TX5 7, w ∈ wsG := show ∀ w ∈ ([u_lay RX5 TX5 0, u_lay RX5 TX5 1, u_lay RX5 TX5 2, u_lay RX5 TX5 3, u_lay RX5 TX5 4, u_lay RX5 TX5 5, u_lay RX5 TX5 6] : List Cond), w ∈ wsG from List.forall_mem_cons.mpr ⟨ly_X5_now, List.forall_mem_cons.mpr ⟨ly_X5_ahead, List.forall_mem_cons.mpr ⟨ly_X5_snapshot, List.forall_mem_cons.mpr ⟨ly_X5_hasSnapshot, List.forall_mem_cons.mpr ⟨ly_X5_history, List.forall_mem_cons.mpr ⟨ly_X5_text, List.forall_mem_cons.mpr ⟨ly_X5_plan, List.forall_mem_nil _⟩⟩⟩⟩⟩⟩⟩
theorem layX6 : ∀ w ∈ u_ws RX6 TX6 14, w ∈ wsG := show ∀ w ∈ ([u_lay RX6 TX6 0, u_lay RX6 TX6 1, u_lay RX6 TX6 2, u_lay RX6 TX6 3, u_lay RX6 TX6 4, u_lay RX6 TX6 5, u_lay RX6 TX6 6, u_lay RX6 TX6 7, u_lay RX6 TX6 8, u_lay RX6 TX6 9, u_lay RX6 TX6 10, u_lay RX6 TX6 11, u_lay RX6 TX6 12, u_lay RX6 TX6 13] : List Cond), w ∈ wsG from List.forall_mem_cons.mpr ⟨ly_X6_s, List.forall_mem_cons.mpr ⟨ly_X6_aside, List.forall_mem_cons.mpr ⟨ly_X6_history, List.forall_mem_cons.mpr ⟨ly_X6_known, List.forall_mem_cons.mpr ⟨ly_X6_snapshot, List.forall_mem_cons.mpr ⟨ly_X6_isKept, List.forall_mem_cons.mpr ⟨ly_X6_text, List.forall_mem_cons.mpr ⟨ly_X6_length, List.forall_mem_cons.mpr ⟨ly_X6_isTaken, List.forall_mem_cons.mpr ⟨ly_X6_wasLame, List.forall_mem_cons.mpr ⟨ly_X6_spot, List.forall_mem_cons.mpr ⟨ly_X6_isWrong, List.forall_mem_cons.mpr ⟨ly_X6_riders, List.forall_mem_cons.mpr ⟨ly_X6_error, List.forall_mem_nil _⟩⟩⟩⟩⟩⟩⟩⟩⟩⟩⟩⟩⟩⟩
end
section
theorem dX0_init_0 : decode cX0_init 0 = .ok (.aload_n 0, 1) := by decide +kernel
theorem dX0_init_1 : decode cX0_init 1 = .ok (.invokespecial 3, 3) := by decide +kernel
theorem dX0_init_4 : decode cX0_init 4 = .ok (.aload_n 0, 1) := by decide +kernel
theorem dX0_init_5 : decode cX0_init 5 = .ok (.iconst 4, 1) := by decide +kernel
theorem dX0_init_6 : decode cX0_init 6 = .ok (.anewarray 9, 3) := by decide +kernel
theorem dX0_init_9 : decode cX0_init 9 = .ok (.putfield 11, 3) := by decide +kernel
theorem dX0_init_12 : decode cX0_init 12 = .ok (.iconst 0, 1) := by decide +kernel
theorem dX0_init_13 : decode cX0_init 13 = .ok (.istore_n 1, 1) := by decide +kernel
theorem dX0_init_14 : decode cX0_init 14 = .ok (.iload_n 1, 1) := by decide +kernel
theorem dX0_init_15 : decode cX0_init 15 = .ok (.aload_n 0, 1) := by decide +kernel
theorem dX0_init_16 : decode cX0_init 16 = .ok (.getfield 11, 3) := by decide +kernel
theorem dX0_init_19 : decode cX0_init 19 = .ok (.arraylength, 1) := by decide +kernel
theorem dX0_init_20 : decode cX0_init 20 = .ok (.if_icmp .ge 22, 3) := by decide +kernel
theorem dX0_init_23 : decode cX0_init 23 = .ok (.aload_n 0, 1) := by decide +kernel
theorem dX0_init_24 : decode cX0_init 24 = .ok (.getfield 11, 3) := by decide +kernel
theorem dX0_init_27 : decode cX0_init 27 = .ok (.iload_n 1, 1) := by decide +kernel
theorem dX0_init_28 : decode cX0_init 28 = .ok (.new 9, 3) := by decide +kernel
theorem dX0_init_31 : decode cX0_init 31 = .ok (.dup, 1) := by decide +kernel
theorem dX0_init_32 : decode cX0_init 32 = .ok (.invokespecial 17, 3) := by decide +kernel
theorem dX0_init_35 : decode cX0_init 35 = .ok (.aastore, 1) := by decide +kernel
theorem dX0_init_36 : decode cX0_init 36 = .ok (.iinc 1 1, 3) := by decide +kernel
theorem dX0_init_39 : decode cX0_init 39 = .ok (.goto (-25), 3) := by decide +kernel
theorem dX0_init_42 : decode cX0_init 42 = .ok (.return_, 1) := by decide +kernel
theorem dX0_size_0 : decode cX0_size 0 = .ok (.aload_n 0, 1) := by decide +kernel
theorem dX0_size_1 : decode cX0_size 1 = .ok (.getfield 18, 3) := by decide +kernel
theorem dX0_size_4 : decode cX0_size 4 = .ok (.ireturn, 1) := by decide +kernel
theorem dX0_stateAt_0 : decode cX0_stateAt 0 = .ok (.iload_n 1, 1) := by decide +kernel
theorem dX0_stateAt_1 : decode cX0_stateAt 1 = .ok (.ifCond .lt 21, 3) := by decide +kernel
theorem dX0_stateAt_4 : decode cX0_stateAt 4 = .ok (.iload_n 1, 1) := by decide +kernel
theorem dX0_stateAt_5 : decode cX0_stateAt 5 = .ok (.aload_n 0, 1) := by decide +kernel
theorem dX0_stateAt_6 : decode cX0_stateAt 6 = .ok (.getfield 11, 3) := by decide +kernel
theorem dX0_stateAt_9 : decode cX0_stateAt 9 = .ok (.arraylength, 1) := by decide +kernel
theorem dX0_stateAt_10 : decode cX0_stateAt 10 = .ok (.if_icmp .ge 12, 3) := by decide +kernel
theorem dX0_stateAt_13 : decode cX0_stateAt 13 = .ok (.aload_n 0, 1) := by decide +kernel
theorem dX0_stateAt_14 : decode cX0_stateAt 14 = .ok (.getfield 11, 3) := by decide +kernel
theorem dX0_stateAt_17 : decode cX0_stateAt 17 = .ok (.iload_n 1, 1) := by decide +kernel
theorem dX0_stateAt_18 : decode cX0_stateAt 18 = .ok (.aaload, 1) := by decide +kernel
theorem dX0_stateAt_19 : decode cX0_stateAt 19 = .ok (.goto 4, 3) := by decide +kernel
theorem dX0_stateAt_22 : decode cX0_stateAt 22 = .ok (.aconst_null, 1) := by decide +kernel
theorem dX0_stateAt_23 : decode cX0_stateAt 23 = .ok (.areturn, 1) := by decide +kernel
theorem dX0_record_0 : decode cX0_record 0 = .ok (.aload_n 0, 1) := by decide +kernel
theorem dX0_record_1 : decode cX0_record 1 = .ok (.aload_n 0, 1) := by decide +kernel
theorem dX0_record_2 : decode cX0_record 2 = .ok (.getfield 22, 3) := by decide +kernel
theorem dX0_record_5 : decode cX0_record 5 = .ok (.invokevirtual 25, 3) := by decide +kernel
theorem dX0_record_8 : decode cX0_record 8 = .ok (.astore_n 2, 1) := by decide +kernel
theorem dX0_record_9 : decode cX0_record 9 = .ok (.aload_n 2, 1) := by decide +kernel
theorem dX0_record_10 : decode cX0_record 10 = .ok (.ifnull 8, 3) := by decide +kernel
theorem dX0_record_13 : decode cX0_record 13 = .ok (.aload_n 2, 1) := by decide +kernel
theorem dX0_record_14 : decode cX0_record 14 = .ok (.aload_n 1, 1) := by decide +kernel
theorem dX0_record_15 : decode cX0_record 15 = .ok (.invokevirtual 29, 3) := by decide +kernel
theorem dX0_record_18 : decode cX0_record 18 = .ok (.aload_n 0, 1) := by decide +kernel
theorem dX0_record_19 : decode cX0_record 19 = .ok (.aload_n 0, 1) := by decide +kernel
theorem dX0_record_20 : decode cX0_record 20 = .ok (.getfield 22, 3) := by decide +kernel
theorem dX0_record_23 : decode cX0_record 23 = .ok (.iconst 1, 1) := by decide +kernel
theorem dX0_record_24 : decode cX0_record 24 = .ok (.iadd, 1) := by decide +kernel
theorem dX0_record_25 : decode cX0_record 25 = .ok (.iconst 4, 1) := by decide +kernel
theorem dX0_record_26 : decode cX0_record 26 = .ok (.irem, 1) := by decide +kernel
theorem dX0_record_27 : decode cX0_record 27 = .ok (.putfield 22, 3) := by decide +kernel
theorem dX0_record_30 : decode cX0_record 30 = .ok (.aload_n 0, 1) := by decide +kernel
theorem dX0_record_31 : decode cX0_record 31 = .ok (.aload_n 0, 1) := by decide +kernel
theorem dX0_record_32 : decode cX0_record 32 = .ok (.getfield 18, 3) := by decide +kernel
theorem dX0_record_35 : decode cX0_record 35 = .ok (.iconst 1, 1) := by decide +kernel
theorem dX0_record_36 : decode cX0_record 36 = .ok (.iadd, 1) := by decide +kernel
theorem dX0_record_37 : decode cX0_record 37 = .ok (.iconst 4, 1) := by decide +kernel
theorem dX0_record_38 : decode cX0_record 38 = .ok (.invokestatic 33, 3) := by decide +kernel
theorem dX0_record_41 : decode cX0_record 41 = .ok (.putfield 18, 3) := by decide +kernel
theorem dX0_record_44 : decode cX0_record 44 = .ok (.return_, 1) := by decide +kernel
theorem dX0_takeBack_0 : decode cX0_takeBack 0 = .ok (.aload_n 0, 1) := by decide +kernel
theorem dX0_takeBack_1 : decode cX0_takeBack 1 = .ok (.aload_n 0, 1) := by decide +kernel
theorem dX0_takeBack_2 : decode cX0_takeBack 2 = .ok (.getfield 22, 3) := by decide +kernel
theorem dX0_takeBack_5 : decode cX0_takeBack 5 = .ok (.iconst 4, 1) := by decide +kernel
theorem dX0_takeBack_6 : decode cX0_takeBack 6 = .ok (.iadd, 1) := by decide +kernel
theorem dX0_takeBack_7 : decode cX0_takeBack 7 = .ok (.iconst 1, 1) := by decide +kernel
theorem dX0_takeBack_8 : decode cX0_takeBack 8 = .ok (.isub, 1) := by decide +kernel
theorem dX0_takeBack_9 : decode cX0_takeBack 9 = .ok (.iconst 4, 1) := by decide +kernel
theorem dX0_takeBack_10 : decode cX0_takeBack 10 = .ok (.irem, 1) := by decide +kernel
theorem dX0_takeBack_11 : decode cX0_takeBack 11 = .ok (.putfield 22, 3) := by decide +kernel
theorem dX0_takeBack_14 : decode cX0_takeBack 14 = .ok (.aload_n 0, 1) := by decide +kernel
theorem dX0_takeBack_15 : decode cX0_takeBack 15 = .ok (.aload_n 0, 1) := by decide +kernel
theorem dX0_takeBack_16 : decode cX0_takeBack 16 = .ok (.getfield 18, 3) := by decide +kernel
theorem dX0_takeBack_19 : decode cX0_takeBack 19 = .ok (.iconst 1, 1) := by decide +kernel
theorem dX0_takeBack_20 : decode cX0_takeBack 20 = .ok (.isub, 1) := by decide +kernel
theorem dX0_takeBack_21 : decode cX0_takeBack 21 = .ok (.iconst 0, 1) := by decide +kernel
theorem dX0_takeBack_22 : decode cX0_takeBack 22 = .ok (.invokestatic 39, 3) := by decide +kernel
theorem dX0_takeBack_25 : decode cX0_takeBack 25 = .ok (.putfield 18, 3) := by decide +kernel
theorem dX0_takeBack_28 : decode cX0_takeBack 28 = .ok (.aload_n 0, 1) := by decide +kernel
theorem dX0_takeBack_29 : decode cX0_takeBack 29 = .ok (.aload_n 0, 1) := by decide +kernel
theorem dX0_takeBack_30 : decode cX0_takeBack 30 = .ok (.getfield 22, 3) := by decide +kernel
theorem dX0_takeBack_33 : decode cX0_takeBack 33 = .ok (.invokevirtual 25, 3) := by decide +kernel
theorem dX0_takeBack_36 : decode cX0_takeBack 36 = .ok (.astore_n 2, 1) := by decide +kernel
theorem dX0_takeBack_37 : decode cX0_takeBack 37 = .ok (.aload_n 2, 1) := by decide +kernel
theorem dX0_takeBack_38 : decode cX0_takeBack 38 = .ok (.ifnull 8, 3) := by decide +kernel
theorem dX0_takeBack_41 : decode cX0_takeBack 41 = .ok (.aload_n 1, 1) := by decide +kernel
theorem dX0_takeBack_42 : decode cX0_takeBack 42 = .ok (.aload_n 2, 1) := by decide +kernel
theorem dX0_takeBack_43 : decode cX0_takeBack 43 = .ok (.invokevirtual 29, 3) := by decide +kernel
theorem dX0_takeBack_46 : decode cX0_takeBack 46 = .ok (.return_, 1) := by decide +kernel
theorem dX1_init_0 : decode cX1_init 0 = .ok (.aload_n 0, 1) := by decide +kernel
theorem dX1_init_1 : decode cX1_init 1 = .ok (.invokespecial 3, 3) := by decide +kernel
theorem dX1_init_4 : decode cX1_init 4 = .ok (.aload_n 0, 1) := by decide +kernel
theorem dX1_init_5 : decode cX1_init 5 = .ok (.new 9, 3) := by decide +kernel
theorem dX1_init_8 : decode cX1_init 8 = .ok (.dup, 1) := by decide +kernel
theorem dX1_init_9 : decode cX1_init 9 = .ok (.iconst 3, 1) := by decide +kernel
theorem dX1_init_10 : decode cX1_init 10 = .ok (.bipush 60, 2) := by decide +kernel
theorem dX1_init_12 : decode cX1_init 12 = .ok (.invokespecial 13, 3) := by decide +kernel
theorem dX1_init_15 : decode cX1_init 15 = .ok (.putfield 16, 3) := by decide +kernel
theorem dX1_init_18 : decode cX1_init 18 = .ok (.return_, 1) := by decide +kernel
theorem dX1_size_0 : decode cX1_size 0 = .ok (.aload_n 0, 1) := by decide +kernel
theorem dX1_size_1 : decode cX1_size 1 = .ok (.getfield 20, 3) := by decide +kernel
theorem dX1_size_4 : decode cX1_size 4 = .ok (.ireturn, 1) := by decide +kernel
theorem dX1_hoursAt_0 : decode cX1_hoursAt 0 = .ok (.aload_n 0, 1) := by decide +kernel
theorem dX1_hoursAt_1 : decode cX1_hoursAt 1 = .ok (.getfield 16, 3) := by decide +kernel
theorem dX1_hoursAt_4 : decode cX1_hoursAt 4 = .ok (.iconst 0, 1) := by decide +kernel
theorem dX1_hoursAt_5 : decode cX1_hoursAt 5 = .ok (.iload_n 1, 1) := by decide +kernel
theorem dX1_hoursAt_6 : decode cX1_hoursAt 6 = .ok (.invokevirtual 24, 3) := by decide +kernel
theorem dX1_hoursAt_9 : decode cX1_hoursAt 9 = .ok (.ireturn, 1) := by decide +kernel
theorem dX1_ringAt_0 : decode cX1_ringAt 0 = .ok (.aload_n 0, 1) := by decide +kernel
theorem dX1_ringAt_1 : decode cX1_ringAt 1 = .ok (.getfield 16, 3) := by decide +kernel
theorem dX1_ringAt_4 : decode cX1_ringAt 4 = .ok (.iconst 1, 1) := by decide +kernel
theorem dX1_ringAt_5 : decode cX1_ringAt 5 = .ok (.iload_n 1, 1) := by decide +kernel
theorem dX1_ringAt_6 : decode cX1_ringAt 6 = .ok (.invokevirtual 24, 3) := by decide +kernel
theorem dX1_ringAt_9 : decode cX1_ringAt 9 = .ok (.ireturn, 1) := by decide +kernel
theorem dX1_riderAt_0 : decode cX1_riderAt 0 = .ok (.aload_n 0, 1) := by decide +kernel
theorem dX1_riderAt_1 : decode cX1_riderAt 1 = .ok (.getfield 16, 3) := by decide +kernel
theorem dX1_riderAt_4 : decode cX1_riderAt 4 = .ok (.iconst 2, 1) := by decide +kernel
theorem dX1_riderAt_5 : decode cX1_riderAt 5 = .ok (.iload_n 1, 1) := by decide +kernel
theorem dX1_riderAt_6 : decode cX1_riderAt 6 = .ok (.invokevirtual 24, 3) := by decide +kernel
theorem dX1_riderAt_9 : decode cX1_riderAt 9 = .ok (.ireturn, 1) := by decide +kernel
theorem dX1_read_0 : decode cX1_read 0 = .ok (.aload_n 0, 1) := by decide +kernel
theorem dX1_read_1 : decode cX1_read 1 = .ok (.iconst 0, 1) := by decide +kernel
theorem dX1_read_2 : decode cX1_read 2 = .ok (.putfield 20, 3) := by decide +kernel
theorem dX1_read_5 : decode cX1_read 5 = .ok (.aload_n 0, 1) := by decide +kernel
theorem dX1_read_6 : decode cX1_read 6 = .ok (.iconst 0, 1) := by decide +kernel
theorem dX1_read_7 : decode cX1_read 7 = .ok (.invokevirtual 28, 3) := by decide +kernel
theorem dX1_read_10 : decode cX1_read 10 = .ok (.iconst 0, 1) := by decide +kernel
theorem dX1_read_11 : decode cX1_read 11 = .ok (.istore_n 2, 1) := by decide +kernel
theorem dX1_read_12 : decode cX1_read 12 = .ok (.iload_n 2, 1) := by decide +kernel
theorem dX1_read_13 : decode cX1_read 13 = .ok (.aload_n 1, 1) := by decide +kernel
theorem dX1_read_14 : decode cX1_read 14 = .ok (.invokevirtual 32, 3) := by decide +kernel
theorem dX1_read_17 : decode cX1_read 17 = .ok (.if_icmp .ge 23, 3) := by decide +kernel
theorem dX1_read_20 : decode cX1_read 20 = .ok (.aload_n 0, 1) := by decide +kernel
theorem dX1_read_21 : decode cX1_read 21 = .ok (.aload_n 1, 1) := by decide +kernel
theorem dX1_read_22 : decode cX1_read 22 = .ok (.iload_n 2, 1) := by decide +kernel
theorem dX1_read_23 : decode cX1_read 23 = .ok (.invokevirtual 38, 3) := by decide +kernel
theorem dX1_read_26 : decode cX1_read 26 = .ok (.invokevirtual 42, 3) := by decide +kernel
theorem dX1_read_29 : decode cX1_read 29 = .ok (.ifCond .ne 5, 3) := by decide +kernel
theorem dX1_read_32 : decode cX1_read 32 = .ok (.iload_n 2, 1) := by decide +kernel
theorem dX1_read_33 : decode cX1_read 33 = .ok (.ireturn, 1) := by decide +kernel
theorem dX1_read_34 : decode cX1_read 34 = .ok (.iinc 2 1, 3) := by decide +kernel
theorem dX1_read_37 : decode cX1_read 37 = .ok (.goto (-25), 3) := by decide +kernel
theorem dX1_read_40 : decode cX1_read 40 = .ok (.aload_n 0, 1) := by decide +kernel
theorem dX1_read_41 : decode cX1_read 41 = .ok (.getfield 46, 3) := by decide +kernel
theorem dX1_read_44 : decode cX1_read 44 = .ok (.iconst 3, 1) := by decide +kernel
theorem dX1_read_45 : decode cX1_read 45 = .ok (.if_icmp .ne 11, 3) := by decide +kernel
theorem dX1_read_48 : decode cX1_read 48 = .ok (.aload_n 0, 1) := by decide +kernel
theorem dX1_read_49 : decode cX1_read 49 = .ok (.getfield 49, 3) := by decide +kernel
theorem dX1_read_52 : decode cX1_read 52 = .ok (.iconst (-1), 1) := by decide +kernel
theorem dX1_read_53 : decode cX1_read 53 = .ok (.if_icmp .ne 8, 3) := by decide +kernel
theorem dX1_read_56 : decode cX1_read 56 = .ok (.aload_n 1, 1) := by decide +kernel
theorem dX1_read_57 : decode cX1_read 57 = .ok (.invokevirtual 32, 3) := by decide +kernel
theorem dX1_read_60 : decode cX1_read 60 = .ok (.ireturn, 1) := by decide +kernel
theorem dX1_read_61 : decode cX1_read 61 = .ok (.aload_n 0, 1) := by decide +kernel
theorem dX1_read_62 : decode cX1_read 62 = .ok (.invokevirtual 52, 3) := by decide +kernel
theorem dX1_read_65 : decode cX1_read 65 = .ok (.bipush (-5), 2) := by decide +kernel
theorem dX1_read_67 : decode cX1_read 67 = .ok (.ireturn, 1) := by decide +kernel
theorem dX1_moveTo_0 : decode cX1_moveTo 0 = .ok (.aload_n 0, 1) := by decide +kernel
theorem dX1_moveTo_1 : decode cX1_moveTo 1 = .ok (.iload_n 1, 1) := by decide +kernel
theorem dX1_moveTo_2 : decode cX1_moveTo 2 = .ok (.putfield 46, 3) := by decide +kernel
theorem dX1_moveTo_5 : decode cX1_moveTo 5 = .ok (.aload_n 0, 1) := by decide +kernel
theorem dX1_moveTo_6 : decode cX1_moveTo 6 = .ok (.iconst (-1), 1) := by decide +kernel
theorem dX1_moveTo_7 : decode cX1_moveTo 7 = .ok (.putfield 49, 3) := by decide +kernel
theorem dX1_moveTo_10 : decode cX1_moveTo 10 = .ok (.return_, 1) := by decide +kernel
theorem dX1_addEntry_0 : decode cX1_addEntry 0 = .ok (.aload_n 0, 1) := by decide +kernel
theorem dX1_addEntry_1 : decode cX1_addEntry 1 = .ok (.getfield 16, 3) := by decide +kernel
theorem dX1_addEntry_4 : decode cX1_addEntry 4 = .ok (.iconst 0, 1) := by decide +kernel
theorem dX1_addEntry_5 : decode cX1_addEntry 5 = .ok (.aload_n 0, 1) := by decide +kernel
theorem dX1_addEntry_6 : decode cX1_addEntry 6 = .ok (.getfield 20, 3) := by decide +kernel
theorem dX1_addEntry_9 : decode cX1_addEntry 9 = .ok (.aload_n 0, 1) := by decide +kernel
theorem dX1_addEntry_10 : decode cX1_addEntry 10 = .ok (.getfield 55, 3) := by decide +kernel
theorem dX1_addEntry_13 : decode cX1_addEntry 13 = .ok (.invokevirtual 58, 3) := by decide +kernel
theorem dX1_addEntry_16 : decode cX1_addEntry 16 = .ok (.aload_n 0, 1) := by decide +kernel
theorem dX1_addEntry_17 : decode cX1_addEntry 17 = .ok (.getfield 16, 3) := by decide +kernel
theorem dX1_addEntry_20 : decode cX1_addEntry 20 = .ok (.iconst 1, 1) := by decide +kernel
theorem dX1_addEntry_21 : decode cX1_addEntry 21 = .ok (.aload_n 0, 1) := by decide +kernel
theorem dX1_addEntry_22 : decode cX1_addEntry 22 = .ok (.getfield 20, 3) := by decide +kernel
theorem dX1_addEntry_25 : decode cX1_addEntry 25 = .ok (.aload_n 0, 1) := by decide +kernel
theorem dX1_addEntry_26 : decode cX1_addEntry 26 = .ok (.getfield 62, 3) := by decide +kernel
theorem dX1_addEntry_29 : decode cX1_addEntry 29 = .ok (.invokevirtual 58, 3) := by decide +kernel
theorem dX1_addEntry_32 : decode cX1_addEntry 32 = .ok (.aload_n 0, 1) := by decide +kernel
theorem dX1_addEntry_33 : decode cX1_addEntry 33 = .ok (.getfield 16, 3) := by decide +kernel
theorem dX1_addEntry_36 : decode cX1_addEntry 36 = .ok (.iconst 2, 1) := by decide +kernel
theorem dX1_addEntry_37 : decode cX1_addEntry 37 = .ok (.aload_n 0, 1) := by decide +kernel
theorem dX1_addEntry_38 : decode cX1_addEntry 38 = .ok (.getfield 20, 3) := by decide +kernel
theorem dX1_addEntry_41 : decode cX1_addEntry 41 = .ok (.aload_n 0, 1) := by decide +kernel
theorem dX1_addEntry_42 : decode cX1_addEntry 42 = .ok (.getfield 49, 3) := by decide +kernel
theorem dX1_addEntry_45 : decode cX1_addEntry 45 = .ok (.invokevirtual 58, 3) := by decide +kernel
theorem dX1_addEntry_48 : decode cX1_addEntry 48 = .ok (.aload_n 0, 1) := by decide +kernel
theorem dX1_addEntry_49 : decode cX1_addEntry 49 = .ok (.aload_n 0, 1) := by decide +kernel
theorem dX1_addEntry_50 : decode cX1_addEntry 50 = .ok (.getfield 20, 3) := by decide +kernel
theorem dX1_addEntry_53 : decode cX1_addEntry 53 = .ok (.iconst 1, 1) := by decide +kernel
theorem dX1_addEntry_54 : decode cX1_addEntry 54 = .ok (.iadd, 1) := by decide +kernel
theorem dX1_addEntry_55 : decode cX1_addEntry 55 = .ok (.bipush 60, 2) := by decide +kernel
theorem dX1_addEntry_57 : decode cX1_addEntry 57 = .ok (.invokestatic 65, 3) := by decide +kernel
theorem dX1_addEntry_60 : decode cX1_addEntry 60 = .ok (.putfield 20, 3) := by decide +kernel
theorem dX1_addEntry_63 : decode cX1_addEntry 63 = .ok (.return_, 1) := by decide +kernel
theorem dX1_accepts_0 : decode cX1_accepts 0 = .ok (.iload_n 1, 1) := by decide +kernel
theorem dX1_accepts_1 : decode cX1_accepts 1 = .ok (.bipush 48, 2) := by decide +kernel
theorem dX1_accepts_3 : decode cX1_accepts 3 = .ok (.if_icmp .lt 18, 3) := by decide +kernel
theorem dX1_accepts_6 : decode cX1_accepts 6 = .ok (.iload_n 1, 1) := by decide +kernel
theorem dX1_accepts_7 : decode cX1_accepts 7 = .ok (.bipush 57, 2) := by decide +kernel
theorem dX1_accepts_9 : decode cX1_accepts 9 = .ok (.if_icmp .gt 12, 3) := by decide +kernel
theorem dX1_accepts_12 : decode cX1_accepts 12 = .ok (.aload_n 0, 1) := by decide +kernel
theorem dX1_accepts_13 : decode cX1_accepts 13 = .ok (.iload_n 1, 1) := by decide +kernel
theorem dX1_accepts_14 : decode cX1_accepts 14 = .ok (.bipush 48, 2) := by decide +kernel
theorem dX1_accepts_16 : decode cX1_accepts 16 = .ok (.isub, 1) := by decide +kernel
theorem dX1_accepts_17 : decode cX1_accepts 17 = .ok (.invokevirtual 70, 3) := by decide +kernel
theorem dX1_accepts_20 : decode cX1_accepts 20 = .ok (.ireturn, 1) := by decide +kernel
theorem dX1_accepts_21 : decode cX1_accepts 21 = .ok (.iload_n 1, 1) := by decide +kernel
theorem dX1_accepts_22 : decode cX1_accepts 22 = .ok (.bipush 43, 2) := by decide +kernel
theorem dX1_accepts_24 : decode cX1_accepts 24 = .ok (.if_icmp .ne 8, 3) := by decide +kernel
theorem dX1_accepts_27 : decode cX1_accepts 27 = .ok (.aload_n 0, 1) := by decide +kernel
theorem dX1_accepts_28 : decode cX1_accepts 28 = .ok (.invokevirtual 74, 3) := by decide +kernel
theorem dX1_accepts_31 : decode cX1_accepts 31 = .ok (.ireturn, 1) := by decide +kernel
theorem dX1_accepts_32 : decode cX1_accepts 32 = .ok (.aload_n 0, 1) := by decide +kernel
theorem dX1_accepts_33 : decode cX1_accepts 33 = .ok (.getfield 49, 3) := by decide +kernel
theorem dX1_accepts_36 : decode cX1_accepts 36 = .ok (.iconst (-1), 1) := by decide +kernel
theorem dX1_accepts_37 : decode cX1_accepts 37 = .ok (.if_icmp .eq 15, 3) := by decide +kernel
theorem dX1_accepts_40 : decode cX1_accepts 40 = .ok (.aload_n 0, 1) := by decide +kernel
theorem dX1_accepts_41 : decode cX1_accepts 41 = .ok (.iload_n 1, 1) := by decide +kernel
theorem dX1_accepts_42 : decode cX1_accepts 42 = .ok (.invokevirtual 78, 3) := by decide +kernel
theorem dX1_accepts_45 : decode cX1_accepts 45 = .ok (.ifCond .eq 7, 3) := by decide +kernel
theorem dX1_accepts_48 : decode cX1_accepts 48 = .ok (.iconst 1, 1) := by decide +kernel
theorem dX1_accepts_49 : decode cX1_accepts 49 = .ok (.goto 4, 3) := by decide +kernel
theorem dX1_accepts_52 : decode cX1_accepts 52 = .ok (.iconst 0, 1) := by decide +kernel
theorem dX1_accepts_53 : decode cX1_accepts 53 = .ok (.ireturn, 1) := by decide +kernel
theorem dX1_acceptsDigit_0 : decode cX1_acceptsDigit 0 = .ok (.aload_n 0, 1) := by decide +kernel
theorem dX1_acceptsDigit_1 : decode cX1_acceptsDigit 1 = .ok (.getfield 49, 3) := by decide +kernel
theorem dX1_acceptsDigit_4 : decode cX1_acceptsDigit 4 = .ok (.ifCond .ne 5, 3) := by decide +kernel
theorem dX1_acceptsDigit_7 : decode cX1_acceptsDigit 7 = .ok (.iconst 0, 1) := by decide +kernel
theorem dX1_acceptsDigit_8 : decode cX1_acceptsDigit 8 = .ok (.ireturn, 1) := by decide +kernel
theorem dX1_acceptsDigit_9 : decode cX1_acceptsDigit 9 = .ok (.aload_n 0, 1) := by decide +kernel
theorem dX1_acceptsDigit_10 : decode cX1_acceptsDigit 10 = .ok (.getfield 49, 3) := by decide +kernel
theorem dX1_acceptsDigit_13 : decode cX1_acceptsDigit 13 = .ok (.iconst (-1), 1) := by decide +kernel
theorem dX1_acceptsDigit_14 : decode cX1_acceptsDigit 14 = .ok (.if_icmp .ne 7, 3) := by decide +kernel
theorem dX1_acceptsDigit_17 : decode cX1_acceptsDigit 17 = .ok (.iload_n 1, 1) := by decide +kernel
theorem dX1_acceptsDigit_18 : decode cX1_acceptsDigit 18 = .ok (.goto 12, 3) := by decide +kernel
theorem dX1_acceptsDigit_21 : decode cX1_acceptsDigit 21 = .ok (.aload_n 0, 1) := by decide +kernel
theorem dX1_acceptsDigit_22 : decode cX1_acceptsDigit 22 = .ok (.getfield 49, 3) := by decide +kernel
theorem dX1_acceptsDigit_25 : decode cX1_acceptsDigit 25 = .ok (.bipush 10, 2) := by decide +kernel
theorem dX1_acceptsDigit_27 : decode cX1_acceptsDigit 27 = .ok (.imul, 1) := by decide +kernel
theorem dX1_acceptsDigit_28 : decode cX1_acceptsDigit 28 = .ok (.iload_n 1, 1) := by decide +kernel
theorem dX1_acceptsDigit_29 : decode cX1_acceptsDigit 29 = .ok (.iadd, 1) := by decide +kernel
theorem dX1_acceptsDigit_30 : decode cX1_acceptsDigit 30 = .ok (.istore_n 2, 1) := by decide +kernel
theorem dX1_acceptsDigit_31 : decode cX1_acceptsDigit 31 = .ok (.iload_n 2, 1) := by decide +kernel
theorem dX1_acceptsDigit_32 : decode cX1_acceptsDigit 32 = .ok (.getstatic 81, 3) := by decide +kernel
theorem dX1_acceptsDigit_35 : decode cX1_acceptsDigit 35 = .ok (.aload_n 0, 1) := by decide +kernel
theorem dX1_acceptsDigit_36 : decode cX1_acceptsDigit 36 = .ok (.getfield 46, 3) := by decide +kernel
theorem dX1_acceptsDigit_39 : decode cX1_acceptsDigit 39 = .ok (.invokestatic 85, 3) := by decide +kernel
theorem dX1_acceptsDigit_42 : decode cX1_acceptsDigit 42 = .ok (.if_icmp .le 5, 3) := by decide +kernel
theorem dX1_acceptsDigit_45 : decode cX1_acceptsDigit 45 = .ok (.iconst 0, 1) := by decide +kernel
theorem dX1_acceptsDigit_46 : decode cX1_acceptsDigit 46 = .ok (.ireturn, 1) := by decide +kernel
theorem dX1_acceptsDigit_47 : decode cX1_acceptsDigit 47 = .ok (.aload_n 0, 1) := by decide +kernel
theorem dX1_acceptsDigit_48 : decode cX1_acceptsDigit 48 = .ok (.iload_n 2, 1) := by decide +kernel
theorem dX1_acceptsDigit_49 : decode cX1_acceptsDigit 49 = .ok (.putfield 49, 3) := by decide +kernel
theorem dX1_acceptsDigit_52 : decode cX1_acceptsDigit 52 = .ok (.iconst 1, 1) := by decide +kernel
theorem dX1_acceptsDigit_53 : decode cX1_acceptsDigit 53 = .ok (.ireturn, 1) := by decide +kernel
theorem dX1_acceptsStart_0 : decode cX1_acceptsStart 0 = .ok (.aload_n 0, 1) := by decide +kernel
theorem dX1_acceptsStart_1 : decode cX1_acceptsStart 1 = .ok (.getfield 46, 3) := by decide +kernel
theorem dX1_acceptsStart_4 : decode cX1_acceptsStart 4 = .ok (.ifCond .eq 5, 3) := by decide +kernel
theorem dX1_acceptsStart_7 : decode cX1_acceptsStart 7 = .ok (.iconst 0, 1) := by decide +kernel
theorem dX1_acceptsStart_8 : decode cX1_acceptsStart 8 = .ok (.ireturn, 1) := by decide +kernel
theorem dX1_acceptsStart_9 : decode cX1_acceptsStart 9 = .ok (.aload_n 0, 1) := by decide +kernel
theorem dX1_acceptsStart_10 : decode cX1_acceptsStart 10 = .ok (.iconst 1, 1) := by decide +kernel
theorem dX1_acceptsStart_11 : decode cX1_acceptsStart 11 = .ok (.invokevirtual 28, 3) := by decide +kernel
theorem dX1_acceptsStart_14 : decode cX1_acceptsStart 14 = .ok (.iconst 1, 1) := by decide +kernel
theorem dX1_acceptsStart_15 : decode cX1_acceptsStart 15 = .ok (.ireturn, 1) := by decide +kernel
theorem dX1_acceptsSignBehindNumber_0 : decode cX1_acceptsSignBehindNumber 0 = .ok (.aload_n 0, 1) := by decide +kernel
theorem dX1_acceptsSignBehindNumber_1 : decode cX1_acceptsSignBehindNumber 1 = .ok (.getfield 46, 3) := by decide +kernel
theorem dX1_acceptsSignBehindNumber_4 : decode cX1_acceptsSignBehindNumber 4 = .ok (.iconst 1, 1) := by decide +kernel
theorem dX1_acceptsSignBehindNumber_5 : decode cX1_acceptsSignBehindNumber 5 = .ok (.if_icmp .ne 24, 3) := by decide +kernel
theorem dX1_acceptsSignBehindNumber_8 : decode cX1_acceptsSignBehindNumber 8 = .ok (.iload_n 1, 1) := by decide +kernel
theorem dX1_acceptsSignBehindNumber_9 : decode cX1_acceptsSignBehindNumber 9 = .ok (.bipush 47, 2) := by decide +kernel
theorem dX1_acceptsSignBehindNumber_11 : decode cX1_acceptsSignBehindNumber 11 = .ok (.if_icmp .ne 18, 3) := by decide +kernel
theorem dX1_acceptsSignBehindNumber_14 : decode cX1_acceptsSignBehindNumber 14 = .ok (.aload_n 0, 1) := by decide +kernel
theorem dX1_acceptsSignBehindNumber_15 : decode cX1_acceptsSignBehindNumber 15 = .ok (.aload_n 0, 1) := by decide +kernel
theorem dX1_acceptsSignBehindNumber_16 : decode cX1_acceptsSignBehindNumber 16 = .ok (.getfield 49, 3) := by decide +kernel
theorem dX1_acceptsSignBehindNumber_19 : decode cX1_acceptsSignBehindNumber 19 = .ok (.putfield 55, 3) := by decide +kernel
theorem dX1_acceptsSignBehindNumber_22 : decode cX1_acceptsSignBehindNumber 22 = .ok (.aload_n 0, 1) := by decide +kernel
theorem dX1_acceptsSignBehindNumber_23 : decode cX1_acceptsSignBehindNumber 23 = .ok (.iconst 2, 1) := by decide +kernel
theorem dX1_acceptsSignBehindNumber_24 : decode cX1_acceptsSignBehindNumber 24 = .ok (.invokevirtual 28, 3) := by decide +kernel
theorem dX1_acceptsSignBehindNumber_27 : decode cX1_acceptsSignBehindNumber 27 = .ok (.iconst 1, 1) := by decide +kernel
theorem dX1_acceptsSignBehindNumber_28 : decode cX1_acceptsSignBehindNumber 28 = .ok (.ireturn, 1) := by decide +kernel
theorem dX1_acceptsSignBehindNumber_29 : decode cX1_acceptsSignBehindNumber 29 = .ok (.aload_n 0, 1) := by decide +kernel
theorem dX1_acceptsSignBehindNumber_30 : decode cX1_acceptsSignBehindNumber 30 = .ok (.getfield 46, 3) := by decide +kernel
theorem dX1_acceptsSignBehindNumber_33 : decode cX1_acceptsSignBehindNumber 33 = .ok (.iconst 2, 1) := by decide +kernel
theorem dX1_acceptsSignBehindNumber_34 : decode cX1_acceptsSignBehindNumber 34 = .ok (.if_icmp .ne 24, 3) := by decide +kernel
theorem dX1_acceptsSignBehindNumber_37 : decode cX1_acceptsSignBehindNumber 37 = .ok (.iload_n 1, 1) := by decide +kernel
theorem dX1_acceptsSignBehindNumber_38 : decode cX1_acceptsSignBehindNumber 38 = .ok (.bipush 58, 2) := by decide +kernel
theorem dX1_acceptsSignBehindNumber_40 : decode cX1_acceptsSignBehindNumber 40 = .ok (.if_icmp .ne 18, 3) := by decide +kernel
theorem dX1_acceptsSignBehindNumber_43 : decode cX1_acceptsSignBehindNumber 43 = .ok (.aload_n 0, 1) := by decide +kernel
theorem dX1_acceptsSignBehindNumber_44 : decode cX1_acceptsSignBehindNumber 44 = .ok (.aload_n 0, 1) := by decide +kernel
theorem dX1_acceptsSignBehindNumber_45 : decode cX1_acceptsSignBehindNumber 45 = .ok (.getfield 49, 3) := by decide +kernel
theorem dX1_acceptsSignBehindNumber_48 : decode cX1_acceptsSignBehindNumber 48 = .ok (.putfield 62, 3) := by decide +kernel
theorem dX1_acceptsSignBehindNumber_51 : decode cX1_acceptsSignBehindNumber 51 = .ok (.aload_n 0, 1) := by decide +kernel
theorem dX1_acceptsSignBehindNumber_52 : decode cX1_acceptsSignBehindNumber 52 = .ok (.iconst 3, 1) := by decide +kernel
theorem dX1_acceptsSignBehindNumber_53 : decode cX1_acceptsSignBehindNumber 53 = .ok (.invokevirtual 28, 3) := by decide +kernel
theorem dX1_acceptsSignBehindNumber_56 : decode cX1_acceptsSignBehindNumber 56 = .ok (.iconst 1, 1) := by decide +kernel
theorem dX1_acceptsSignBehindNumber_57 : decode cX1_acceptsSignBehindNumber 57 = .ok (.ireturn, 1) := by decide +kernel
theorem dX1_acceptsSignBehindNumber_58 : decode cX1_acceptsSignBehindNumber 58 = .ok (.aload_n 0, 1) := by decide +kernel
theorem dX1_acceptsSignBehindNumber_59 : decode cX1_acceptsSignBehindNumber 59 = .ok (.getfield 46, 3) := by decide +kernel
theorem dX1_acceptsSignBehindNumber_62 : decode cX1_acceptsSignBehindNumber 62 = .ok (.iconst 3, 1) := by decide +kernel
theorem dX1_acceptsSignBehindNumber_63 : decode cX1_acceptsSignBehindNumber 63 = .ok (.if_icmp .ne 36, 3) := by decide +kernel
theorem dX1_acceptsSignBehindNumber_66 : decode cX1_acceptsSignBehindNumber 66 = .ok (.iload_n 1, 1) := by decide +kernel
theorem dX1_acceptsSignBehindNumber_67 : decode cX1_acceptsSignBehindNumber 67 = .ok (.bipush 44, 2) := by decide +kernel
theorem dX1_acceptsSignBehindNumber_69 : decode cX1_acceptsSignBehindNumber 69 = .ok (.if_icmp .eq 9, 3) := by decide +kernel
theorem dX1_acceptsSignBehindNumber_72 : decode cX1_acceptsSignBehindNumber 72 = .ok (.iload_n 1, 1) := by decide +kernel
theorem dX1_acceptsSignBehindNumber_73 : decode cX1_acceptsSignBehindNumber 73 = .ok (.bipush 59, 2) := by decide +kernel
theorem dX1_acceptsSignBehindNumber_75 : decode cX1_acceptsSignBehindNumber 75 = .ok (.if_icmp .ne 24, 3) := by decide +kernel
theorem dX1_acceptsSignBehindNumber_78 : decode cX1_acceptsSignBehindNumber 78 = .ok (.aload_n 0, 1) := by decide +kernel
theorem dX1_acceptsSignBehindNumber_79 : decode cX1_acceptsSignBehindNumber 79 = .ok (.invokevirtual 52, 3) := by decide +kernel
theorem dX1_acceptsSignBehindNumber_82 : decode cX1_acceptsSignBehindNumber 82 = .ok (.aload_n 0, 1) := by decide +kernel
theorem dX1_acceptsSignBehindNumber_83 : decode cX1_acceptsSignBehindNumber 83 = .ok (.iload_n 1, 1) := by decide +kernel
theorem dX1_acceptsSignBehindNumber_84 : decode cX1_acceptsSignBehindNumber 84 = .ok (.bipush 44, 2) := by decide +kernel
theorem dX1_acceptsSignBehindNumber_86 : decode cX1_acceptsSignBehindNumber 86 = .ok (.if_icmp .ne 7, 3) := by decide +kernel
theorem dX1_acceptsSignBehindNumber_89 : decode cX1_acceptsSignBehindNumber 89 = .ok (.iconst 3, 1) := by decide +kernel
theorem dX1_acceptsSignBehindNumber_90 : decode cX1_acceptsSignBehindNumber 90 = .ok (.goto 4, 3) := by decide +kernel
theorem dX1_acceptsSignBehindNumber_93 : decode cX1_acceptsSignBehindNumber 93 = .ok (.iconst 0, 1) := by decide +kernel
theorem dX1_acceptsSignBehindNumber_94 : decode cX1_acceptsSignBehindNumber 94 = .ok (.invokevirtual 28, 3) := by decide +kernel
theorem dX1_acceptsSignBehindNumber_97 : decode cX1_acceptsSignBehindNumber 97 = .ok (.iconst 1, 1) := by decide +kernel
theorem dX1_acceptsSignBehindNumber_98 : decode cX1_acceptsSignBehindNumber 98 = .ok (.ireturn, 1) := by decide +kernel
theorem dX1_acceptsSignBehindNumber_99 : decode cX1_acceptsSignBehindNumber 99 = .ok (.iconst 0, 1) := by decide +kernel
theorem dX1_acceptsSignBehindNumber_100 : decode cX1_acceptsSignBehindNumber 100 = .ok (.ireturn, 1) := by decide +kernel
theorem dX2_init_0 : decode cX2_init 0 = .ok (.aload_n 0, 1) := by decide +kernel
theorem dX2_init_1 : decode cX2_init 1 = .ok (.invokespecial 3, 3) := by decide +kernel
theorem dX2_init_4 : decode cX2_init 4 = .ok (.aload_n 0, 1) := by decide +kernel
theorem dX2_init_5 : decode cX2_init 5 = .ok (.new 9, 3) := by decide +kernel
theorem dX2_init_8 : decode cX2_init 8 = .ok (.dup, 1) := by decide +kernel
theorem dX2_init_9 : decode cX2_init 9 = .ok (.iconst 1, 1) := by decide +kernel
theorem dX2_init_10 : decode cX2_init 10 = .ok (.iconst 5, 1) := by decide +kernel
theorem dX2_init_11 : decode cX2_init 11 = .ok (.invokespecial 11, 3) := by decide +kernel
theorem dX2_init_14 : decode cX2_init 14 = .ok (.putfield 14, 3) := by decide +kernel
theorem dX2_init_17 : decode cX2_init 17 = .ok (.aload_n 0, 1) := by decide +kernel
theorem dX2_init_18 : decode cX2_init 18 = .ok (.new 9, 3) := by decide +kernel
theorem dX2_init_21 : decode cX2_init 21 = .ok (.dup, 1) := by decide +kernel
theorem dX2_init_22 : decode cX2_init 22 = .ok (.bipush 9, 2) := by decide +kernel
theorem dX2_init_24 : decode cX2_init 24 = .ok (.bipush 10, 2) := by decide +kernel
theorem dX2_init_26 : decode cX2_init 26 = .ok (.invokespecial 11, 3) := by decide +kernel
theorem dX2_init_29 : decode cX2_init 29 = .ok (.putfield 20, 3) := by decide +kernel
theorem dX2_init_32 : decode cX2_init 32 = .ok (.aload_n 0, 1) := by decide +kernel
theorem dX2_init_33 : decode cX2_init 33 = .ok (.new 9, 3) := by decide +kernel
theorem dX2_init_36 : decode cX2_init 36 = .ok (.dup, 1) := by decide +kernel
theorem dX2_init_37 : decode cX2_init 37 = .ok (.bipush 10, 2) := by decide +kernel
theorem dX2_init_39 : decode cX2_init 39 = .ok (.bipush 12, 2) := by decide +kernel
theorem dX2_init_41 : decode cX2_init 41 = .ok (.invokespecial 11, 3) := by decide +kernel
theorem dX2_init_44 : decode cX2_init 44 = .ok (.putfield 23, 3) := by decide +kernel
theorem dX2_init_47 : decode cX2_init 47 = .ok (.aload_n 0, 1) := by decide +kernel
theorem dX2_init_48 : decode cX2_init 48 = .ok (.new 9, 3) := by decide +kernel
theorem dX2_init_51 : decode cX2_init 51 = .ok (.dup, 1) := by decide +kernel
theorem dX2_init_52 : decode cX2_init 52 = .ok (.iconst 3, 1) := by decide +kernel
theorem dX2_init_53 : decode cX2_init 53 = .ok (.bipush 40, 2) := by decide +kernel
theorem dX2_init_55 : decode cX2_init 55 = .ok (.invokespecial 11, 3) := by decide +kernel
theorem dX2_init_58 : decode cX2_init 58 = .ok (.putfield 26, 3) := by decide +kernel
theorem dX2_init_61 : decode cX2_init 61 = .ok (.aload_n 0, 1) := by decide +kernel
theorem dX2_init_62 : decode cX2_init 62 = .ok (.new 9, 3) := by decide +kernel
theorem dX2_init_65 : decode cX2_init 65 = .ok (.dup, 1) := by decide +kernel
theorem dX2_init_66 : decode cX2_init 66 = .ok (.iconst 3, 1) := by decide +kernel
theorem dX2_init_67 : decode cX2_init 67 = .ok (.bipush 20, 2) := by decide +kernel
theorem dX2_init_69 : decode cX2_init 69 = .ok (.invokespecial 11, 3) := by decide +kernel
theorem dX2_init_72 : decode cX2_init 72 = .ok (.putfield 29, 3) := by decide +kernel
theorem dX2_init_75 : decode cX2_init 75 = .ok (.iconst 0, 1) := by decide +kernel
theorem dX2_init_76 : decode cX2_init 76 = .ok (.istore_n 1, 1) := by decide +kernel
theorem dX2_init_77 : decode cX2_init 77 = .ok (.iload_n 1, 1) := by decide +kernel
theorem dX2_init_78 : decode cX2_init 78 = .ok (.iconst 5, 1) := by decide +kernel
theorem dX2_init_79 : decode cX2_init 79 = .ok (.if_icmp .ge 25, 3) := by decide +kernel
theorem dX2_init_82 : decode cX2_init 82 = .ok (.aload_n 0, 1) := by decide +kernel
theorem dX2_init_83 : decode cX2_init 83 = .ok (.getfield 14, 3) := by decide +kernel
theorem dX2_init_86 : decode cX2_init 86 = .ok (.iconst 0, 1) := by decide +kernel
theorem dX2_init_87 : decode cX2_init 87 = .ok (.iload_n 1, 1) := by decide +kernel
theorem dX2_init_88 : decode cX2_init 88 = .ok (.getstatic 32, 3) := by decide +kernel
theorem dX2_init_91 : decode cX2_init 91 = .ok (.iload_n 1, 1) := by decide +kernel
theorem dX2_init_92 : decode cX2_init 92 = .ok (.invokestatic 36, 3) := by decide +kernel
theorem dX2_init_95 : decode cX2_init 95 = .ok (.invokevirtual 40, 3) := by decide +kernel
theorem dX2_init_98 : decode cX2_init 98 = .ok (.iinc 1 1, 3) := by decide +kernel
theorem dX2_init_101 : decode cX2_init 101 = .ok (.goto (-24), 3) := by decide +kernel
theorem dX2_init_104 : decode cX2_init 104 = .ok (.iconst 0, 1) := by decide +kernel
theorem dX2_init_105 : decode cX2_init 105 = .ok (.istore_n 1, 1) := by decide +kernel
theorem dX2_init_106 : decode cX2_init 106 = .ok (.iload_n 1, 1) := by decide +kernel
theorem dX2_init_107 : decode cX2_init 107 = .ok (.bipush 10, 2) := by decide +kernel
theorem dX2_init_109 : decode cX2_init 109 = .ok (.if_icmp .ge 36, 3) := by decide +kernel
theorem dX2_init_112 : decode cX2_init 112 = .ok (.aload_n 0, 1) := by decide +kernel
theorem dX2_init_113 : decode cX2_init 113 = .ok (.getfield 20, 3) := by decide +kernel
theorem dX2_init_116 : decode cX2_init 116 = .ok (.iconst 0, 1) := by decide +kernel
theorem dX2_init_117 : decode cX2_init 117 = .ok (.iload_n 1, 1) := by decide +kernel
theorem dX2_init_118 : decode cX2_init 118 = .ok (.bipush 80, 2) := by decide +kernel
theorem dX2_init_120 : decode cX2_init 120 = .ok (.iconst 5, 1) := by decide +kernel
theorem dX2_init_121 : decode cX2_init 121 = .ok (.iload_n 1, 1) := by decide +kernel
theorem dX2_init_122 : decode cX2_init 122 = .ok (.imul, 1) := by decide +kernel
theorem dX2_init_123 : decode cX2_init 123 = .ok (.iadd, 1) := by decide +kernel
theorem dX2_init_124 : decode cX2_init 124 = .ok (.invokevirtual 40, 3) := by decide +kernel
theorem dX2_init_127 : decode cX2_init 127 = .ok (.aload_n 0, 1) := by decide +kernel
theorem dX2_init_128 : decode cX2_init 128 = .ok (.getfield 20, 3) := by decide +kernel
theorem dX2_init_131 : decode cX2_init 131 = .ok (.iconst 1, 1) := by decide +kernel
theorem dX2_init_132 : decode cX2_init 132 = .ok (.iload_n 1, 1) := by decide +kernel
theorem dX2_init_133 : decode cX2_init 133 = .ok (.iload_n 1, 1) := by decide +kernel
theorem dX2_init_134 : decode cX2_init 134 = .ok (.iconst 4, 1) := by decide +kernel
theorem dX2_init_135 : decode cX2_init 135 = .ok (.irem, 1) := by decide +kernel
theorem dX2_init_136 : decode cX2_init 136 = .ok (.invokevirtual 40, 3) := by decide +kernel
theorem dX2_init_139 : decode cX2_init 139 = .ok (.iinc 1 1, 3) := by decide +kernel
theorem dX2_init_142 : decode cX2_init 142 = .ok (.goto (-36), 3) := by decide +kernel
theorem dX2_init_145 : decode cX2_init 145 = .ok (.iconst 0, 1) := by decide +kernel
theorem dX2_init_146 : decode cX2_init 146 = .ok (.istore_n 1, 1) := by decide +kernel
theorem dX2_init_147 : decode cX2_init 147 = .ok (.iload_n 1, 1) := by decide +kernel
theorem dX2_init_148 : decode cX2_init 148 = .ok (.bipush 12, 2) := by decide +kernel
theorem dX2_init_150 : decode cX2_init 150 = .ok (.if_icmp .ge 47, 3) := by decide +kernel
theorem dX2_init_153 : decode cX2_init 153 = .ok (.aload_n 0, 1) := by decide +kernel
theorem dX2_init_154 : decode cX2_init 154 = .ok (.getfield 23, 3) := by decide +kernel
theorem dX2_init_157 : decode cX2_init 157 = .ok (.iconst 0, 1) := by decide +kernel
theorem dX2_init_158 : decode cX2_init 158 = .ok (.iload_n 1, 1) := by decide +kernel
theorem dX2_init_159 : decode cX2_init 159 = .ok (.bipush 40, 2) := by decide +kernel
theorem dX2_init_161 : decode cX2_init 161 = .ok (.bipush 6, 2) := by decide +kernel
theorem dX2_init_163 : decode cX2_init 163 = .ok (.iload_n 1, 1) := by decide +kernel
theorem dX2_init_164 : decode cX2_init 164 = .ok (.imul, 1) := by decide +kernel
theorem dX2_init_165 : decode cX2_init 165 = .ok (.iadd, 1) := by decide +kernel
theorem dX2_init_166 : decode cX2_init 166 = .ok (.invokevirtual 40, 3) := by decide +kernel
theorem dX2_init_169 : decode cX2_init 169 = .ok (.aload_n 0, 1) := by decide +kernel
theorem dX2_init_170 : decode cX2_init 170 = .ok (.getfield 23, 3) := by decide +kernel
theorem dX2_init_173 : decode cX2_init 173 = .ok (.iconst 1, 1) := by decide +kernel
theorem dX2_init_174 : decode cX2_init 174 = .ok (.iload_n 1, 1) := by decide +kernel
theorem dX2_init_175 : decode cX2_init 175 = .ok (.iconst 1, 1) := by decide +kernel
theorem dX2_init_176 : decode cX2_init 176 = .ok (.invokevirtual 40, 3) := by decide +kernel
theorem dX2_init_179 : decode cX2_init 179 = .ok (.aload_n 0, 1) := by decide +kernel
theorem dX2_init_180 : decode cX2_init 180 = .ok (.getfield 23, 3) := by decide +kernel
theorem dX2_init_183 : decode cX2_init 183 = .ok (.bipush 9, 2) := by decide +kernel
theorem dX2_init_185 : decode cX2_init 185 = .ok (.iload_n 1, 1) := by decide +kernel
theorem dX2_init_186 : decode cX2_init 186 = .ok (.bipush (-5), 2) := by decide +kernel
theorem dX2_init_188 : decode cX2_init 188 = .ok (.invokevirtual 40, 3) := by decide +kernel
theorem dX2_init_191 : decode cX2_init 191 = .ok (.iinc 1 1, 3) := by decide +kernel
theorem dX2_init_194 : decode cX2_init 194 = .ok (.goto (-47), 3) := by decide +kernel
theorem dX2_init_197 : decode cX2_init 197 = .ok (.return_, 1) := by decide +kernel
theorem dX2_copyFrom_0 : decode cX2_copyFrom 0 = .ok (.aload_n 0, 1) := by decide +kernel
theorem dX2_copyFrom_1 : decode cX2_copyFrom 1 = .ok (.aload_n 1, 1) := by decide +kernel
theorem dX2_copyFrom_2 : decode cX2_copyFrom 2 = .ok (.getfield 44, 3) := by decide +kernel
theorem dX2_copyFrom_5 : decode cX2_copyFrom 5 = .ok (.putfield 44, 3) := by decide +kernel
theorem dX2_copyFrom_8 : decode cX2_copyFrom 8 = .ok (.aload_n 0, 1) := by decide +kernel
theorem dX2_copyFrom_9 : decode cX2_copyFrom 9 = .ok (.getfield 14, 3) := by decide +kernel
theorem dX2_copyFrom_12 : decode cX2_copyFrom 12 = .ok (.aload_n 1, 1) := by decide +kernel
theorem dX2_copyFrom_13 : decode cX2_copyFrom 13 = .ok (.getfield 14, 3) := by decide +kernel
theorem dX2_copyFrom_16 : decode cX2_copyFrom 16 = .ok (.invokevirtual 48, 3) := by decide +kernel
theorem dX2_copyFrom_19 : decode cX2_copyFrom 19 = .ok (.aload_n 0, 1) := by decide +kernel
theorem dX2_copyFrom_20 : decode cX2_copyFrom 20 = .ok (.getfield 20, 3) := by decide +kernel
theorem dX2_copyFrom_23 : decode cX2_copyFrom 23 = .ok (.aload_n 1, 1) := by decide +kernel
theorem dX2_copyFrom_24 : decode cX2_copyFrom 24 = .ok (.getfield 20, 3) := by decide +kernel
theorem dX2_copyFrom_27 : decode cX2_copyFrom 27 = .ok (.invokevirtual 48, 3) := by decide +kernel
theorem dX2_copyFrom_30 : decode cX2_copyFrom 30 = .ok (.aload_n 0, 1) := by decide +kernel
theorem dX2_copyFrom_31 : decode cX2_copyFrom 31 = .ok (.getfield 23, 3) := by decide +kernel
theorem dX2_copyFrom_34 : decode cX2_copyFrom 34 = .ok (.aload_n 1, 1) := by decide +kernel
theorem dX2_copyFrom_35 : decode cX2_copyFrom 35 = .ok (.getfield 23, 3) := by decide +kernel
theorem dX2_copyFrom_38 : decode cX2_copyFrom 38 = .ok (.invokevirtual 48, 3) := by decide +kernel
theorem dX2_copyFrom_41 : decode cX2_copyFrom 41 = .ok (.aload_n 0, 1) := by decide +kernel
theorem dX2_copyFrom_42 : decode cX2_copyFrom 42 = .ok (.getfield 26, 3) := by decide +kernel
theorem dX2_copyFrom_45 : decode cX2_copyFrom 45 = .ok (.aload_n 1, 1) := by decide +kernel
theorem dX2_copyFrom_46 : decode cX2_copyFrom 46 = .ok (.getfield 26, 3) := by decide +kernel
theorem dX2_copyFrom_49 : decode cX2_copyFrom 49 = .ok (.invokevirtual 48, 3) := by decide +kernel
theorem dX2_copyFrom_52 : decode cX2_copyFrom 52 = .ok (.aload_n 0, 1) := by decide +kernel
theorem dX2_copyFrom_53 : decode cX2_copyFrom 53 = .ok (.aload_n 1, 1) := by decide +kernel
theorem dX2_copyFrom_54 : decode cX2_copyFrom 54 = .ok (.getfield 52, 3) := by decide +kernel
theorem dX2_copyFrom_57 : decode cX2_copyFrom 57 = .ok (.putfield 52, 3) := by decide +kernel
theorem dX2_copyFrom_60 : decode cX2_copyFrom 60 = .ok (.aload_n 0, 1) := by decide +kernel
theorem dX2_copyFrom_61 : decode cX2_copyFrom 61 = .ok (.getfield 29, 3) := by decide +kernel
theorem dX2_copyFrom_64 : decode cX2_copyFrom 64 = .ok (.aload_n 1, 1) := by decide +kernel
theorem dX2_copyFrom_65 : decode cX2_copyFrom 65 = .ok (.getfield 29, 3) := by decide +kernel
theorem dX2_copyFrom_68 : decode cX2_copyFrom 68 = .ok (.invokevirtual 48, 3) := by decide +kernel
theorem dX2_copyFrom_71 : decode cX2_copyFrom 71 = .ok (.aload_n 0, 1) := by decide +kernel
theorem dX2_copyFrom_72 : decode cX2_copyFrom 72 = .ok (.aload_n 1, 1) := by decide +kernel
theorem dX2_copyFrom_73 : decode cX2_copyFrom 73 = .ok (.getfield 55, 3) := by decide +kernel
theorem dX2_copyFrom_76 : decode cX2_copyFrom 76 = .ok (.putfield 55, 3) := by decide +kernel
theorem dX2_copyFrom_79 : decode cX2_copyFrom 79 = .ok (.return_, 1) := by decide +kernel
theorem dX2_time_0 : decode cX2_time 0 = .ok (.aload_n 0, 1) := by decide +kernel
theorem dX2_time_1 : decode cX2_time 1 = .ok (.getfield 44, 3) := by decide +kernel
theorem dX2_time_4 : decode cX2_time 4 = .ok (.ireturn, 1) := by decide +kernel
theorem dX2_setting_0 : decode cX2_setting 0 = .ok (.aload_n 0, 1) := by decide +kernel
theorem dX2_setting_1 : decode cX2_setting 1 = .ok (.getfield 14, 3) := by decide +kernel
theorem dX2_setting_4 : decode cX2_setting 4 = .ok (.iconst 0, 1) := by decide +kernel
theorem dX2_setting_5 : decode cX2_setting 5 = .ok (.iload_n 1, 1) := by decide +kernel
theorem dX2_setting_6 : decode cX2_setting 6 = .ok (.invokevirtual 58, 3) := by decide +kernel
theorem dX2_setting_9 : decode cX2_setting 9 = .ok (.ireturn, 1) := by decide +kernel
theorem dX2_changeSetting_0 : decode cX2_changeSetting 0 = .ok (.aload_n 0, 1) := by decide +kernel
theorem dX2_changeSetting_1 : decode cX2_changeSetting 1 = .ok (.getfield 14, 3) := by decide +kernel
theorem dX2_changeSetting_4 : decode cX2_changeSetting 4 = .ok (.iconst 0, 1) := by decide +kernel
theorem dX2_changeSetting_5 : decode cX2_changeSetting 5 = .ok (.iload_n 1, 1) := by decide +kernel
theorem dX2_changeSetting_6 : decode cX2_changeSetting 6 = .ok (.iload_n 2, 1) := by decide +kernel
theorem dX2_changeSetting_7 : decode cX2_changeSetting 7 = .ok (.invokevirtual 40, 3) := by decide +kernel
theorem dX2_changeSetting_10 : decode cX2_changeSetting 10 = .ok (.return_, 1) := by decide +kernel
theorem dX2_ofHorse_0 : decode cX2_ofHorse 0 = .ok (.aload_n 0, 1) := by decide +kernel
theorem dX2_ofHorse_1 : decode cX2_ofHorse 1 = .ok (.getfield 20, 3) := by decide +kernel
theorem dX2_ofHorse_4 : decode cX2_ofHorse 4 = .ok (.iload_n 2, 1) := by decide +kernel
theorem dX2_ofHorse_5 : decode cX2_ofHorse 5 = .ok (.iload_n 1, 1) := by decide +kernel
theorem dX2_ofHorse_6 : decode cX2_ofHorse 6 = .ok (.invokevirtual 58, 3) := by decide +kernel
theorem dX2_ofHorse_9 : decode cX2_ofHorse 9 = .ok (.ireturn, 1) := by decide +kernel
theorem dX2_changeHorse_0 : decode cX2_changeHorse 0 = .ok (.aload_n 0, 1) := by decide +kernel
theorem dX2_changeHorse_1 : decode cX2_changeHorse 1 = .ok (.getfield 20, 3) := by decide +kernel
theorem dX2_changeHorse_4 : decode cX2_changeHorse 4 = .ok (.iconst 0, 1) := by decide +kernel
theorem dX2_changeHorse_5 : decode cX2_changeHorse 5 = .ok (.iload_n 1, 1) := by decide +kernel
theorem dX2_changeHorse_6 : decode cX2_changeHorse 6 = .ok (.iload_n 2, 1) := by decide +kernel
theorem dX2_changeHorse_7 : decode cX2_changeHorse 7 = .ok (.invokevirtual 40, 3) := by decide +kernel
theorem dX2_changeHorse_10 : decode cX2_changeHorse 10 = .ok (.aload_n 0, 1) := by decide +kernel
theorem dX2_changeHorse_11 : decode cX2_changeHorse 11 = .ok (.getfield 20, 3) := by decide +kernel
theorem dX2_changeHorse_14 : decode cX2_changeHorse 14 = .ok (.iconst 1, 1) := by decide +kernel
theorem dX2_changeHorse_15 : decode cX2_changeHorse 15 = .ok (.iload_n 1, 1) := by decide +kernel
theorem dX2_changeHorse_16 : decode cX2_changeHorse 16 = .ok (.iload_n 3, 1) := by decide +kernel
theorem dX2_changeHorse_17 : decode cX2_changeHorse 17 = .ok (.invokevirtual 40, 3) := by decide +kernel
theorem dX2_changeHorse_20 : decode cX2_changeHorse 20 = .ok (.return_, 1) := by decide +kernel
theorem dX2_sumOfHorses_0 : decode cX2_sumOfHorses 0 = .ok (.aload_n 0, 1) := by decide +kernel
theorem dX2_sumOfHorses_1 : decode cX2_sumOfHorses 1 = .ok (.getfield 20, 3) := by decide +kernel
theorem dX2_sumOfHorses_4 : decode cX2_sumOfHorses 4 = .ok (.iload_n 1, 1) := by decide +kernel
theorem dX2_sumOfHorses_5 : decode cX2_sumOfHorses 5 = .ok (.invokevirtual 62, 3) := by decide +kernel
theorem dX2_sumOfHorses_8 : decode cX2_sumOfHorses 8 = .ok (.ireturn, 1) := by decide +kernel
theorem dX2_lameHorses_0 : decode cX2_lameHorses 0 = .ok (.iconst 0, 1) := by decide +kernel
theorem dX2_lameHorses_1 : decode cX2_lameHorses 1 = .ok (.istore_n 1, 1) := by decide +kernel
theorem dX2_lameHorses_2 : decode cX2_lameHorses 2 = .ok (.iconst 0, 1) := by decide +kernel
theorem dX2_lameHorses_3 : decode cX2_lameHorses 3 = .ok (.istore_n 2, 1) := by decide +kernel
theorem dX2_lameHorses_4 : decode cX2_lameHorses 4 = .ok (.iload_n 2, 1) := by decide +kernel
theorem dX2_lameHorses_5 : decode cX2_lameHorses 5 = .ok (.bipush 10, 2) := by decide +kernel
theorem dX2_lameHorses_7 : decode cX2_lameHorses 7 = .ok (.if_icmp .ge 29, 3) := by decide +kernel
theorem dX2_lameHorses_10 : decode cX2_lameHorses 10 = .ok (.iload_n 1, 1) := by decide +kernel
theorem dX2_lameHorses_11 : decode cX2_lameHorses 11 = .ok (.aload_n 0, 1) := by decide +kernel
theorem dX2_lameHorses_12 : decode cX2_lameHorses 12 = .ok (.getfield 20, 3) := by decide +kernel
theorem dX2_lameHorses_15 : decode cX2_lameHorses 15 = .ok (.iconst 5, 1) := by decide +kernel
theorem dX2_lameHorses_16 : decode cX2_lameHorses 16 = .ok (.iload_n 2, 1) := by decide +kernel
theorem dX2_lameHorses_17 : decode cX2_lameHorses 17 = .ok (.invokevirtual 58, 3) := by decide +kernel
theorem dX2_lameHorses_20 : decode cX2_lameHorses 20 = .ok (.ifCond .le 7, 3) := by decide +kernel
theorem dX2_lameHorses_23 : decode cX2_lameHorses 23 = .ok (.iconst 1, 1) := by decide +kernel
theorem dX2_lameHorses_24 : decode cX2_lameHorses 24 = .ok (.goto 4, 3) := by decide +kernel
theorem dX2_lameHorses_27 : decode cX2_lameHorses 27 = .ok (.iconst 0, 1) := by decide +kernel
theorem dX2_lameHorses_28 : decode cX2_lameHorses 28 = .ok (.iadd, 1) := by decide +kernel
theorem dX2_lameHorses_29 : decode cX2_lameHorses 29 = .ok (.istore_n 1, 1) := by decide +kernel
theorem dX2_lameHorses_30 : decode cX2_lameHorses 30 = .ok (.iinc 2 1, 3) := by decide +kernel
theorem dX2_lameHorses_33 : decode cX2_lameHorses 33 = .ok (.goto (-29), 3) := by decide +kernel
theorem dX2_lameHorses_36 : decode cX2_lameHorses 36 = .ok (.iload_n 1, 1) := by decide +kernel
theorem dX2_lameHorses_37 : decode cX2_lameHorses 37 = .ok (.ireturn, 1) := by decide +kernel
theorem dX2_ofRider_0 : decode cX2_ofRider 0 = .ok (.iload_n 2, 1) := by decide +kernel
theorem dX2_ofRider_1 : decode cX2_ofRider 1 = .ok (.lookupswitch 39 #[(3, 27), (8, 33)], 27) := by decide +kernel
theorem dX2_ofRider_28 : decode cX2_ofRider 28 = .ok (.aload_n 0, 1) := by decide +kernel
theorem dX2_ofRider_29 : decode cX2_ofRider 29 = .ok (.iload_n 1, 1) := by decide +kernel
theorem dX2_ofRider_30 : decode cX2_ofRider 30 = .ok (.invokevirtual 66, 3) := by decide +kernel
theorem dX2_ofRider_33 : decode cX2_ofRider 33 = .ok (.ireturn, 1) := by decide +kernel
theorem dX2_ofRider_34 : decode cX2_ofRider 34 = .ok (.aload_n 0, 1) := by decide +kernel
theorem dX2_ofRider_35 : decode cX2_ofRider 35 = .ok (.iload_n 1, 1) := by decide +kernel
theorem dX2_ofRider_36 : decode cX2_ofRider 36 = .ok (.invokevirtual 69, 3) := by decide +kernel
theorem dX2_ofRider_39 : decode cX2_ofRider 39 = .ok (.ireturn, 1) := by decide +kernel
theorem dX2_ofRider_40 : decode cX2_ofRider 40 = .ok (.aload_n 0, 1) := by decide +kernel
theorem dX2_ofRider_41 : decode cX2_ofRider 41 = .ok (.getfield 23, 3) := by decide +kernel
theorem dX2_ofRider_44 : decode cX2_ofRider 44 = .ok (.iload_n 2, 1) := by decide +kernel
theorem dX2_ofRider_45 : decode cX2_ofRider 45 = .ok (.iload_n 1, 1) := by decide +kernel
theorem dX2_ofRider_46 : decode cX2_ofRider 46 = .ok (.invokevirtual 58, 3) := by decide +kernel
theorem dX2_ofRider_49 : decode cX2_ofRider 49 = .ok (.ireturn, 1) := by decide +kernel
theorem dX2_changeRider_0 : decode cX2_changeRider 0 = .ok (.aload_n 0, 1) := by decide +kernel
theorem dX2_changeRider_1 : decode cX2_changeRider 1 = .ok (.getfield 23, 3) := by decide +kernel
theorem dX2_changeRider_4 : decode cX2_changeRider 4 = .ok (.iconst 0, 1) := by decide +kernel
theorem dX2_changeRider_5 : decode cX2_changeRider 5 = .ok (.iload_n 1, 1) := by decide +kernel
theorem dX2_changeRider_6 : decode cX2_changeRider 6 = .ok (.iload_n 2, 1) := by decide +kernel
theorem dX2_changeRider_7 : decode cX2_changeRider 7 = .ok (.invokevirtual 40, 3) := by decide +kernel
theorem dX2_changeRider_10 : decode cX2_changeRider 10 = .ok (.aload_n 0, 1) := by decide +kernel
theorem dX2_changeRider_11 : decode cX2_changeRider 11 = .ok (.getfield 23, 3) := by decide +kernel
theorem dX2_changeRider_14 : decode cX2_changeRider 14 = .ok (.iconst 1, 1) := by decide +kernel
theorem dX2_changeRider_15 : decode cX2_changeRider 15 = .ok (.iload_n 1, 1) := by decide +kernel
theorem dX2_changeRider_16 : decode cX2_changeRider 16 = .ok (.iload_n 3, 1) := by decide +kernel
theorem dX2_changeRider_17 : decode cX2_changeRider 17 = .ok (.invokevirtual 40, 3) := by decide +kernel
theorem dX2_changeRider_20 : decode cX2_changeRider 20 = .ok (.aload_n 0, 1) := by decide +kernel
theorem dX2_changeRider_21 : decode cX2_changeRider 21 = .ok (.getfield 23, 3) := by decide +kernel
theorem dX2_changeRider_24 : decode cX2_changeRider 24 = .ok (.iconst 2, 1) := by decide +kernel
theorem dX2_changeRider_25 : decode cX2_changeRider 25 = .ok (.iload_n 1, 1) := by decide +kernel
theorem dX2_changeRider_26 : decode cX2_changeRider 26 = .ok (.iconst 0, 1) := by decide +kernel
theorem dX2_changeRider_27 : decode cX2_changeRider 27 = .ok (.invokevirtual 40, 3) := by decide +kernel
theorem dX2_changeRider_30 : decode cX2_changeRider 30 = .ok (.aload_n 0, 1) := by decide +kernel
theorem dX2_changeRider_31 : decode cX2_changeRider 31 = .ok (.getfield 23, 3) := by decide +kernel
theorem dX2_changeRider_34 : decode cX2_changeRider 34 = .ok (.iconst 4, 1) := by decide +kernel
theorem dX2_changeRider_35 : decode cX2_changeRider 35 = .ok (.iload_n 1, 1) := by decide +kernel
theorem dX2_changeRider_36 : decode cX2_changeRider 36 = .ok (.iconst 0, 1) := by decide +kernel
theorem dX2_changeRider_37 : decode cX2_changeRider 37 = .ok (.invokevirtual 40, 3) := by decide +kernel
theorem dX2_changeRider_40 : decode cX2_changeRider 40 = .ok (.return_, 1) := by decide +kernel
theorem dX2_sumOfRiders_0 : decode cX2_sumOfRiders 0 = .ok (.aload_n 0, 1) := by decide +kernel
theorem dX2_sumOfRiders_1 : decode cX2_sumOfRiders 1 = .ok (.getfield 23, 3) := by decide +kernel
theorem dX2_sumOfRiders_4 : decode cX2_sumOfRiders 4 = .ok (.iload_n 1, 1) := by decide +kernel
theorem dX2_sumOfRiders_5 : decode cX2_sumOfRiders 5 = .ok (.invokevirtual 62, 3) := by decide +kernel
theorem dX2_sumOfRiders_8 : decode cX2_sumOfRiders 8 = .ok (.ireturn, 1) := by decide +kernel
theorem dX2_abilityOf_0 : decode cX2_abilityOf 0 = .ok (.iconst 0, 1) := by decide +kernel
theorem dX2_abilityOf_1 : decode cX2_abilityOf 1 = .ok (.aload_n 0, 1) := by decide +kernel
theorem dX2_abilityOf_2 : decode cX2_abilityOf 2 = .ok (.getfield 23, 3) := by decide +kernel
theorem dX2_abilityOf_5 : decode cX2_abilityOf 5 = .ok (.iconst 1, 1) := by decide +kernel
theorem dX2_abilityOf_6 : decode cX2_abilityOf 6 = .ok (.iload_n 1, 1) := by decide +kernel
theorem dX2_abilityOf_7 : decode cX2_abilityOf 7 = .ok (.invokevirtual 58, 3) := by decide +kernel
theorem dX2_abilityOf_10 : decode cX2_abilityOf 10 = .ok (.aload_n 0, 1) := by decide +kernel
theorem dX2_abilityOf_11 : decode cX2_abilityOf 11 = .ok (.getfield 23, 3) := by decide +kernel
theorem dX2_abilityOf_14 : decode cX2_abilityOf 14 = .ok (.iconst 2, 1) := by decide +kernel
theorem dX2_abilityOf_15 : decode cX2_abilityOf 15 = .ok (.iload_n 1, 1) := by decide +kernel
theorem dX2_abilityOf_16 : decode cX2_abilityOf 16 = .ok (.invokevirtual 58, 3) := by decide +kernel
theorem dX2_abilityOf_19 : decode cX2_abilityOf 19 = .ok (.isub, 1) := by decide +kernel
theorem dX2_abilityOf_20 : decode cX2_abilityOf 20 = .ok (.invokestatic 72, 3) := by decide +kernel
theorem dX2_abilityOf_23 : decode cX2_abilityOf 23 = .ok (.ireturn, 1) := by decide +kernel
theorem dX2_bookingsWaiting_0 : decode cX2_bookingsWaiting 0 = .ok (.aload_n 0, 1) := by decide +kernel
theorem dX2_bookingsWaiting_1 : decode cX2_bookingsWaiting 1 = .ok (.getfield 52, 3) := by decide +kernel
theorem dX2_bookingsWaiting_4 : decode cX2_bookingsWaiting 4 = .ok (.ireturn, 1) := by decide +kernel
theorem dX2_ringOfBooking_0 : decode cX2_ringOfBooking 0 = .ok (.aload_n 0, 1) := by decide +kernel
theorem dX2_ringOfBooking_1 : decode cX2_ringOfBooking 1 = .ok (.getfield 26, 3) := by decide +kernel
theorem dX2_ringOfBooking_4 : decode cX2_ringOfBooking 4 = .ok (.iconst 1, 1) := by decide +kernel
theorem dX2_ringOfBooking_5 : decode cX2_ringOfBooking 5 = .ok (.iload_n 1, 1) := by decide +kernel
theorem dX2_ringOfBooking_6 : decode cX2_ringOfBooking 6 = .ok (.invokevirtual 58, 3) := by decide +kernel
theorem dX2_ringOfBooking_9 : decode cX2_ringOfBooking 9 = .ok (.ireturn, 1) := by decide +kernel
theorem dX2_isBooked_0 : decode cX2_isBooked 0 = .ok (.aload_n 0, 1) := by decide +kernel
theorem dX2_isBooked_1 : decode cX2_isBooked 1 = .ok (.getfield 26, 3) := by decide +kernel
theorem dX2_isBooked_4 : decode cX2_isBooked 4 = .ok (.iconst 0, 1) := by decide +kernel
theorem dX2_isBooked_5 : decode cX2_isBooked 5 = .ok (.iload_n 1, 1) := by decide +kernel
theorem dX2_isBooked_6 : decode cX2_isBooked 6 = .ok (.invokevirtual 58, 3) := by decide +kernel
theorem dX2_isBooked_9 : decode cX2_isBooked 9 = .ok (.aload_n 0, 1) := by decide +kernel
theorem dX2_isBooked_10 : decode cX2_isBooked 10 = .ok (.getfield 44, 3) := by decide +kernel
theorem dX2_isBooked_13 : decode cX2_isBooked 13 = .ok (.iload_n 2, 1) := by decide +kernel
theorem dX2_isBooked_14 : decode cX2_isBooked 14 = .ok (.iadd, 1) := by decide +kernel
theorem dX2_isBooked_15 : decode cX2_isBooked 15 = .ok (.if_icmp .ne 7, 3) := by decide +kernel
theorem dX2_isBooked_18 : decode cX2_isBooked 18 = .ok (.iconst 1, 1) := by decide +kernel
theorem dX2_isBooked_19 : decode cX2_isBooked 19 = .ok (.goto 4, 3) := by decide +kernel
theorem dX2_isBooked_22 : decode cX2_isBooked 22 = .ok (.iconst 0, 1) := by decide +kernel
theorem dX2_isBooked_23 : decode cX2_isBooked 23 = .ok (.ireturn, 1) := by decide +kernel
theorem dX2_isBooked__0 : decode cX2_isBooked_ 0 = .ok (.aload_n 0, 1) := by decide +kernel
theorem dX2_isBooked__1 : decode cX2_isBooked_ 1 = .ok (.iload_n 1, 1) := by decide +kernel
theorem dX2_isBooked__2 : decode cX2_isBooked_ 2 = .ok (.iload_n 2, 1) := by decide +kernel
theorem dX2_isBooked__3 : decode cX2_isBooked_ 3 = .ok (.invokevirtual 77, 3) := by decide +kernel
theorem dX2_isBooked__6 : decode cX2_isBooked_ 6 = .ok (.ifCond .eq 20, 3) := by decide +kernel
theorem dX2_isBooked__9 : decode cX2_isBooked_ 9 = .ok (.aload_n 0, 1) := by decide +kernel
theorem dX2_isBooked__10 : decode cX2_isBooked_ 10 = .ok (.getfield 26, 3) := by decide +kernel
theorem dX2_isBooked__13 : decode cX2_isBooked_ 13 = .ok (.iconst 1, 1) := by decide +kernel
theorem dX2_isBooked__14 : decode cX2_isBooked_ 14 = .ok (.iload_n 1, 1) := by decide +kernel
theorem dX2_isBooked__15 : decode cX2_isBooked_ 15 = .ok (.invokevirtual 58, 3) := by decide +kernel
theorem dX2_isBooked__18 : decode cX2_isBooked_ 18 = .ok (.iload_n 3, 1) := by decide +kernel
theorem dX2_isBooked__19 : decode cX2_isBooked_ 19 = .ok (.if_icmp .ne 7, 3) := by decide +kernel
theorem dX2_isBooked__22 : decode cX2_isBooked_ 22 = .ok (.iconst 1, 1) := by decide +kernel
theorem dX2_isBooked__23 : decode cX2_isBooked_ 23 = .ok (.goto 4, 3) := by decide +kernel
theorem dX2_isBooked__26 : decode cX2_isBooked_ 26 = .ok (.iconst 0, 1) := by decide +kernel
theorem dX2_isBooked__27 : decode cX2_isBooked_ 27 = .ok (.ireturn, 1) := by decide +kernel
theorem dX2_findBooking_0 : decode cX2_findBooking 0 = .ok (.iconst 0, 1) := by decide +kernel
theorem dX2_findBooking_1 : decode cX2_findBooking 1 = .ok (.istore_n 3, 1) := by decide +kernel
theorem dX2_findBooking_2 : decode cX2_findBooking 2 = .ok (.iload_n 3, 1) := by decide +kernel
theorem dX2_findBooking_3 : decode cX2_findBooking 3 = .ok (.aload_n 0, 1) := by decide +kernel
theorem dX2_findBooking_4 : decode cX2_findBooking 4 = .ok (.getfield 52, 3) := by decide +kernel
theorem dX2_findBooking_7 : decode cX2_findBooking 7 = .ok (.if_icmp .ge 33, 3) := by decide +kernel
theorem dX2_findBooking_10 : decode cX2_findBooking 10 = .ok (.aload_n 0, 1) := by decide +kernel
theorem dX2_findBooking_11 : decode cX2_findBooking 11 = .ok (.iload_n 3, 1) := by decide +kernel
theorem dX2_findBooking_12 : decode cX2_findBooking 12 = .ok (.iload_n 1, 1) := by decide +kernel
theorem dX2_findBooking_13 : decode cX2_findBooking 13 = .ok (.invokevirtual 77, 3) := by decide +kernel
theorem dX2_findBooking_16 : decode cX2_findBooking 16 = .ok (.ifCond .eq 18, 3) := by decide +kernel
theorem dX2_findBooking_19 : decode cX2_findBooking 19 = .ok (.aload_n 0, 1) := by decide +kernel
theorem dX2_findBooking_20 : decode cX2_findBooking 20 = .ok (.getfield 26, 3) := by decide +kernel
theorem dX2_findBooking_23 : decode cX2_findBooking 23 = .ok (.iconst 2, 1) := by decide +kernel
theorem dX2_findBooking_24 : decode cX2_findBooking 24 = .ok (.iload_n 3, 1) := by decide +kernel
theorem dX2_findBooking_25 : decode cX2_findBooking 25 = .ok (.invokevirtual 58, 3) := by decide +kernel
theorem dX2_findBooking_28 : decode cX2_findBooking 28 = .ok (.iload_n 2, 1) := by decide +kernel
theorem dX2_findBooking_29 : decode cX2_findBooking 29 = .ok (.if_icmp .ne 5, 3) := by decide +kernel
theorem dX2_findBooking_32 : decode cX2_findBooking 32 = .ok (.iload_n 3, 1) := by decide +kernel
theorem dX2_findBooking_33 : decode cX2_findBooking 33 = .ok (.ireturn, 1) := by decide +kernel
theorem dX2_findBooking_34 : decode cX2_findBooking 34 = .ok (.iinc 3 1, 3) := by decide +kernel
theorem dX2_findBooking_37 : decode cX2_findBooking 37 = .ok (.goto (-35), 3) := by decide +kernel
theorem dX2_findBooking_40 : decode cX2_findBooking 40 = .ok (.bipush (-5), 2) := by decide +kernel
theorem dX2_findBooking_42 : decode cX2_findBooking 42 = .ok (.ireturn, 1) := by decide +kernel
theorem dX2_bookedFor_0 : decode cX2_bookedFor 0 = .ok (.iconst 0, 1) := by decide +kernel
theorem dX2_bookedFor_1 : decode cX2_bookedFor 1 = .ok (.istore_n 3, 1) := by decide +kernel
theorem dX2_bookedFor_2 : decode cX2_bookedFor 2 = .ok (.iconst 0, 1) := by decide +kernel
theorem dX2_bookedFor_3 : decode cX2_bookedFor 3 = .ok (.istore 4, 2) := by decide +kernel
theorem dX2_bookedFor_5 : decode cX2_bookedFor 5 = .ok (.iload 4, 2) := by decide +kernel
theorem dX2_bookedFor_7 : decode cX2_bookedFor 7 = .ok (.aload_n 0, 1) := by decide +kernel
theorem dX2_bookedFor_8 : decode cX2_bookedFor 8 = .ok (.getfield 52, 3) := by decide +kernel
theorem dX2_bookedFor_11 : decode cX2_bookedFor 11 = .ok (.if_icmp .ge 28, 3) := by decide +kernel
theorem dX2_bookedFor_14 : decode cX2_bookedFor 14 = .ok (.iload_n 3, 1) := by decide +kernel
theorem dX2_bookedFor_15 : decode cX2_bookedFor 15 = .ok (.aload_n 0, 1) := by decide +kernel
theorem dX2_bookedFor_16 : decode cX2_bookedFor 16 = .ok (.iload 4, 2) := by decide +kernel
theorem dX2_bookedFor_18 : decode cX2_bookedFor 18 = .ok (.iload_n 1, 1) := by decide +kernel
theorem dX2_bookedFor_19 : decode cX2_bookedFor 19 = .ok (.iload_n 2, 1) := by decide +kernel
theorem dX2_bookedFor_20 : decode cX2_bookedFor 20 = .ok (.invokevirtual 81, 3) := by decide +kernel
theorem dX2_bookedFor_23 : decode cX2_bookedFor 23 = .ok (.ifCond .eq 7, 3) := by decide +kernel
theorem dX2_bookedFor_26 : decode cX2_bookedFor 26 = .ok (.iconst 1, 1) := by decide +kernel
theorem dX2_bookedFor_27 : decode cX2_bookedFor 27 = .ok (.goto 4, 3) := by decide +kernel
theorem dX2_bookedFor_30 : decode cX2_bookedFor 30 = .ok (.iconst 0, 1) := by decide +kernel
theorem dX2_bookedFor_31 : decode cX2_bookedFor 31 = .ok (.iadd, 1) := by decide +kernel
theorem dX2_bookedFor_32 : decode cX2_bookedFor 32 = .ok (.istore_n 3, 1) := by decide +kernel
theorem dX2_bookedFor_33 : decode cX2_bookedFor 33 = .ok (.iinc 4 1, 3) := by decide +kernel
theorem dX2_bookedFor_36 : decode cX2_bookedFor 36 = .ok (.goto (-31), 3) := by decide +kernel
theorem dX2_bookedFor_39 : decode cX2_bookedFor 39 = .ok (.iload_n 3, 1) := by decide +kernel
theorem dX2_bookedFor_40 : decode cX2_bookedFor 40 = .ok (.ireturn, 1) := by decide +kernel
theorem dX2_bookedInAllRings_0 : decode cX2_bookedInAllRings 0 = .ok (.iconst 0, 1) := by decide +kernel
theorem dX2_bookedInAllRings_1 : decode cX2_bookedInAllRings 1 = .ok (.istore_n 2, 1) := by decide +kernel
theorem dX2_bookedInAllRings_2 : decode cX2_bookedInAllRings 2 = .ok (.iconst 0, 1) := by decide +kernel
theorem dX2_bookedInAllRings_3 : decode cX2_bookedInAllRings 3 = .ok (.istore_n 3, 1) := by decide +kernel
theorem dX2_bookedInAllRings_4 : decode cX2_bookedInAllRings 4 = .ok (.iload_n 3, 1) := by decide +kernel
theorem dX2_bookedInAllRings_5 : decode cX2_bookedInAllRings 5 = .ok (.aload_n 0, 1) := by decide +kernel
theorem dX2_bookedInAllRings_6 : decode cX2_bookedInAllRings 6 = .ok (.getfield 52, 3) := by decide +kernel
theorem dX2_bookedInAllRings_9 : decode cX2_bookedInAllRings 9 = .ok (.if_icmp .ge 26, 3) := by decide +kernel
theorem dX2_bookedInAllRings_12 : decode cX2_bookedInAllRings 12 = .ok (.iload_n 2, 1) := by decide +kernel
theorem dX2_bookedInAllRings_13 : decode cX2_bookedInAllRings 13 = .ok (.aload_n 0, 1) := by decide +kernel
theorem dX2_bookedInAllRings_14 : decode cX2_bookedInAllRings 14 = .ok (.iload_n 3, 1) := by decide +kernel
theorem dX2_bookedInAllRings_15 : decode cX2_bookedInAllRings 15 = .ok (.iload_n 1, 1) := by decide +kernel
theorem dX2_bookedInAllRings_16 : decode cX2_bookedInAllRings 16 = .ok (.invokevirtual 77, 3) := by decide +kernel
theorem dX2_bookedInAllRings_19 : decode cX2_bookedInAllRings 19 = .ok (.ifCond .eq 7, 3) := by decide +kernel
theorem dX2_bookedInAllRings_22 : decode cX2_bookedInAllRings 22 = .ok (.iconst 1, 1) := by decide +kernel
theorem dX2_bookedInAllRings_23 : decode cX2_bookedInAllRings 23 = .ok (.goto 4, 3) := by decide +kernel
theorem dX2_bookedInAllRings_26 : decode cX2_bookedInAllRings 26 = .ok (.iconst 0, 1) := by decide +kernel
theorem dX2_bookedInAllRings_27 : decode cX2_bookedInAllRings 27 = .ok (.iadd, 1) := by decide +kernel
theorem dX2_bookedInAllRings_28 : decode cX2_bookedInAllRings 28 = .ok (.istore_n 2, 1) := by decide +kernel
theorem dX2_bookedInAllRings_29 : decode cX2_bookedInAllRings 29 = .ok (.iinc 3 1, 3) := by decide +kernel
theorem dX2_bookedInAllRings_32 : decode cX2_bookedInAllRings 32 = .ok (.goto (-28), 3) := by decide +kernel
theorem dX2_bookedInAllRings_35 : decode cX2_bookedInAllRings 35 = .ok (.iload_n 2, 1) := by decide +kernel
theorem dX2_bookedInAllRings_36 : decode cX2_bookedInAllRings 36 = .ok (.ireturn, 1) := by decide +kernel
theorem dX2_setOfRiders_0 : decode cX2_setOfRiders 0 = .ok (.iconst 0, 1) := by decide +kernel
theorem dX2_setOfRiders_1 : decode cX2_setOfRiders 1 = .ok (.istore_n 3, 1) := by decide +kernel
theorem dX2_setOfRiders_2 : decode cX2_setOfRiders 2 = .ok (.iconst 0, 1) := by decide +kernel
theorem dX2_setOfRiders_3 : decode cX2_setOfRiders 3 = .ok (.istore 4, 2) := by decide +kernel
theorem dX2_setOfRiders_5 : decode cX2_setOfRiders 5 = .ok (.iload 4, 2) := by decide +kernel
theorem dX2_setOfRiders_7 : decode cX2_setOfRiders 7 = .ok (.aload_n 0, 1) := by decide +kernel
theorem dX2_setOfRiders_8 : decode cX2_setOfRiders 8 = .ok (.getfield 52, 3) := by decide +kernel
theorem dX2_setOfRiders_11 : decode cX2_setOfRiders 11 = .ok (.if_icmp .ge 35, 3) := by decide +kernel
theorem dX2_setOfRiders_14 : decode cX2_setOfRiders 14 = .ok (.aload_n 0, 1) := by decide +kernel
theorem dX2_setOfRiders_15 : decode cX2_setOfRiders 15 = .ok (.iload 4, 2) := by decide +kernel
theorem dX2_setOfRiders_17 : decode cX2_setOfRiders 17 = .ok (.iload_n 1, 1) := by decide +kernel
theorem dX2_setOfRiders_18 : decode cX2_setOfRiders 18 = .ok (.iload_n 2, 1) := by decide +kernel
theorem dX2_setOfRiders_19 : decode cX2_setOfRiders 19 = .ok (.invokevirtual 81, 3) := by decide +kernel
theorem dX2_setOfRiders_22 : decode cX2_setOfRiders 22 = .ok (.ifCond .eq 18, 3) := by decide +kernel
theorem dX2_setOfRiders_25 : decode cX2_setOfRiders 25 = .ok (.iload_n 3, 1) := by decide +kernel
theorem dX2_setOfRiders_26 : decode cX2_setOfRiders 26 = .ok (.iconst 1, 1) := by decide +kernel
theorem dX2_setOfRiders_27 : decode cX2_setOfRiders 27 = .ok (.aload_n 0, 1) := by decide +kernel
theorem dX2_setOfRiders_28 : decode cX2_setOfRiders 28 = .ok (.getfield 26, 3) := by decide +kernel
theorem dX2_setOfRiders_31 : decode cX2_setOfRiders 31 = .ok (.iconst 2, 1) := by decide +kernel
theorem dX2_setOfRiders_32 : decode cX2_setOfRiders 32 = .ok (.iload 4, 2) := by decide +kernel
theorem dX2_setOfRiders_34 : decode cX2_setOfRiders 34 = .ok (.invokevirtual 58, 3) := by decide +kernel
theorem dX2_setOfRiders_37 : decode cX2_setOfRiders 37 = .ok (.ishl, 1) := by decide +kernel
theorem dX2_setOfRiders_38 : decode cX2_setOfRiders 38 = .ok (.ior, 1) := by decide +kernel
theorem dX2_setOfRiders_39 : decode cX2_setOfRiders 39 = .ok (.istore_n 3, 1) := by decide +kernel
theorem dX2_setOfRiders_40 : decode cX2_setOfRiders 40 = .ok (.iinc 4 1, 3) := by decide +kernel
theorem dX2_setOfRiders_43 : decode cX2_setOfRiders 43 = .ok (.goto (-38), 3) := by decide +kernel
theorem dX2_setOfRiders_46 : decode cX2_setOfRiders 46 = .ok (.iload_n 3, 1) := by decide +kernel
theorem dX2_setOfRiders_47 : decode cX2_setOfRiders 47 = .ok (.ireturn, 1) := by decide +kernel
theorem dX2_bookingsOf_0 : decode cX2_bookingsOf 0 = .ok (.iconst 0, 1) := by decide +kernel
theorem dX2_bookingsOf_1 : decode cX2_bookingsOf 1 = .ok (.istore_n 2, 1) := by decide +kernel
theorem dX2_bookingsOf_2 : decode cX2_bookingsOf 2 = .ok (.iconst 0, 1) := by decide +kernel
theorem dX2_bookingsOf_3 : decode cX2_bookingsOf 3 = .ok (.istore_n 3, 1) := by decide +kernel
theorem dX2_bookingsOf_4 : decode cX2_bookingsOf 4 = .ok (.iload_n 3, 1) := by decide +kernel
theorem dX2_bookingsOf_5 : decode cX2_bookingsOf 5 = .ok (.aload_n 0, 1) := by decide +kernel
theorem dX2_bookingsOf_6 : decode cX2_bookingsOf 6 = .ok (.getfield 52, 3) := by decide +kernel
theorem dX2_bookingsOf_9 : decode cX2_bookingsOf 9 = .ok (.if_icmp .ge 30, 3) := by decide +kernel
theorem dX2_bookingsOf_12 : decode cX2_bookingsOf 12 = .ok (.iload_n 2, 1) := by decide +kernel
theorem dX2_bookingsOf_13 : decode cX2_bookingsOf 13 = .ok (.aload_n 0, 1) := by decide +kernel
theorem dX2_bookingsOf_14 : decode cX2_bookingsOf 14 = .ok (.getfield 26, 3) := by decide +kernel
theorem dX2_bookingsOf_17 : decode cX2_bookingsOf 17 = .ok (.iconst 2, 1) := by decide +kernel
theorem dX2_bookingsOf_18 : decode cX2_bookingsOf 18 = .ok (.iload_n 3, 1) := by decide +kernel
theorem dX2_bookingsOf_19 : decode cX2_bookingsOf 19 = .ok (.invokevirtual 58, 3) := by decide +kernel
theorem dX2_bookingsOf_22 : decode cX2_bookingsOf 22 = .ok (.iload_n 1, 1) := by decide +kernel
theorem dX2_bookingsOf_23 : decode cX2_bookingsOf 23 = .ok (.if_icmp .ne 7, 3) := by decide +kernel
theorem dX2_bookingsOf_26 : decode cX2_bookingsOf 26 = .ok (.iconst 1, 1) := by decide +kernel
theorem dX2_bookingsOf_27 : decode cX2_bookingsOf 27 = .ok (.goto 4, 3) := by decide +kernel
theorem dX2_bookingsOf_30 : decode cX2_bookingsOf 30 = .ok (.iconst 0, 1) := by decide +kernel
theorem dX2_bookingsOf_31 : decode cX2_bookingsOf 31 = .ok (.iadd, 1) := by decide +kernel
theorem dX2_bookingsOf_32 : decode cX2_bookingsOf 32 = .ok (.istore_n 2, 1) := by decide +kernel
theorem dX2_bookingsOf_33 : decode cX2_bookingsOf 33 = .ok (.iinc 3 1, 3) := by decide +kernel
theorem dX2_bookingsOf_36 : decode cX2_bookingsOf 36 = .ok (.goto (-32), 3) := by decide +kernel
theorem dX2_bookingsOf_39 : decode cX2_bookingsOf 39 = .ok (.iload_n 2, 1) := by decide +kernel
theorem dX2_bookingsOf_40 : decode cX2_bookingsOf 40 = .ok (.ireturn, 1) := by decide +kernel
theorem dX2_bookingError_0 : decode cX2_bookingError 0 = .ok (.aload_n 0, 1) := by decide +kernel
theorem dX2_bookingError_1 : decode cX2_bookingError 1 = .ok (.iload_n 1, 1) := by decide +kernel
theorem dX2_bookingError_2 : decode cX2_bookingError 2 = .ok (.iload_n 3, 1) := by decide +kernel
theorem dX2_bookingError_3 : decode cX2_bookingError 3 = .ok (.invokevirtual 84, 3) := by decide +kernel
theorem dX2_bookingError_6 : decode cX2_bookingError 6 = .ok (.bipush (-5), 2) := by decide +kernel
theorem dX2_bookingError_8 : decode cX2_bookingError 8 = .ok (.if_icmp .eq 6, 3) := by decide +kernel
theorem dX2_bookingError_11 : decode cX2_bookingError 11 = .ok (.bipush (-4), 2) := by decide +kernel
theorem dX2_bookingError_13 : decode cX2_bookingError 13 = .ok (.ireturn, 1) := by decide +kernel
theorem dX2_bookingError_14 : decode cX2_bookingError 14 = .ok (.aload_n 0, 1) := by decide +kernel
theorem dX2_bookingError_15 : decode cX2_bookingError 15 = .ok (.iload_n 1, 1) := by decide +kernel
theorem dX2_bookingError_16 : decode cX2_bookingError 16 = .ok (.iload_n 2, 1) := by decide +kernel
theorem dX2_bookingError_17 : decode cX2_bookingError 17 = .ok (.invokevirtual 87, 3) := by decide +kernel
theorem dX2_bookingError_20 : decode cX2_bookingError 20 = .ok (.getstatic 90, 3) := by decide +kernel
theorem dX2_bookingError_23 : decode cX2_bookingError 23 = .ok (.iload_n 2, 1) := by decide +kernel
theorem dX2_bookingError_24 : decode cX2_bookingError 24 = .ok (.invokestatic 36, 3) := by decide +kernel
theorem dX2_bookingError_27 : decode cX2_bookingError 27 = .ok (.if_icmp .lt 7, 3) := by decide +kernel
theorem dX2_bookingError_30 : decode cX2_bookingError 30 = .ok (.iconst 1, 1) := by decide +kernel
theorem dX2_bookingError_31 : decode cX2_bookingError 31 = .ok (.goto 4, 3) := by decide +kernel
theorem dX2_bookingError_34 : decode cX2_bookingError 34 = .ok (.iconst 0, 1) := by decide +kernel
theorem dX2_bookingError_35 : decode cX2_bookingError 35 = .ok (.istore 4, 2) := by decide +kernel
theorem dX2_bookingError_37 : decode cX2_bookingError 37 = .ok (.iload 4, 2) := by decide +kernel
theorem dX2_bookingError_39 : decode cX2_bookingError 39 = .ok (.ifCond .ne 12, 3) := by decide +kernel
theorem dX2_bookingError_42 : decode cX2_bookingError 42 = .ok (.aload_n 0, 1) := by decide +kernel
theorem dX2_bookingError_43 : decode cX2_bookingError 43 = .ok (.getfield 52, 3) := by decide +kernel
theorem dX2_bookingError_46 : decode cX2_bookingError 46 = .ok (.bipush 40, 2) := by decide +kernel
theorem dX2_bookingError_48 : decode cX2_bookingError 48 = .ok (.if_icmp .lt 8, 3) := by decide +kernel
theorem dX2_bookingError_51 : decode cX2_bookingError 51 = .ok (.bipush (-3), 2) := by decide +kernel
theorem dX2_bookingError_53 : decode cX2_bookingError 53 = .ok (.goto 4, 3) := by decide +kernel
theorem dX2_bookingError_56 : decode cX2_bookingError 56 = .ok (.iconst 0, 1) := by decide +kernel
theorem dX2_bookingError_57 : decode cX2_bookingError 57 = .ok (.ireturn, 1) := by decide +kernel
theorem dX2_addBooking_0 : decode cX2_addBooking 0 = .ok (.aload_n 0, 1) := by decide +kernel
theorem dX2_addBooking_1 : decode cX2_addBooking 1 = .ok (.getfield 26, 3) := by decide +kernel
theorem dX2_addBooking_4 : decode cX2_addBooking 4 = .ok (.iconst 0, 1) := by decide +kernel
theorem dX2_addBooking_5 : decode cX2_addBooking 5 = .ok (.aload_n 0, 1) := by decide +kernel
theorem dX2_addBooking_6 : decode cX2_addBooking 6 = .ok (.getfield 52, 3) := by decide +kernel
theorem dX2_addBooking_9 : decode cX2_addBooking 9 = .ok (.aload_n 0, 1) := by decide +kernel
theorem dX2_addBooking_10 : decode cX2_addBooking 10 = .ok (.getfield 44, 3) := by decide +kernel
theorem dX2_addBooking_13 : decode cX2_addBooking 13 = .ok (.iload_n 1, 1) := by decide +kernel
theorem dX2_addBooking_14 : decode cX2_addBooking 14 = .ok (.iadd, 1) := by decide +kernel
theorem dX2_addBooking_15 : decode cX2_addBooking 15 = .ok (.invokevirtual 40, 3) := by decide +kernel
theorem dX2_addBooking_18 : decode cX2_addBooking 18 = .ok (.aload_n 0, 1) := by decide +kernel
theorem dX2_addBooking_19 : decode cX2_addBooking 19 = .ok (.getfield 26, 3) := by decide +kernel
theorem dX2_addBooking_22 : decode cX2_addBooking 22 = .ok (.iconst 1, 1) := by decide +kernel
theorem dX2_addBooking_23 : decode cX2_addBooking 23 = .ok (.aload_n 0, 1) := by decide +kernel
theorem dX2_addBooking_24 : decode cX2_addBooking 24 = .ok (.getfield 52, 3) := by decide +kernel
theorem dX2_addBooking_27 : decode cX2_addBooking 27 = .ok (.iload_n 2, 1) := by decide +kernel
theorem dX2_addBooking_28 : decode cX2_addBooking 28 = .ok (.invokevirtual 40, 3) := by decide +kernel
theorem dX2_addBooking_31 : decode cX2_addBooking 31 = .ok (.aload_n 0, 1) := by decide +kernel
theorem dX2_addBooking_32 : decode cX2_addBooking 32 = .ok (.getfield 26, 3) := by decide +kernel
theorem dX2_addBooking_35 : decode cX2_addBooking 35 = .ok (.iconst 2, 1) := by decide +kernel
theorem dX2_addBooking_36 : decode cX2_addBooking 36 = .ok (.aload_n 0, 1) := by decide +kernel
theorem dX2_addBooking_37 : decode cX2_addBooking 37 = .ok (.getfield 52, 3) := by decide +kernel
theorem dX2_addBooking_40 : decode cX2_addBooking 40 = .ok (.iload_n 3, 1) := by decide +kernel
theorem dX2_addBooking_41 : decode cX2_addBooking 41 = .ok (.invokevirtual 40, 3) := by decide +kernel
theorem dX2_addBooking_44 : decode cX2_addBooking 44 = .ok (.aload_n 0, 1) := by decide +kernel
theorem dX2_addBooking_45 : decode cX2_addBooking 45 = .ok (.aload_n 0, 1) := by decide +kernel
theorem dX2_addBooking_46 : decode cX2_addBooking 46 = .ok (.getfield 52, 3) := by decide +kernel
theorem dX2_addBooking_49 : decode cX2_addBooking 49 = .ok (.iconst 1, 1) := by decide +kernel
theorem dX2_addBooking_50 : decode cX2_addBooking 50 = .ok (.iadd, 1) := by decide +kernel
theorem dX2_addBooking_51 : decode cX2_addBooking 51 = .ok (.bipush 40, 2) := by decide +kernel
theorem dX2_addBooking_53 : decode cX2_addBooking 53 = .ok (.invokestatic 93, 3) := by decide +kernel
theorem dX2_addBooking_56 : decode cX2_addBooking 56 = .ok (.putfield 52, 3) := by decide +kernel
theorem dX2_addBooking_59 : decode cX2_addBooking 59 = .ok (.return_, 1) := by decide +kernel
theorem dX2_removeBooking_0 : decode cX2_removeBooking 0 = .ok (.iload_n 1, 1) := by decide +kernel
theorem dX2_removeBooking_1 : decode cX2_removeBooking 1 = .ok (.iconst 1, 1) := by decide +kernel
theorem dX2_removeBooking_2 : decode cX2_removeBooking 2 = .ok (.iadd, 1) := by decide +kernel
theorem dX2_removeBooking_3 : decode cX2_removeBooking 3 = .ok (.istore_n 2, 1) := by decide +kernel
theorem dX2_removeBooking_4 : decode cX2_removeBooking 4 = .ok (.iload_n 2, 1) := by decide +kernel
theorem dX2_removeBooking_5 : decode cX2_removeBooking 5 = .ok (.aload_n 0, 1) := by decide +kernel
theorem dX2_removeBooking_6 : decode cX2_removeBooking 6 = .ok (.getfield 52, 3) := by decide +kernel
theorem dX2_removeBooking_9 : decode cX2_removeBooking 9 = .ok (.if_icmp .ge 21, 3) := by decide +kernel
theorem dX2_removeBooking_12 : decode cX2_removeBooking 12 = .ok (.aload_n 0, 1) := by decide +kernel
theorem dX2_removeBooking_13 : decode cX2_removeBooking 13 = .ok (.getfield 26, 3) := by decide +kernel
theorem dX2_removeBooking_16 : decode cX2_removeBooking 16 = .ok (.iload_n 2, 1) := by decide +kernel
theorem dX2_removeBooking_17 : decode cX2_removeBooking 17 = .ok (.iload_n 2, 1) := by decide +kernel
theorem dX2_removeBooking_18 : decode cX2_removeBooking 18 = .ok (.iconst 1, 1) := by decide +kernel
theorem dX2_removeBooking_19 : decode cX2_removeBooking 19 = .ok (.isub, 1) := by decide +kernel
theorem dX2_removeBooking_20 : decode cX2_removeBooking 20 = .ok (.iconst 3, 1) := by decide +kernel
theorem dX2_removeBooking_21 : decode cX2_removeBooking 21 = .ok (.invokevirtual 96, 3) := by decide +kernel
theorem dX2_removeBooking_24 : decode cX2_removeBooking 24 = .ok (.iinc 2 1, 3) := by decide +kernel
theorem dX2_removeBooking_27 : decode cX2_removeBooking 27 = .ok (.goto (-23), 3) := by decide +kernel
theorem dX2_removeBooking_30 : decode cX2_removeBooking 30 = .ok (.aload_n 0, 1) := by decide +kernel
theorem dX2_removeBooking_31 : decode cX2_removeBooking 31 = .ok (.aload_n 0, 1) := by decide +kernel
theorem dX2_removeBooking_32 : decode cX2_removeBooking 32 = .ok (.getfield 52, 3) := by decide +kernel
theorem dX2_removeBooking_35 : decode cX2_removeBooking 35 = .ok (.iconst 1, 1) := by decide +kernel
theorem dX2_removeBooking_36 : decode cX2_removeBooking 36 = .ok (.isub, 1) := by decide +kernel
theorem dX2_removeBooking_37 : decode cX2_removeBooking 37 = .ok (.iconst 0, 1) := by decide +kernel
theorem dX2_removeBooking_38 : decode cX2_removeBooking 38 = .ok (.invokestatic 72, 3) := by decide +kernel
theorem dX2_removeBooking_41 : decode cX2_removeBooking 41 = .ok (.putfield 52, 3) := by decide +kernel
theorem dX2_removeBooking_44 : decode cX2_removeBooking 44 = .ok (.return_, 1) := by decide +kernel
theorem dX2_isFarrierThere_0 : decode cX2_isFarrierThere 0 = .ok (.aload_n 0, 1) := by decide +kernel
theorem dX2_isFarrierThere_1 : decode cX2_isFarrierThere 1 = .ok (.getfield 14, 3) := by decide +kernel
theorem dX2_isFarrierThere_4 : decode cX2_isFarrierThere 4 = .ok (.iconst 0, 1) := by decide +kernel
theorem dX2_isFarrierThere_5 : decode cX2_isFarrierThere 5 = .ok (.iconst 4, 1) := by decide +kernel
theorem dX2_isFarrierThere_6 : decode cX2_isFarrierThere 6 = .ok (.invokevirtual 58, 3) := by decide +kernel
theorem dX2_isFarrierThere_9 : decode cX2_isFarrierThere 9 = .ok (.istore_n 1, 1) := by decide +kernel
theorem dX2_isFarrierThere_10 : decode cX2_isFarrierThere 10 = .ok (.iload_n 1, 1) := by decide +kernel
theorem dX2_isFarrierThere_11 : decode cX2_isFarrierThere 11 = .ok (.ifCond .le 19, 3) := by decide +kernel
theorem dX2_isFarrierThere_14 : decode cX2_isFarrierThere 14 = .ok (.aload_n 0, 1) := by decide +kernel
theorem dX2_isFarrierThere_15 : decode cX2_isFarrierThere 15 = .ok (.getfield 44, 3) := by decide +kernel
theorem dX2_isFarrierThere_18 : decode cX2_isFarrierThere 18 = .ok (.bipush 10, 2) := by decide +kernel
theorem dX2_isFarrierThere_20 : decode cX2_isFarrierThere 20 = .ok (.idiv, 1) := by decide +kernel
theorem dX2_isFarrierThere_21 : decode cX2_isFarrierThere 21 = .ok (.iload_n 1, 1) := by decide +kernel
theorem dX2_isFarrierThere_22 : decode cX2_isFarrierThere 22 = .ok (.irem, 1) := by decide +kernel
theorem dX2_isFarrierThere_23 : decode cX2_isFarrierThere 23 = .ok (.ifCond .ne 7, 3) := by decide +kernel
theorem dX2_isFarrierThere_26 : decode cX2_isFarrierThere 26 = .ok (.iconst 1, 1) := by decide +kernel
theorem dX2_isFarrierThere_27 : decode cX2_isFarrierThere 27 = .ok (.goto 4, 3) := by decide +kernel
theorem dX2_isFarrierThere_30 : decode cX2_isFarrierThere 30 = .ok (.iconst 0, 1) := by decide +kernel
theorem dX2_isFarrierThere_31 : decode cX2_isFarrierThere 31 = .ok (.ireturn, 1) := by decide +kernel
theorem dX2_farriersHorse_0 : decode cX2_farriersHorse 0 = .ok (.iconst 0, 1) := by decide +kernel
theorem dX2_farriersHorse_1 : decode cX2_farriersHorse 1 = .ok (.istore_n 1, 1) := by decide +kernel
theorem dX2_farriersHorse_2 : decode cX2_farriersHorse 2 = .ok (.bipush (-5), 2) := by decide +kernel
theorem dX2_farriersHorse_4 : decode cX2_farriersHorse 4 = .ok (.istore_n 2, 1) := by decide +kernel
theorem dX2_farriersHorse_5 : decode cX2_farriersHorse 5 = .ok (.aload_n 0, 1) := by decide +kernel
theorem dX2_farriersHorse_6 : decode cX2_farriersHorse 6 = .ok (.invokevirtual 99, 3) := by decide +kernel
theorem dX2_farriersHorse_9 : decode cX2_farriersHorse 9 = .ok (.ifCond .ne 5, 3) := by decide +kernel
theorem dX2_farriersHorse_12 : decode cX2_farriersHorse 12 = .ok (.iload_n 2, 1) := by decide +kernel
theorem dX2_farriersHorse_13 : decode cX2_farriersHorse 13 = .ok (.ireturn, 1) := by decide +kernel
theorem dX2_farriersHorse_14 : decode cX2_farriersHorse 14 = .ok (.iconst 0, 1) := by decide +kernel
theorem dX2_farriersHorse_15 : decode cX2_farriersHorse 15 = .ok (.istore_n 3, 1) := by decide +kernel
theorem dX2_farriersHorse_16 : decode cX2_farriersHorse 16 = .ok (.iload_n 3, 1) := by decide +kernel
theorem dX2_farriersHorse_17 : decode cX2_farriersHorse 17 = .ok (.bipush 10, 2) := by decide +kernel
theorem dX2_farriersHorse_19 : decode cX2_farriersHorse 19 = .ok (.if_icmp .ge 31, 3) := by decide +kernel
theorem dX2_farriersHorse_22 : decode cX2_farriersHorse 22 = .ok (.aload_n 0, 1) := by decide +kernel
theorem dX2_farriersHorse_23 : decode cX2_farriersHorse 23 = .ok (.getfield 20, 3) := by decide +kernel
theorem dX2_farriersHorse_26 : decode cX2_farriersHorse 26 = .ok (.iconst 3, 1) := by decide +kernel
theorem dX2_farriersHorse_27 : decode cX2_farriersHorse 27 = .ok (.iload_n 3, 1) := by decide +kernel
theorem dX2_farriersHorse_28 : decode cX2_farriersHorse 28 = .ok (.invokevirtual 58, 3) := by decide +kernel
theorem dX2_farriersHorse_31 : decode cX2_farriersHorse 31 = .ok (.istore 4, 2) := by decide +kernel
theorem dX2_farriersHorse_33 : decode cX2_farriersHorse 33 = .ok (.iload 4, 2) := by decide +kernel
theorem dX2_farriersHorse_35 : decode cX2_farriersHorse 35 = .ok (.iload_n 1, 1) := by decide +kernel
theorem dX2_farriersHorse_36 : decode cX2_farriersHorse 36 = .ok (.if_icmp .le 8, 3) := by decide +kernel
theorem dX2_farriersHorse_39 : decode cX2_farriersHorse 39 = .ok (.iload 4, 2) := by decide +kernel
theorem dX2_farriersHorse_41 : decode cX2_farriersHorse 41 = .ok (.istore_n 1, 1) := by decide +kernel
theorem dX2_farriersHorse_42 : decode cX2_farriersHorse 42 = .ok (.iload_n 3, 1) := by decide +kernel
theorem dX2_farriersHorse_43 : decode cX2_farriersHorse 43 = .ok (.istore_n 2, 1) := by decide +kernel
theorem dX2_farriersHorse_44 : decode cX2_farriersHorse 44 = .ok (.iinc 3 1, 3) := by decide +kernel
theorem dX2_farriersHorse_47 : decode cX2_farriersHorse 47 = .ok (.goto (-31), 3) := by decide +kernel
end
section
theorem dX2_farriersHorse_50 : decode cX2_farriersHorse 50 = .ok (.iload_n 2, 1) := by decide +kernel
theorem dX2_farriersHorse_51 : decode cX2_farriersHorse 51 = .ok (.ireturn, 1) := by decide +kernel
theorem dX2_hindrance_0 : decode cX2_hindrance 0 = .ok (.aload_n 0, 1) := by decide +kernel
theorem dX2_hindrance_1 : decode cX2_hindrance 1 = .ok (.getfield 20, 3) := by decide +kernel
theorem dX2_hindrance_4 : decode cX2_hindrance 4 = .ok (.iconst 5, 1) := by decide +kernel
theorem dX2_hindrance_5 : decode cX2_hindrance 5 = .ok (.iload_n 1, 1) := by decide +kernel
theorem dX2_hindrance_6 : decode cX2_hindrance 6 = .ok (.invokevirtual 58, 3) := by decide +kernel
theorem dX2_hindrance_9 : decode cX2_hindrance 9 = .ok (.ifCond .le 5, 3) := by decide +kernel
theorem dX2_hindrance_12 : decode cX2_hindrance 12 = .ok (.iconst 1, 1) := by decide +kernel
theorem dX2_hindrance_13 : decode cX2_hindrance 13 = .ok (.ireturn, 1) := by decide +kernel
theorem dX2_hindrance_14 : decode cX2_hindrance 14 = .ok (.iload_n 1, 1) := by decide +kernel
theorem dX2_hindrance_15 : decode cX2_hindrance 15 = .ok (.iload_n 3, 1) := by decide +kernel
theorem dX2_hindrance_16 : decode cX2_hindrance 16 = .ok (.if_icmp .ne 5, 3) := by decide +kernel
theorem dX2_hindrance_19 : decode cX2_hindrance 19 = .ok (.iconst 2, 1) := by decide +kernel
theorem dX2_hindrance_20 : decode cX2_hindrance 20 = .ok (.ireturn, 1) := by decide +kernel
theorem dX2_hindrance_21 : decode cX2_hindrance 21 = .ok (.aload_n 0, 1) := by decide +kernel
theorem dX2_hindrance_22 : decode cX2_hindrance 22 = .ok (.getfield 20, 3) := by decide +kernel
theorem dX2_hindrance_25 : decode cX2_hindrance 25 = .ok (.iconst 3, 1) := by decide +kernel
theorem dX2_hindrance_26 : decode cX2_hindrance 26 = .ok (.iload_n 1, 1) := by decide +kernel
theorem dX2_hindrance_27 : decode cX2_hindrance 27 = .ok (.invokevirtual 58, 3) := by decide +kernel
theorem dX2_hindrance_30 : decode cX2_hindrance 30 = .ok (.aload_n 0, 1) := by decide +kernel
theorem dX2_hindrance_31 : decode cX2_hindrance 31 = .ok (.getfield 14, 3) := by decide +kernel
theorem dX2_hindrance_34 : decode cX2_hindrance 34 = .ok (.iconst 0, 1) := by decide +kernel
theorem dX2_hindrance_35 : decode cX2_hindrance 35 = .ok (.iconst 1, 1) := by decide +kernel
theorem dX2_hindrance_36 : decode cX2_hindrance 36 = .ok (.invokevirtual 58, 3) := by decide +kernel
theorem dX2_hindrance_39 : decode cX2_hindrance 39 = .ok (.if_icmp .lt 5, 3) := by decide +kernel
theorem dX2_hindrance_42 : decode cX2_hindrance 42 = .ok (.iconst 3, 1) := by decide +kernel
theorem dX2_hindrance_43 : decode cX2_hindrance 43 = .ok (.ireturn, 1) := by decide +kernel
theorem dX2_hindrance_44 : decode cX2_hindrance 44 = .ok (.aload_n 0, 1) := by decide +kernel
theorem dX2_hindrance_45 : decode cX2_hindrance 45 = .ok (.getfield 20, 3) := by decide +kernel
theorem dX2_hindrance_48 : decode cX2_hindrance 48 = .ok (.iconst 2, 1) := by decide +kernel
theorem dX2_hindrance_49 : decode cX2_hindrance 49 = .ok (.iload_n 1, 1) := by decide +kernel
theorem dX2_hindrance_50 : decode cX2_hindrance 50 = .ok (.invokevirtual 58, 3) := by decide +kernel
theorem dX2_hindrance_53 : decode cX2_hindrance 53 = .ok (.aload_n 0, 1) := by decide +kernel
theorem dX2_hindrance_54 : decode cX2_hindrance 54 = .ok (.getfield 14, 3) := by decide +kernel
theorem dX2_hindrance_57 : decode cX2_hindrance 57 = .ok (.iconst 0, 1) := by decide +kernel
theorem dX2_hindrance_58 : decode cX2_hindrance 58 = .ok (.iconst 0, 1) := by decide +kernel
theorem dX2_hindrance_59 : decode cX2_hindrance 59 = .ok (.invokevirtual 58, 3) := by decide +kernel
theorem dX2_hindrance_62 : decode cX2_hindrance 62 = .ok (.if_icmp .lt 5, 3) := by decide +kernel
theorem dX2_hindrance_65 : decode cX2_hindrance 65 = .ok (.iconst 4, 1) := by decide +kernel
theorem dX2_hindrance_66 : decode cX2_hindrance 66 = .ok (.ireturn, 1) := by decide +kernel
theorem dX2_hindrance_67 : decode cX2_hindrance 67 = .ok (.aload_n 0, 1) := by decide +kernel
theorem dX2_hindrance_68 : decode cX2_hindrance 68 = .ok (.getfield 20, 3) := by decide +kernel
theorem dX2_hindrance_71 : decode cX2_hindrance 71 = .ok (.iconst 0, 1) := by decide +kernel
theorem dX2_hindrance_72 : decode cX2_hindrance 72 = .ok (.iload_n 1, 1) := by decide +kernel
theorem dX2_hindrance_73 : decode cX2_hindrance 73 = .ok (.invokevirtual 58, 3) := by decide +kernel
theorem dX2_hindrance_76 : decode cX2_hindrance 76 = .ok (.aload_n 0, 1) := by decide +kernel
theorem dX2_hindrance_77 : decode cX2_hindrance 77 = .ok (.getfield 23, 3) := by decide +kernel
theorem dX2_hindrance_80 : decode cX2_hindrance 80 = .ok (.iconst 0, 1) := by decide +kernel
theorem dX2_hindrance_81 : decode cX2_hindrance 81 = .ok (.iload_n 2, 1) := by decide +kernel
theorem dX2_hindrance_82 : decode cX2_hindrance 82 = .ok (.invokevirtual 58, 3) := by decide +kernel
theorem dX2_hindrance_85 : decode cX2_hindrance 85 = .ok (.if_icmp .ge 7, 3) := by decide +kernel
theorem dX2_hindrance_88 : decode cX2_hindrance 88 = .ok (.iconst 5, 1) := by decide +kernel
theorem dX2_hindrance_89 : decode cX2_hindrance 89 = .ok (.goto 4, 3) := by decide +kernel
theorem dX2_hindrance_92 : decode cX2_hindrance 92 = .ok (.iconst 0, 1) := by decide +kernel
theorem dX2_hindrance_93 : decode cX2_hindrance 93 = .ok (.ireturn, 1) := by decide +kernel
theorem dX2_bestHorse_0 : decode cX2_bestHorse 0 = .ok (.aload_n 0, 1) := by decide +kernel
theorem dX2_bestHorse_1 : decode cX2_bestHorse 1 = .ok (.iload_n 1, 1) := by decide +kernel
theorem dX2_bestHorse_2 : decode cX2_bestHorse 2 = .ok (.invokevirtual 66, 3) := by decide +kernel
theorem dX2_bestHorse_5 : decode cX2_bestHorse 5 = .ok (.istore 4, 2) := by decide +kernel
theorem dX2_bestHorse_7 : decode cX2_bestHorse 7 = .ok (.bipush (-5), 2) := by decide +kernel
theorem dX2_bestHorse_9 : decode cX2_bestHorse 9 = .ok (.istore 5, 2) := by decide +kernel
theorem dX2_bestHorse_11 : decode cX2_bestHorse 11 = .ok (.iconst 0, 1) := by decide +kernel
theorem dX2_bestHorse_12 : decode cX2_bestHorse 12 = .ok (.istore 6, 2) := by decide +kernel
theorem dX2_bestHorse_14 : decode cX2_bestHorse 14 = .ok (.iload 6, 2) := by decide +kernel
theorem dX2_bestHorse_16 : decode cX2_bestHorse 16 = .ok (.bipush 10, 2) := by decide +kernel
theorem dX2_bestHorse_18 : decode cX2_bestHorse 18 = .ok (.if_icmp .ge 53, 3) := by decide +kernel
theorem dX2_bestHorse_21 : decode cX2_bestHorse 21 = .ok (.iload_n 3, 1) := by decide +kernel
theorem dX2_bestHorse_22 : decode cX2_bestHorse 22 = .ok (.iload 6, 2) := by decide +kernel
theorem dX2_bestHorse_24 : decode cX2_bestHorse 24 = .ok (.ishr, 1) := by decide +kernel
theorem dX2_bestHorse_25 : decode cX2_bestHorse 25 = .ok (.iconst 1, 1) := by decide +kernel
theorem dX2_bestHorse_26 : decode cX2_bestHorse 26 = .ok (.iand, 1) := by decide +kernel
theorem dX2_bestHorse_27 : decode cX2_bestHorse 27 = .ok (.ifCond .ne 38, 3) := by decide +kernel
theorem dX2_bestHorse_30 : decode cX2_bestHorse 30 = .ok (.aload_n 0, 1) := by decide +kernel
theorem dX2_bestHorse_31 : decode cX2_bestHorse 31 = .ok (.iload 6, 2) := by decide +kernel
theorem dX2_bestHorse_33 : decode cX2_bestHorse 33 = .ok (.iload_n 1, 1) := by decide +kernel
theorem dX2_bestHorse_34 : decode cX2_bestHorse 34 = .ok (.iload_n 2, 1) := by decide +kernel
theorem dX2_bestHorse_35 : decode cX2_bestHorse 35 = .ok (.invokevirtual 103, 3) := by decide +kernel
theorem dX2_bestHorse_38 : decode cX2_bestHorse 38 = .ok (.ifCond .ne 27, 3) := by decide +kernel
theorem dX2_bestHorse_41 : decode cX2_bestHorse 41 = .ok (.iload 5, 2) := by decide +kernel
theorem dX2_bestHorse_43 : decode cX2_bestHorse 43 = .ok (.bipush (-5), 2) := by decide +kernel
theorem dX2_bestHorse_45 : decode cX2_bestHorse 45 = .ok (.if_icmp .eq 16, 3) := by decide +kernel
theorem dX2_bestHorse_48 : decode cX2_bestHorse 48 = .ok (.aload_n 0, 1) := by decide +kernel
theorem dX2_bestHorse_49 : decode cX2_bestHorse 49 = .ok (.iload 6, 2) := by decide +kernel
theorem dX2_bestHorse_51 : decode cX2_bestHorse 51 = .ok (.iload 5, 2) := by decide +kernel
theorem dX2_bestHorse_53 : decode cX2_bestHorse 53 = .ok (.iload 4, 2) := by decide +kernel
theorem dX2_bestHorse_55 : decode cX2_bestHorse 55 = .ok (.invokevirtual 107, 3) := by decide +kernel
theorem dX2_bestHorse_58 : decode cX2_bestHorse 58 = .ok (.ifCond .eq 7, 3) := by decide +kernel
theorem dX2_bestHorse_61 : decode cX2_bestHorse 61 = .ok (.iload 6, 2) := by decide +kernel
theorem dX2_bestHorse_63 : decode cX2_bestHorse 63 = .ok (.istore 5, 2) := by decide +kernel
theorem dX2_bestHorse_65 : decode cX2_bestHorse 65 = .ok (.iinc 6 1, 3) := by decide +kernel
theorem dX2_bestHorse_68 : decode cX2_bestHorse 68 = .ok (.goto (-54), 3) := by decide +kernel
theorem dX2_bestHorse_71 : decode cX2_bestHorse 71 = .ok (.iload 5, 2) := by decide +kernel
theorem dX2_bestHorse_73 : decode cX2_bestHorse 73 = .ok (.ireturn, 1) := by decide +kernel
theorem dX2_isBetter_0 : decode cX2_isBetter 0 = .ok (.aload_n 0, 1) := by decide +kernel
theorem dX2_isBetter_1 : decode cX2_isBetter 1 = .ok (.getfield 20, 3) := by decide +kernel
theorem dX2_isBetter_4 : decode cX2_isBetter 4 = .ok (.iconst 1, 1) := by decide +kernel
theorem dX2_isBetter_5 : decode cX2_isBetter 5 = .ok (.iload_n 1, 1) := by decide +kernel
theorem dX2_isBetter_6 : decode cX2_isBetter 6 = .ok (.invokevirtual 58, 3) := by decide +kernel
theorem dX2_isBetter_9 : decode cX2_isBetter 9 = .ok (.iload_n 3, 1) := by decide +kernel
theorem dX2_isBetter_10 : decode cX2_isBetter 10 = .ok (.if_icmp .gt 7, 3) := by decide +kernel
theorem dX2_isBetter_13 : decode cX2_isBetter 13 = .ok (.iconst 1, 1) := by decide +kernel
theorem dX2_isBetter_14 : decode cX2_isBetter 14 = .ok (.goto 4, 3) := by decide +kernel
theorem dX2_isBetter_17 : decode cX2_isBetter 17 = .ok (.iconst 0, 1) := by decide +kernel
theorem dX2_isBetter_18 : decode cX2_isBetter 18 = .ok (.istore 4, 2) := by decide +kernel
theorem dX2_isBetter_20 : decode cX2_isBetter 20 = .ok (.aload_n 0, 1) := by decide +kernel
theorem dX2_isBetter_21 : decode cX2_isBetter 21 = .ok (.getfield 20, 3) := by decide +kernel
theorem dX2_isBetter_24 : decode cX2_isBetter 24 = .ok (.iconst 1, 1) := by decide +kernel
theorem dX2_isBetter_25 : decode cX2_isBetter 25 = .ok (.iload_n 2, 1) := by decide +kernel
theorem dX2_isBetter_26 : decode cX2_isBetter 26 = .ok (.invokevirtual 58, 3) := by decide +kernel
theorem dX2_isBetter_29 : decode cX2_isBetter 29 = .ok (.iload_n 3, 1) := by decide +kernel
theorem dX2_isBetter_30 : decode cX2_isBetter 30 = .ok (.if_icmp .gt 7, 3) := by decide +kernel
theorem dX2_isBetter_33 : decode cX2_isBetter 33 = .ok (.iconst 1, 1) := by decide +kernel
theorem dX2_isBetter_34 : decode cX2_isBetter 34 = .ok (.goto 4, 3) := by decide +kernel
theorem dX2_isBetter_37 : decode cX2_isBetter 37 = .ok (.iconst 0, 1) := by decide +kernel
theorem dX2_isBetter_38 : decode cX2_isBetter 38 = .ok (.istore 5, 2) := by decide +kernel
theorem dX2_isBetter_40 : decode cX2_isBetter 40 = .ok (.iload 4, 2) := by decide +kernel
theorem dX2_isBetter_42 : decode cX2_isBetter 42 = .ok (.iload 5, 2) := by decide +kernel
theorem dX2_isBetter_44 : decode cX2_isBetter 44 = .ok (.if_icmp .eq 6, 3) := by decide +kernel
theorem dX2_isBetter_47 : decode cX2_isBetter 47 = .ok (.iload 4, 2) := by decide +kernel
theorem dX2_isBetter_49 : decode cX2_isBetter 49 = .ok (.ireturn, 1) := by decide +kernel
theorem dX2_isBetter_50 : decode cX2_isBetter 50 = .ok (.aload_n 0, 1) := by decide +kernel
theorem dX2_isBetter_51 : decode cX2_isBetter 51 = .ok (.getfield 20, 3) := by decide +kernel
theorem dX2_isBetter_54 : decode cX2_isBetter 54 = .ok (.iconst 2, 1) := by decide +kernel
theorem dX2_isBetter_55 : decode cX2_isBetter 55 = .ok (.iload_n 1, 1) := by decide +kernel
theorem dX2_isBetter_56 : decode cX2_isBetter 56 = .ok (.invokevirtual 58, 3) := by decide +kernel
theorem dX2_isBetter_59 : decode cX2_isBetter 59 = .ok (.aload_n 0, 1) := by decide +kernel
theorem dX2_isBetter_60 : decode cX2_isBetter 60 = .ok (.getfield 20, 3) := by decide +kernel
theorem dX2_isBetter_63 : decode cX2_isBetter 63 = .ok (.iconst 2, 1) := by decide +kernel
theorem dX2_isBetter_64 : decode cX2_isBetter 64 = .ok (.iload_n 2, 1) := by decide +kernel
theorem dX2_isBetter_65 : decode cX2_isBetter 65 = .ok (.invokevirtual 58, 3) := by decide +kernel
theorem dX2_isBetter_68 : decode cX2_isBetter 68 = .ok (.isub, 1) := by decide +kernel
theorem dX2_isBetter_69 : decode cX2_isBetter 69 = .ok (.istore 6, 2) := by decide +kernel
theorem dX2_isBetter_71 : decode cX2_isBetter 71 = .ok (.aload_n 0, 1) := by decide +kernel
theorem dX2_isBetter_72 : decode cX2_isBetter 72 = .ok (.getfield 20, 3) := by decide +kernel
theorem dX2_isBetter_75 : decode cX2_isBetter 75 = .ok (.iconst 0, 1) := by decide +kernel
theorem dX2_isBetter_76 : decode cX2_isBetter 76 = .ok (.iload_n 1, 1) := by decide +kernel
theorem dX2_isBetter_77 : decode cX2_isBetter 77 = .ok (.invokevirtual 58, 3) := by decide +kernel
theorem dX2_isBetter_80 : decode cX2_isBetter 80 = .ok (.aload_n 0, 1) := by decide +kernel
theorem dX2_isBetter_81 : decode cX2_isBetter 81 = .ok (.getfield 20, 3) := by decide +kernel
theorem dX2_isBetter_84 : decode cX2_isBetter 84 = .ok (.iconst 0, 1) := by decide +kernel
theorem dX2_isBetter_85 : decode cX2_isBetter 85 = .ok (.iload_n 2, 1) := by decide +kernel
theorem dX2_isBetter_86 : decode cX2_isBetter 86 = .ok (.invokevirtual 58, 3) := by decide +kernel
theorem dX2_isBetter_89 : decode cX2_isBetter 89 = .ok (.isub, 1) := by decide +kernel
theorem dX2_isBetter_90 : decode cX2_isBetter 90 = .ok (.istore 7, 2) := by decide +kernel
theorem dX2_isBetter_92 : decode cX2_isBetter 92 = .ok (.iload 6, 2) := by decide +kernel
theorem dX2_isBetter_94 : decode cX2_isBetter 94 = .ok (.ifCond .lt 13, 3) := by decide +kernel
theorem dX2_isBetter_97 : decode cX2_isBetter 97 = .ok (.iload 6, 2) := by decide +kernel
theorem dX2_isBetter_99 : decode cX2_isBetter 99 = .ok (.ifCond .ne 12, 3) := by decide +kernel
theorem dX2_isBetter_102 : decode cX2_isBetter 102 = .ok (.iload 7, 2) := by decide +kernel
theorem dX2_isBetter_104 : decode cX2_isBetter 104 = .ok (.ifCond .ge 7, 3) := by decide +kernel
theorem dX2_isBetter_107 : decode cX2_isBetter 107 = .ok (.iconst 1, 1) := by decide +kernel
theorem dX2_isBetter_108 : decode cX2_isBetter 108 = .ok (.goto 4, 3) := by decide +kernel
theorem dX2_isBetter_111 : decode cX2_isBetter 111 = .ok (.iconst 0, 1) := by decide +kernel
theorem dX2_isBetter_112 : decode cX2_isBetter 112 = .ok (.ireturn, 1) := by decide +kernel
theorem dX2_passHour_0 : decode cX2_passHour 0 = .ok (.aload_n 0, 1) := by decide +kernel
theorem dX2_passHour_1 : decode cX2_passHour 1 = .ok (.invokevirtual 110, 3) := by decide +kernel
theorem dX2_passHour_4 : decode cX2_passHour 4 = .ok (.istore_n 2, 1) := by decide +kernel
theorem dX2_passHour_5 : decode cX2_passHour 5 = .ok (.iload_n 1, 1) := by decide +kernel
theorem dX2_passHour_6 : decode cX2_passHour 6 = .ok (.ifCond .eq 11, 3) := by decide +kernel
theorem dX2_passHour_9 : decode cX2_passHour 9 = .ok (.aload_n 0, 1) := by decide +kernel
theorem dX2_passHour_10 : decode cX2_passHour 10 = .ok (.iload_n 2, 1) := by decide +kernel
theorem dX2_passHour_11 : decode cX2_passHour 11 = .ok (.invokevirtual 114, 3) := by decide +kernel
theorem dX2_passHour_14 : decode cX2_passHour 14 = .ok (.goto 4, 3) := by decide +kernel
theorem dX2_passHour_17 : decode cX2_passHour 17 = .ok (.iconst 0, 1) := by decide +kernel
theorem dX2_passHour_18 : decode cX2_passHour 18 = .ok (.istore_n 3, 1) := by decide +kernel
theorem dX2_passHour_19 : decode cX2_passHour 19 = .ok (.iconst 0, 1) := by decide +kernel
theorem dX2_passHour_20 : decode cX2_passHour 20 = .ok (.istore 4, 2) := by decide +kernel
theorem dX2_passHour_22 : decode cX2_passHour 22 = .ok (.iload 4, 2) := by decide +kernel
theorem dX2_passHour_24 : decode cX2_passHour 24 = .ok (.bipush 10, 2) := by decide +kernel
theorem dX2_passHour_26 : decode cX2_passHour 26 = .ok (.if_icmp .ge 90, 3) := by decide +kernel
theorem dX2_passHour_29 : decode cX2_passHour 29 = .ok (.iload_n 3, 1) := by decide +kernel
theorem dX2_passHour_30 : decode cX2_passHour 30 = .ok (.iload 4, 2) := by decide +kernel
theorem dX2_passHour_32 : decode cX2_passHour 32 = .ok (.ishr, 1) := by decide +kernel
theorem dX2_passHour_33 : decode cX2_passHour 33 = .ok (.iconst 1, 1) := by decide +kernel
theorem dX2_passHour_34 : decode cX2_passHour 34 = .ok (.iand, 1) := by decide +kernel
theorem dX2_passHour_35 : decode cX2_passHour 35 = .ok (.iconst 1, 1) := by decide +kernel
theorem dX2_passHour_36 : decode cX2_passHour 36 = .ok (.if_icmp .ne 28, 3) := by decide +kernel
theorem dX2_passHour_39 : decode cX2_passHour 39 = .ok (.aload_n 0, 1) := by decide +kernel
theorem dX2_passHour_40 : decode cX2_passHour 40 = .ok (.getfield 20, 3) := by decide +kernel
theorem dX2_passHour_43 : decode cX2_passHour 43 = .ok (.iconst 2, 1) := by decide +kernel
theorem dX2_passHour_44 : decode cX2_passHour 44 = .ok (.iload 4, 2) := by decide +kernel
theorem dX2_passHour_46 : decode cX2_passHour 46 = .ok (.iconst 1, 1) := by decide +kernel
theorem dX2_passHour_47 : decode cX2_passHour 47 = .ok (.invokevirtual 117, 3) := by decide +kernel
theorem dX2_passHour_50 : decode cX2_passHour 50 = .ok (.aload_n 0, 1) := by decide +kernel
theorem dX2_passHour_51 : decode cX2_passHour 51 = .ok (.getfield 20, 3) := by decide +kernel
theorem dX2_passHour_54 : decode cX2_passHour 54 = .ok (.iconst 3, 1) := by decide +kernel
theorem dX2_passHour_55 : decode cX2_passHour 55 = .ok (.iload 4, 2) := by decide +kernel
theorem dX2_passHour_57 : decode cX2_passHour 57 = .ok (.iconst 1, 1) := by decide +kernel
theorem dX2_passHour_58 : decode cX2_passHour 58 = .ok (.invokevirtual 117, 3) := by decide +kernel
theorem dX2_passHour_61 : decode cX2_passHour 61 = .ok (.goto 25, 3) := by decide +kernel
theorem dX2_passHour_64 : decode cX2_passHour 64 = .ok (.aload_n 0, 1) := by decide +kernel
theorem dX2_passHour_65 : decode cX2_passHour 65 = .ok (.getfield 20, 3) := by decide +kernel
theorem dX2_passHour_68 : decode cX2_passHour 68 = .ok (.iconst 2, 1) := by decide +kernel
theorem dX2_passHour_69 : decode cX2_passHour 69 = .ok (.iload 4, 2) := by decide +kernel
theorem dX2_passHour_71 : decode cX2_passHour 71 = .ok (.iconst 1, 1) := by decide +kernel
theorem dX2_passHour_72 : decode cX2_passHour 72 = .ok (.invokevirtual 120, 3) := by decide +kernel
theorem dX2_passHour_75 : decode cX2_passHour 75 = .ok (.aload_n 0, 1) := by decide +kernel
theorem dX2_passHour_76 : decode cX2_passHour 76 = .ok (.getfield 20, 3) := by decide +kernel
theorem dX2_passHour_79 : decode cX2_passHour 79 = .ok (.iconst 5, 1) := by decide +kernel
theorem dX2_passHour_80 : decode cX2_passHour 80 = .ok (.iload 4, 2) := by decide +kernel
theorem dX2_passHour_82 : decode cX2_passHour 82 = .ok (.iconst 1, 1) := by decide +kernel
theorem dX2_passHour_83 : decode cX2_passHour 83 = .ok (.invokevirtual 120, 3) := by decide +kernel
theorem dX2_passHour_86 : decode cX2_passHour 86 = .ok (.aload_n 0, 1) := by decide +kernel
theorem dX2_passHour_87 : decode cX2_passHour 87 = .ok (.getfield 44, 3) := by decide +kernel
theorem dX2_passHour_90 : decode cX2_passHour 90 = .ok (.bipush 10, 2) := by decide +kernel
theorem dX2_passHour_92 : decode cX2_passHour 92 = .ok (.irem, 1) := by decide +kernel
theorem dX2_passHour_93 : decode cX2_passHour 93 = .ok (.bipush 9, 2) := by decide +kernel
theorem dX2_passHour_95 : decode cX2_passHour 95 = .ok (.if_icmp .ne 15, 3) := by decide +kernel
theorem dX2_passHour_98 : decode cX2_passHour 98 = .ok (.aload_n 0, 1) := by decide +kernel
theorem dX2_passHour_99 : decode cX2_passHour 99 = .ok (.getfield 20, 3) := by decide +kernel
theorem dX2_passHour_102 : decode cX2_passHour 102 = .ok (.iconst 2, 1) := by decide +kernel
theorem dX2_passHour_103 : decode cX2_passHour 103 = .ok (.iload 4, 2) := by decide +kernel
theorem dX2_passHour_105 : decode cX2_passHour 105 = .ok (.bipush 8, 2) := by decide +kernel
theorem dX2_passHour_107 : decode cX2_passHour 107 = .ok (.invokevirtual 120, 3) := by decide +kernel
theorem dX2_passHour_110 : decode cX2_passHour 110 = .ok (.iinc 4 1, 3) := by decide +kernel
theorem dX2_passHour_113 : decode cX2_passHour 113 = .ok (.goto (-91), 3) := by decide +kernel
theorem dX2_passHour_116 : decode cX2_passHour 116 = .ok (.iload_n 2, 1) := by decide +kernel
theorem dX2_passHour_117 : decode cX2_passHour 117 = .ok (.bipush (-5), 2) := by decide +kernel
theorem dX2_passHour_119 : decode cX2_passHour 119 = .ok (.if_icmp .eq 24, 3) := by decide +kernel
theorem dX2_passHour_122 : decode cX2_passHour 122 = .ok (.aload_n 0, 1) := by decide +kernel
theorem dX2_passHour_123 : decode cX2_passHour 123 = .ok (.getfield 20, 3) := by decide +kernel
theorem dX2_passHour_126 : decode cX2_passHour 126 = .ok (.iconst 3, 1) := by decide +kernel
theorem dX2_passHour_127 : decode cX2_passHour 127 = .ok (.iload_n 2, 1) := by decide +kernel
theorem dX2_passHour_128 : decode cX2_passHour 128 = .ok (.iconst 0, 1) := by decide +kernel
theorem dX2_passHour_129 : decode cX2_passHour 129 = .ok (.invokevirtual 40, 3) := by decide +kernel
theorem dX2_passHour_132 : decode cX2_passHour 132 = .ok (.aload_n 0, 1) := by decide +kernel
theorem dX2_passHour_133 : decode cX2_passHour 133 = .ok (.getfield 20, 3) := by decide +kernel
theorem dX2_passHour_136 : decode cX2_passHour 136 = .ok (.bipush 8, 2) := by decide +kernel
theorem dX2_passHour_138 : decode cX2_passHour 138 = .ok (.iload_n 2, 1) := by decide +kernel
theorem dX2_passHour_139 : decode cX2_passHour 139 = .ok (.iconst 1, 1) := by decide +kernel
theorem dX2_passHour_140 : decode cX2_passHour 140 = .ok (.invokevirtual 117, 3) := by decide +kernel
theorem dX2_passHour_143 : decode cX2_passHour 143 = .ok (.aload_n 0, 1) := by decide +kernel
theorem dX2_passHour_144 : decode cX2_passHour 144 = .ok (.dup, 1) := by decide +kernel
theorem dX2_passHour_145 : decode cX2_passHour 145 = .ok (.getfield 44, 3) := by decide +kernel
theorem dX2_passHour_148 : decode cX2_passHour 148 = .ok (.iconst 1, 1) := by decide +kernel
theorem dX2_passHour_149 : decode cX2_passHour 149 = .ok (.iadd, 1) := by decide +kernel
theorem dX2_passHour_150 : decode cX2_passHour 150 = .ok (.putfield 44, 3) := by decide +kernel
theorem dX2_passHour_153 : decode cX2_passHour 153 = .ok (.return_, 1) := by decide +kernel
theorem dX2_giveLessons_0 : decode cX2_giveLessons 0 = .ok (.iconst 0, 1) := by decide +kernel
theorem dX2_giveLessons_1 : decode cX2_giveLessons 1 = .ok (.istore_n 2, 1) := by decide +kernel
theorem dX2_giveLessons_2 : decode cX2_giveLessons 2 = .ok (.iconst 0, 1) := by decide +kernel
theorem dX2_giveLessons_3 : decode cX2_giveLessons 3 = .ok (.istore_n 3, 1) := by decide +kernel
theorem dX2_giveLessons_4 : decode cX2_giveLessons 4 = .ok (.iconst 0, 1) := by decide +kernel
theorem dX2_giveLessons_5 : decode cX2_giveLessons 5 = .ok (.istore 4, 2) := by decide +kernel
theorem dX2_giveLessons_7 : decode cX2_giveLessons 7 = .ok (.iload 4, 2) := by decide +kernel
theorem dX2_giveLessons_9 : decode cX2_giveLessons 9 = .ok (.aload_n 0, 1) := by decide +kernel
theorem dX2_giveLessons_10 : decode cX2_giveLessons 10 = .ok (.getfield 52, 3) := by decide +kernel
theorem dX2_giveLessons_13 : decode cX2_giveLessons 13 = .ok (.if_icmp .ge 61, 3) := by decide +kernel
theorem dX2_giveLessons_16 : decode cX2_giveLessons 16 = .ok (.aload_n 0, 1) := by decide +kernel
theorem dX2_giveLessons_17 : decode cX2_giveLessons 17 = .ok (.iload 4, 2) := by decide +kernel
theorem dX2_giveLessons_19 : decode cX2_giveLessons 19 = .ok (.iconst 0, 1) := by decide +kernel
theorem dX2_giveLessons_20 : decode cX2_giveLessons 20 = .ok (.invokevirtual 77, 3) := by decide +kernel
theorem dX2_giveLessons_23 : decode cX2_giveLessons 23 = .ok (.ifCond .eq 25, 3) := by decide +kernel
theorem dX2_giveLessons_26 : decode cX2_giveLessons 26 = .ok (.iload_n 2, 1) := by decide +kernel
theorem dX2_giveLessons_27 : decode cX2_giveLessons 27 = .ok (.aload_n 0, 1) := by decide +kernel
theorem dX2_giveLessons_28 : decode cX2_giveLessons 28 = .ok (.aload_n 0, 1) := by decide +kernel
theorem dX2_giveLessons_29 : decode cX2_giveLessons 29 = .ok (.getfield 26, 3) := by decide +kernel
theorem dX2_giveLessons_32 : decode cX2_giveLessons 32 = .ok (.iconst 2, 1) := by decide +kernel
theorem dX2_giveLessons_33 : decode cX2_giveLessons 33 = .ok (.iload 4, 2) := by decide +kernel
theorem dX2_giveLessons_35 : decode cX2_giveLessons 35 = .ok (.invokevirtual 58, 3) := by decide +kernel
theorem dX2_giveLessons_38 : decode cX2_giveLessons 38 = .ok (.iload_n 1, 1) := by decide +kernel
theorem dX2_giveLessons_39 : decode cX2_giveLessons 39 = .ok (.iload_n 2, 1) := by decide +kernel
theorem dX2_giveLessons_40 : decode cX2_giveLessons 40 = .ok (.invokevirtual 123, 3) := by decide +kernel
theorem dX2_giveLessons_43 : decode cX2_giveLessons 43 = .ok (.ior, 1) := by decide +kernel
theorem dX2_giveLessons_44 : decode cX2_giveLessons 44 = .ok (.istore_n 2, 1) := by decide +kernel
theorem dX2_giveLessons_45 : decode cX2_giveLessons 45 = .ok (.goto 23, 3) := by decide +kernel
theorem dX2_giveLessons_48 : decode cX2_giveLessons 48 = .ok (.iload_n 3, 1) := by decide +kernel
theorem dX2_giveLessons_49 : decode cX2_giveLessons 49 = .ok (.iload 4, 2) := by decide +kernel
theorem dX2_giveLessons_51 : decode cX2_giveLessons 51 = .ok (.if_icmp .ge 14, 3) := by decide +kernel
theorem dX2_giveLessons_54 : decode cX2_giveLessons 54 = .ok (.aload_n 0, 1) := by decide +kernel
theorem dX2_giveLessons_55 : decode cX2_giveLessons 55 = .ok (.getfield 26, 3) := by decide +kernel
theorem dX2_giveLessons_58 : decode cX2_giveLessons 58 = .ok (.iload 4, 2) := by decide +kernel
theorem dX2_giveLessons_60 : decode cX2_giveLessons 60 = .ok (.iload_n 3, 1) := by decide +kernel
theorem dX2_giveLessons_61 : decode cX2_giveLessons 61 = .ok (.iconst 3, 1) := by decide +kernel
theorem dX2_giveLessons_62 : decode cX2_giveLessons 62 = .ok (.invokevirtual 96, 3) := by decide +kernel
theorem dX2_giveLessons_65 : decode cX2_giveLessons 65 = .ok (.iinc 3 1, 3) := by decide +kernel
theorem dX2_giveLessons_68 : decode cX2_giveLessons 68 = .ok (.iinc 4 1, 3) := by decide +kernel
theorem dX2_giveLessons_71 : decode cX2_giveLessons 71 = .ok (.goto (-64), 3) := by decide +kernel
theorem dX2_giveLessons_74 : decode cX2_giveLessons 74 = .ok (.aload_n 0, 1) := by decide +kernel
theorem dX2_giveLessons_75 : decode cX2_giveLessons 75 = .ok (.iload_n 3, 1) := by decide +kernel
theorem dX2_giveLessons_76 : decode cX2_giveLessons 76 = .ok (.putfield 52, 3) := by decide +kernel
theorem dX2_giveLessons_79 : decode cX2_giveLessons 79 = .ok (.iload_n 2, 1) := by decide +kernel
theorem dX2_giveLessons_80 : decode cX2_giveLessons 80 = .ok (.ireturn, 1) := by decide +kernel
theorem dX2_giveLesson_0 : decode cX2_giveLesson 0 = .ok (.aload_n 0, 1) := by decide +kernel
theorem dX2_giveLesson_1 : decode cX2_giveLesson 1 = .ok (.iload_n 1, 1) := by decide +kernel
theorem dX2_giveLesson_2 : decode cX2_giveLesson 2 = .ok (.iload_n 2, 1) := by decide +kernel
theorem dX2_giveLesson_3 : decode cX2_giveLesson 3 = .ok (.iload_n 3, 1) := by decide +kernel
theorem dX2_giveLesson_4 : decode cX2_giveLesson 4 = .ok (.invokevirtual 126, 3) := by decide +kernel
theorem dX2_giveLesson_7 : decode cX2_giveLesson 7 = .ok (.istore 4, 2) := by decide +kernel
theorem dX2_giveLesson_9 : decode cX2_giveLesson 9 = .ok (.iload 4, 2) := by decide +kernel
theorem dX2_giveLesson_11 : decode cX2_giveLesson 11 = .ok (.bipush (-5), 2) := by decide +kernel
theorem dX2_giveLesson_13 : decode cX2_giveLesson 13 = .ok (.if_icmp .ne 16, 3) := by decide +kernel
theorem dX2_giveLesson_16 : decode cX2_giveLesson 16 = .ok (.aload_n 0, 1) := by decide +kernel
theorem dX2_giveLesson_17 : decode cX2_giveLesson 17 = .ok (.getfield 23, 3) := by decide +kernel
theorem dX2_giveLesson_20 : decode cX2_giveLesson 20 = .ok (.bipush 7, 2) := by decide +kernel
theorem dX2_giveLesson_22 : decode cX2_giveLesson 22 = .ok (.iload_n 1, 1) := by decide +kernel
theorem dX2_giveLesson_23 : decode cX2_giveLesson 23 = .ok (.iconst 1, 1) := by decide +kernel
theorem dX2_giveLesson_24 : decode cX2_giveLesson 24 = .ok (.invokevirtual 117, 3) := by decide +kernel
theorem dX2_giveLesson_27 : decode cX2_giveLesson 27 = .ok (.iconst 0, 1) := by decide +kernel
theorem dX2_giveLesson_28 : decode cX2_giveLesson 28 = .ok (.ireturn, 1) := by decide +kernel
theorem dX2_giveLesson_29 : decode cX2_giveLesson 29 = .ok (.aload_n 0, 1) := by decide +kernel
theorem dX2_giveLesson_30 : decode cX2_giveLesson 30 = .ok (.getfield 20, 3) := by decide +kernel
theorem dX2_giveLesson_33 : decode cX2_giveLesson 33 = .ok (.bipush 6, 2) := by decide +kernel
theorem dX2_giveLesson_35 : decode cX2_giveLesson 35 = .ok (.iload 4, 2) := by decide +kernel
theorem dX2_giveLesson_37 : decode cX2_giveLesson 37 = .ok (.iconst 1, 1) := by decide +kernel
theorem dX2_giveLesson_38 : decode cX2_giveLesson 38 = .ok (.invokevirtual 117, 3) := by decide +kernel
theorem dX2_giveLesson_41 : decode cX2_giveLesson 41 = .ok (.aload_n 0, 1) := by decide +kernel
theorem dX2_giveLesson_42 : decode cX2_giveLesson 42 = .ok (.getfield 23, 3) := by decide +kernel
theorem dX2_giveLesson_45 : decode cX2_giveLesson 45 = .ok (.iconst 5, 1) := by decide +kernel
theorem dX2_giveLesson_46 : decode cX2_giveLesson 46 = .ok (.iload_n 1, 1) := by decide +kernel
theorem dX2_giveLesson_47 : decode cX2_giveLesson 47 = .ok (.iconst 1, 1) := by decide +kernel
theorem dX2_giveLesson_48 : decode cX2_giveLesson 48 = .ok (.invokevirtual 117, 3) := by decide +kernel
theorem dX2_giveLesson_51 : decode cX2_giveLesson 51 = .ok (.aload_n 0, 1) := by decide +kernel
theorem dX2_giveLesson_52 : decode cX2_giveLesson 52 = .ok (.getfield 23, 3) := by decide +kernel
theorem dX2_giveLesson_55 : decode cX2_giveLesson 55 = .ok (.bipush 9, 2) := by decide +kernel
theorem dX2_giveLesson_57 : decode cX2_giveLesson 57 = .ok (.iload_n 1, 1) := by decide +kernel
theorem dX2_giveLesson_58 : decode cX2_giveLesson 58 = .ok (.iload 4, 2) := by decide +kernel
theorem dX2_giveLesson_60 : decode cX2_giveLesson 60 = .ok (.invokevirtual 40, 3) := by decide +kernel
theorem dX2_giveLesson_63 : decode cX2_giveLesson 63 = .ok (.aload_n 0, 1) := by decide +kernel
theorem dX2_giveLesson_64 : decode cX2_giveLesson 64 = .ok (.getfield 20, 3) := by decide +kernel
theorem dX2_giveLesson_67 : decode cX2_giveLesson 67 = .ok (.iconst 1, 1) := by decide +kernel
theorem dX2_giveLesson_68 : decode cX2_giveLesson 68 = .ok (.iload 4, 2) := by decide +kernel
theorem dX2_giveLesson_70 : decode cX2_giveLesson 70 = .ok (.invokevirtual 58, 3) := by decide +kernel
theorem dX2_giveLesson_73 : decode cX2_giveLesson 73 = .ok (.aload_n 0, 1) := by decide +kernel
theorem dX2_giveLesson_74 : decode cX2_giveLesson 74 = .ok (.iload_n 1, 1) := by decide +kernel
theorem dX2_giveLesson_75 : decode cX2_giveLesson 75 = .ok (.invokevirtual 66, 3) := by decide +kernel
theorem dX2_giveLesson_78 : decode cX2_giveLesson 78 = .ok (.if_icmp .le 13, 3) := by decide +kernel
theorem dX2_giveLesson_81 : decode cX2_giveLesson 81 = .ok (.aload_n 0, 1) := by decide +kernel
theorem dX2_giveLesson_82 : decode cX2_giveLesson 82 = .ok (.iload_n 1, 1) := by decide +kernel
theorem dX2_giveLesson_83 : decode cX2_giveLesson 83 = .ok (.iload 4, 2) := by decide +kernel
theorem dX2_giveLesson_85 : decode cX2_giveLesson 85 = .ok (.invokevirtual 129, 3) := by decide +kernel
theorem dX2_giveLesson_88 : decode cX2_giveLesson 88 = .ok (.goto 8, 3) := by decide +kernel
theorem dX2_giveLesson_91 : decode cX2_giveLesson 91 = .ok (.aload_n 0, 1) := by decide +kernel
theorem dX2_giveLesson_92 : decode cX2_giveLesson 92 = .ok (.iload_n 1, 1) := by decide +kernel
theorem dX2_giveLesson_93 : decode cX2_giveLesson 93 = .ok (.invokevirtual 132, 3) := by decide +kernel
theorem dX2_giveLesson_96 : decode cX2_giveLesson 96 = .ok (.aload_n 0, 1) := by decide +kernel
theorem dX2_giveLesson_97 : decode cX2_giveLesson 97 = .ok (.iload 4, 2) := by decide +kernel
theorem dX2_giveLesson_99 : decode cX2_giveLesson 99 = .ok (.aload_n 0, 1) := by decide +kernel
theorem dX2_giveLesson_100 : decode cX2_giveLesson 100 = .ok (.getfield 23, 3) := by decide +kernel
theorem dX2_giveLesson_103 : decode cX2_giveLesson 103 = .ok (.iconst 0, 1) := by decide +kernel
theorem dX2_giveLesson_104 : decode cX2_giveLesson 104 = .ok (.iload_n 1, 1) := by decide +kernel
theorem dX2_giveLesson_105 : decode cX2_giveLesson 105 = .ok (.invokevirtual 58, 3) := by decide +kernel
theorem dX2_giveLesson_108 : decode cX2_giveLesson 108 = .ok (.invokevirtual 136, 3) := by decide +kernel
theorem dX2_giveLesson_111 : decode cX2_giveLesson 111 = .ok (.iconst 1, 1) := by decide +kernel
theorem dX2_giveLesson_112 : decode cX2_giveLesson 112 = .ok (.iload 4, 2) := by decide +kernel
theorem dX2_giveLesson_114 : decode cX2_giveLesson 114 = .ok (.ishl, 1) := by decide +kernel
theorem dX2_giveLesson_115 : decode cX2_giveLesson 115 = .ok (.ireturn, 1) := by decide +kernel
theorem dX2_letFall_0 : decode cX2_letFall 0 = .ok (.aload_n 0, 1) := by decide +kernel
theorem dX2_letFall_1 : decode cX2_letFall 1 = .ok (.getfield 23, 3) := by decide +kernel
theorem dX2_letFall_4 : decode cX2_letFall 4 = .ok (.iconst 2, 1) := by decide +kernel
theorem dX2_letFall_5 : decode cX2_letFall 5 = .ok (.iload_n 1, 1) := by decide +kernel
theorem dX2_letFall_6 : decode cX2_letFall 6 = .ok (.bipush 9, 2) := by decide +kernel
theorem dX2_letFall_8 : decode cX2_letFall 8 = .ok (.invokevirtual 139, 3) := by decide +kernel
theorem dX2_letFall_11 : decode cX2_letFall 11 = .ok (.aload_n 0, 1) := by decide +kernel
theorem dX2_letFall_12 : decode cX2_letFall 12 = .ok (.getfield 23, 3) := by decide +kernel
theorem dX2_letFall_15 : decode cX2_letFall 15 = .ok (.iconst 4, 1) := by decide +kernel
theorem dX2_letFall_16 : decode cX2_letFall 16 = .ok (.iload_n 1, 1) := by decide +kernel
theorem dX2_letFall_17 : decode cX2_letFall 17 = .ok (.iconst 0, 1) := by decide +kernel
theorem dX2_letFall_18 : decode cX2_letFall 18 = .ok (.invokevirtual 40, 3) := by decide +kernel
theorem dX2_letFall_21 : decode cX2_letFall 21 = .ok (.aload_n 0, 1) := by decide +kernel
theorem dX2_letFall_22 : decode cX2_letFall 22 = .ok (.getfield 23, 3) := by decide +kernel
theorem dX2_letFall_25 : decode cX2_letFall 25 = .ok (.bipush 6, 2) := by decide +kernel
theorem dX2_letFall_27 : decode cX2_letFall 27 = .ok (.iload_n 1, 1) := by decide +kernel
theorem dX2_letFall_28 : decode cX2_letFall 28 = .ok (.iconst 1, 1) := by decide +kernel
theorem dX2_letFall_29 : decode cX2_letFall 29 = .ok (.invokevirtual 117, 3) := by decide +kernel
theorem dX2_letFall_32 : decode cX2_letFall 32 = .ok (.aload_n 0, 1) := by decide +kernel
theorem dX2_letFall_33 : decode cX2_letFall 33 = .ok (.getfield 20, 3) := by decide +kernel
theorem dX2_letFall_36 : decode cX2_letFall 36 = .ok (.bipush 7, 2) := by decide +kernel
theorem dX2_letFall_38 : decode cX2_letFall 38 = .ok (.iload_n 2, 1) := by decide +kernel
theorem dX2_letFall_39 : decode cX2_letFall 39 = .ok (.iconst 1, 1) := by decide +kernel
theorem dX2_letFall_40 : decode cX2_letFall 40 = .ok (.invokevirtual 117, 3) := by decide +kernel
theorem dX2_letFall_43 : decode cX2_letFall 43 = .ok (.aload_n 0, 1) := by decide +kernel
theorem dX2_letFall_44 : decode cX2_letFall 44 = .ok (.getfield 55, 3) := by decide +kernel
theorem dX2_letFall_47 : decode cX2_letFall 47 = .ok (.bipush 20, 2) := by decide +kernel
theorem dX2_letFall_49 : decode cX2_letFall 49 = .ok (.irem, 1) := by decide +kernel
theorem dX2_letFall_50 : decode cX2_letFall 50 = .ok (.istore_n 3, 1) := by decide +kernel
theorem dX2_letFall_51 : decode cX2_letFall 51 = .ok (.aload_n 0, 1) := by decide +kernel
theorem dX2_letFall_52 : decode cX2_letFall 52 = .ok (.getfield 29, 3) := by decide +kernel
theorem dX2_letFall_55 : decode cX2_letFall 55 = .ok (.iconst 0, 1) := by decide +kernel
theorem dX2_letFall_56 : decode cX2_letFall 56 = .ok (.iload_n 3, 1) := by decide +kernel
theorem dX2_letFall_57 : decode cX2_letFall 57 = .ok (.aload_n 0, 1) := by decide +kernel
theorem dX2_letFall_58 : decode cX2_letFall 58 = .ok (.getfield 44, 3) := by decide +kernel
theorem dX2_letFall_61 : decode cX2_letFall 61 = .ok (.invokevirtual 40, 3) := by decide +kernel
theorem dX2_letFall_64 : decode cX2_letFall 64 = .ok (.aload_n 0, 1) := by decide +kernel
theorem dX2_letFall_65 : decode cX2_letFall 65 = .ok (.getfield 29, 3) := by decide +kernel
theorem dX2_letFall_68 : decode cX2_letFall 68 = .ok (.iconst 1, 1) := by decide +kernel
theorem dX2_letFall_69 : decode cX2_letFall 69 = .ok (.iload_n 3, 1) := by decide +kernel
theorem dX2_letFall_70 : decode cX2_letFall 70 = .ok (.iload_n 1, 1) := by decide +kernel
theorem dX2_letFall_71 : decode cX2_letFall 71 = .ok (.invokevirtual 40, 3) := by decide +kernel
theorem dX2_letFall_74 : decode cX2_letFall 74 = .ok (.aload_n 0, 1) := by decide +kernel
theorem dX2_letFall_75 : decode cX2_letFall 75 = .ok (.getfield 29, 3) := by decide +kernel
theorem dX2_letFall_78 : decode cX2_letFall 78 = .ok (.iconst 2, 1) := by decide +kernel
theorem dX2_letFall_79 : decode cX2_letFall 79 = .ok (.iload_n 3, 1) := by decide +kernel
theorem dX2_letFall_80 : decode cX2_letFall 80 = .ok (.iload_n 2, 1) := by decide +kernel
theorem dX2_letFall_81 : decode cX2_letFall 81 = .ok (.invokevirtual 40, 3) := by decide +kernel
theorem dX2_letFall_84 : decode cX2_letFall 84 = .ok (.aload_n 0, 1) := by decide +kernel
theorem dX2_letFall_85 : decode cX2_letFall 85 = .ok (.dup, 1) := by decide +kernel
theorem dX2_letFall_86 : decode cX2_letFall 86 = .ok (.getfield 55, 3) := by decide +kernel
theorem dX2_letFall_89 : decode cX2_letFall 89 = .ok (.iconst 1, 1) := by decide +kernel
theorem dX2_letFall_90 : decode cX2_letFall 90 = .ok (.iadd, 1) := by decide +kernel
theorem dX2_letFall_91 : decode cX2_letFall 91 = .ok (.putfield 55, 3) := by decide +kernel
theorem dX2_letFall_94 : decode cX2_letFall 94 = .ok (.return_, 1) := by decide +kernel
theorem dX2_letLearn_0 : decode cX2_letLearn 0 = .ok (.aload_n 0, 1) := by decide +kernel
theorem dX2_letLearn_1 : decode cX2_letLearn 1 = .ok (.getfield 23, 3) := by decide +kernel
theorem dX2_letLearn_4 : decode cX2_letLearn 4 = .ok (.iconst 2, 1) := by decide +kernel
theorem dX2_letLearn_5 : decode cX2_letLearn 5 = .ok (.iload_n 1, 1) := by decide +kernel
theorem dX2_letLearn_6 : decode cX2_letLearn 6 = .ok (.iconst 1, 1) := by decide +kernel
theorem dX2_letLearn_7 : decode cX2_letLearn 7 = .ok (.invokevirtual 120, 3) := by decide +kernel
theorem dX2_letLearn_10 : decode cX2_letLearn 10 = .ok (.aload_n 0, 1) := by decide +kernel
theorem dX2_letLearn_11 : decode cX2_letLearn 11 = .ok (.getfield 23, 3) := by decide +kernel
theorem dX2_letLearn_14 : decode cX2_letLearn 14 = .ok (.iconst 4, 1) := by decide +kernel
theorem dX2_letLearn_15 : decode cX2_letLearn 15 = .ok (.iload_n 1, 1) := by decide +kernel
theorem dX2_letLearn_16 : decode cX2_letLearn 16 = .ok (.iconst 1, 1) := by decide +kernel
theorem dX2_letLearn_17 : decode cX2_letLearn 17 = .ok (.invokevirtual 117, 3) := by decide +kernel
theorem dX2_letLearn_20 : decode cX2_letLearn 20 = .ok (.aload_n 0, 1) := by decide +kernel
theorem dX2_letLearn_21 : decode cX2_letLearn 21 = .ok (.getfield 23, 3) := by decide +kernel
theorem dX2_letLearn_24 : decode cX2_letLearn 24 = .ok (.iconst 4, 1) := by decide +kernel
theorem dX2_letLearn_25 : decode cX2_letLearn 25 = .ok (.iload_n 1, 1) := by decide +kernel
theorem dX2_letLearn_26 : decode cX2_letLearn 26 = .ok (.invokevirtual 58, 3) := by decide +kernel
theorem dX2_letLearn_29 : decode cX2_letLearn 29 = .ok (.iconst 3, 1) := by decide +kernel
theorem dX2_letLearn_30 : decode cX2_letLearn 30 = .ok (.irem, 1) := by decide +kernel
theorem dX2_letLearn_31 : decode cX2_letLearn 31 = .ok (.ifCond .ne 14, 3) := by decide +kernel
theorem dX2_letLearn_34 : decode cX2_letLearn 34 = .ok (.aload_n 0, 1) := by decide +kernel
theorem dX2_letLearn_35 : decode cX2_letLearn 35 = .ok (.getfield 23, 3) := by decide +kernel
theorem dX2_letLearn_38 : decode cX2_letLearn 38 = .ok (.iconst 1, 1) := by decide +kernel
theorem dX2_letLearn_39 : decode cX2_letLearn 39 = .ok (.iload_n 1, 1) := by decide +kernel
theorem dX2_letLearn_40 : decode cX2_letLearn 40 = .ok (.bipush 9, 2) := by decide +kernel
theorem dX2_letLearn_42 : decode cX2_letLearn 42 = .ok (.invokevirtual 139, 3) := by decide +kernel
theorem dX2_letLearn_45 : decode cX2_letLearn 45 = .ok (.return_, 1) := by decide +kernel
theorem dX2_strain_0 : decode cX2_strain 0 = .ok (.iload_n 2, 1) := by decide +kernel
theorem dX2_strain_1 : decode cX2_strain 1 = .ok (.aload_n 0, 1) := by decide +kernel
theorem dX2_strain_2 : decode cX2_strain 2 = .ok (.getfield 14, 3) := by decide +kernel
theorem dX2_strain_5 : decode cX2_strain 5 = .ok (.iconst 0, 1) := by decide +kernel
theorem dX2_strain_6 : decode cX2_strain 6 = .ok (.iconst 2, 1) := by decide +kernel
theorem dX2_strain_7 : decode cX2_strain 7 = .ok (.invokevirtual 58, 3) := by decide +kernel
theorem dX2_strain_10 : decode cX2_strain 10 = .ok (.iadd, 1) := by decide +kernel
theorem dX2_strain_11 : decode cX2_strain 11 = .ok (.aload_n 0, 1) := by decide +kernel
theorem dX2_strain_12 : decode cX2_strain 12 = .ok (.getfield 20, 3) := by decide +kernel
theorem dX2_strain_15 : decode cX2_strain 15 = .ok (.iconst 0, 1) := by decide +kernel
theorem dX2_strain_16 : decode cX2_strain 16 = .ok (.iload_n 1, 1) := by decide +kernel
theorem dX2_strain_17 : decode cX2_strain 17 = .ok (.invokevirtual 58, 3) := by decide +kernel
theorem dX2_strain_20 : decode cX2_strain 20 = .ok (.if_icmp .gt 4, 3) := by decide +kernel
theorem dX2_strain_23 : decode cX2_strain 23 = .ok (.return_, 1) := by decide +kernel
theorem dX2_strain_24 : decode cX2_strain 24 = .ok (.aload_n 0, 1) := by decide +kernel
theorem dX2_strain_25 : decode cX2_strain 25 = .ok (.getfield 20, 3) := by decide +kernel
theorem dX2_strain_28 : decode cX2_strain 28 = .ok (.iconst 4, 1) := by decide +kernel
theorem dX2_strain_29 : decode cX2_strain 29 = .ok (.iload_n 1, 1) := by decide +kernel
theorem dX2_strain_30 : decode cX2_strain 30 = .ok (.iconst 1, 1) := by decide +kernel
theorem dX2_strain_31 : decode cX2_strain 31 = .ok (.invokevirtual 117, 3) := by decide +kernel
theorem dX2_strain_34 : decode cX2_strain 34 = .ok (.aload_n 0, 1) := by decide +kernel
theorem dX2_strain_35 : decode cX2_strain 35 = .ok (.getfield 20, 3) := by decide +kernel
theorem dX2_strain_38 : decode cX2_strain 38 = .ok (.iconst 4, 1) := by decide +kernel
theorem dX2_strain_39 : decode cX2_strain 39 = .ok (.iload_n 1, 1) := by decide +kernel
theorem dX2_strain_40 : decode cX2_strain 40 = .ok (.invokevirtual 58, 3) := by decide +kernel
theorem dX2_strain_43 : decode cX2_strain 43 = .ok (.iconst 3, 1) := by decide +kernel
theorem dX2_strain_44 : decode cX2_strain 44 = .ok (.if_icmp .lt 31, 3) := by decide +kernel
theorem dX2_strain_47 : decode cX2_strain 47 = .ok (.aload_n 0, 1) := by decide +kernel
theorem dX2_strain_48 : decode cX2_strain 48 = .ok (.getfield 20, 3) := by decide +kernel
theorem dX2_strain_51 : decode cX2_strain 51 = .ok (.iconst 5, 1) := by decide +kernel
theorem dX2_strain_52 : decode cX2_strain 52 = .ok (.iload_n 1, 1) := by decide +kernel
theorem dX2_strain_53 : decode cX2_strain 53 = .ok (.aload_n 0, 1) := by decide +kernel
theorem dX2_strain_54 : decode cX2_strain 54 = .ok (.getfield 14, 3) := by decide +kernel
theorem dX2_strain_57 : decode cX2_strain 57 = .ok (.iconst 0, 1) := by decide +kernel
theorem dX2_strain_58 : decode cX2_strain 58 = .ok (.iconst 3, 1) := by decide +kernel
theorem dX2_strain_59 : decode cX2_strain 59 = .ok (.invokevirtual 58, 3) := by decide +kernel
theorem dX2_strain_62 : decode cX2_strain 62 = .ok (.invokevirtual 40, 3) := by decide +kernel
theorem dX2_strain_65 : decode cX2_strain 65 = .ok (.aload_n 0, 1) := by decide +kernel
theorem dX2_strain_66 : decode cX2_strain 66 = .ok (.getfield 20, 3) := by decide +kernel
theorem dX2_strain_69 : decode cX2_strain 69 = .ok (.iconst 4, 1) := by decide +kernel
theorem dX2_strain_70 : decode cX2_strain 70 = .ok (.iload_n 1, 1) := by decide +kernel
theorem dX2_strain_71 : decode cX2_strain 71 = .ok (.iconst 0, 1) := by decide +kernel
theorem dX2_strain_72 : decode cX2_strain 72 = .ok (.invokevirtual 40, 3) := by decide +kernel
theorem dX2_strain_75 : decode cX2_strain 75 = .ok (.return_, 1) := by decide +kernel
theorem dX2_fallsSoFar_0 : decode cX2_fallsSoFar 0 = .ok (.aload_n 0, 1) := by decide +kernel
theorem dX2_fallsSoFar_1 : decode cX2_fallsSoFar 1 = .ok (.getfield 55, 3) := by decide +kernel
theorem dX2_fallsSoFar_4 : decode cX2_fallsSoFar 4 = .ok (.ireturn, 1) := by decide +kernel
theorem dX2_ofFall_0 : decode cX2_ofFall 0 = .ok (.iload_n 1, 1) := by decide +kernel
theorem dX2_ofFall_1 : decode cX2_ofFall 1 = .ok (.ifCond .lt 16, 3) := by decide +kernel
theorem dX2_ofFall_4 : decode cX2_ofFall 4 = .ok (.iload_n 1, 1) := by decide +kernel
theorem dX2_ofFall_5 : decode cX2_ofFall 5 = .ok (.aload_n 0, 1) := by decide +kernel
theorem dX2_ofFall_6 : decode cX2_ofFall 6 = .ok (.getfield 55, 3) := by decide +kernel
theorem dX2_ofFall_9 : decode cX2_ofFall 9 = .ok (.bipush 20, 2) := by decide +kernel
theorem dX2_ofFall_11 : decode cX2_ofFall 11 = .ok (.invokestatic 93, 3) := by decide +kernel
theorem dX2_ofFall_14 : decode cX2_ofFall 14 = .ok (.if_icmp .lt 6, 3) := by decide +kernel
theorem dX2_ofFall_17 : decode cX2_ofFall 17 = .ok (.bipush (-5), 2) := by decide +kernel
theorem dX2_ofFall_19 : decode cX2_ofFall 19 = .ok (.ireturn, 1) := by decide +kernel
theorem dX2_ofFall_20 : decode cX2_ofFall 20 = .ok (.aload_n 0, 1) := by decide +kernel
theorem dX2_ofFall_21 : decode cX2_ofFall 21 = .ok (.getfield 29, 3) := by decide +kernel
theorem dX2_ofFall_24 : decode cX2_ofFall 24 = .ok (.iload_n 2, 1) := by decide +kernel
theorem dX2_ofFall_25 : decode cX2_ofFall 25 = .ok (.aload_n 0, 1) := by decide +kernel
theorem dX2_ofFall_26 : decode cX2_ofFall 26 = .ok (.getfield 55, 3) := by decide +kernel
theorem dX2_ofFall_29 : decode cX2_ofFall 29 = .ok (.iconst 1, 1) := by decide +kernel
theorem dX2_ofFall_30 : decode cX2_ofFall 30 = .ok (.isub, 1) := by decide +kernel
theorem dX2_ofFall_31 : decode cX2_ofFall 31 = .ok (.iload_n 1, 1) := by decide +kernel
theorem dX2_ofFall_32 : decode cX2_ofFall 32 = .ok (.isub, 1) := by decide +kernel
theorem dX2_ofFall_33 : decode cX2_ofFall 33 = .ok (.bipush 20, 2) := by decide +kernel
theorem dX2_ofFall_35 : decode cX2_ofFall 35 = .ok (.irem, 1) := by decide +kernel
theorem dX2_ofFall_36 : decode cX2_ofFall 36 = .ok (.invokevirtual 58, 3) := by decide +kernel
theorem dX2_ofFall_39 : decode cX2_ofFall 39 = .ok (.ireturn, 1) := by decide +kernel
theorem dX3_init_0 : decode cX3_init 0 = .ok (.aload_n 0, 1) := by decide +kernel
theorem dX3_init_1 : decode cX3_init 1 = .ok (.invokespecial 1, 3) := by decide +kernel
theorem dX3_init_4 : decode cX3_init 4 = .ok (.iload_n 1, 1) := by decide +kernel
theorem dX3_init_5 : decode cX3_init 5 = .ok (.iload_n 2, 1) := by decide +kernel
theorem dX3_init_6 : decode cX3_init 6 = .ok (.imul, 1) := by decide +kernel
theorem dX3_init_7 : decode cX3_init 7 = .ok (.istore_n 3, 1) := by decide +kernel
theorem dX3_init_8 : decode cX3_init 8 = .ok (.aload_n 0, 1) := by decide +kernel
theorem dX3_init_9 : decode cX3_init 9 = .ok (.iload_n 2, 1) := by decide +kernel
theorem dX3_init_10 : decode cX3_init 10 = .ok (.putfield 7, 3) := by decide +kernel
theorem dX3_init_13 : decode cX3_init 13 = .ok (.aload_n 0, 1) := by decide +kernel
theorem dX3_init_14 : decode cX3_init 14 = .ok (.iload_n 3, 1) := by decide +kernel
theorem dX3_init_15 : decode cX3_init 15 = .ok (.ifCond .le 7, 3) := by decide +kernel
theorem dX3_init_18 : decode cX3_init 18 = .ok (.iload_n 3, 1) := by decide +kernel
theorem dX3_init_19 : decode cX3_init 19 = .ok (.goto 4, 3) := by decide +kernel
theorem dX3_init_22 : decode cX3_init 22 = .ok (.iconst 0, 1) := by decide +kernel
theorem dX3_init_23 : decode cX3_init 23 = .ok (.newarray .int, 2) := by decide +kernel
theorem dX3_init_25 : decode cX3_init 25 = .ok (.putfield 13, 3) := by decide +kernel
theorem dX3_init_28 : decode cX3_init 28 = .ok (.return_, 1) := by decide +kernel
theorem dX3_at_0 : decode cX3_at 0 = .ok (.iload_n 1, 1) := by decide +kernel
theorem dX3_at_1 : decode cX3_at 1 = .ok (.aload_n 0, 1) := by decide +kernel
theorem dX3_at_2 : decode cX3_at 2 = .ok (.getfield 7, 3) := by decide +kernel
theorem dX3_at_5 : decode cX3_at 5 = .ok (.imul, 1) := by decide +kernel
theorem dX3_at_6 : decode cX3_at 6 = .ok (.iload_n 2, 1) := by decide +kernel
theorem dX3_at_7 : decode cX3_at 7 = .ok (.iadd, 1) := by decide +kernel
theorem dX3_at_8 : decode cX3_at 8 = .ok (.istore_n 3, 1) := by decide +kernel
theorem dX3_at_9 : decode cX3_at 9 = .ok (.iload_n 2, 1) := by decide +kernel
theorem dX3_at_10 : decode cX3_at 10 = .ok (.ifCond .lt 33, 3) := by decide +kernel
theorem dX3_at_13 : decode cX3_at 13 = .ok (.iload_n 2, 1) := by decide +kernel
theorem dX3_at_14 : decode cX3_at 14 = .ok (.aload_n 0, 1) := by decide +kernel
theorem dX3_at_15 : decode cX3_at 15 = .ok (.getfield 7, 3) := by decide +kernel
theorem dX3_at_18 : decode cX3_at 18 = .ok (.if_icmp .ge 25, 3) := by decide +kernel
theorem dX3_at_21 : decode cX3_at 21 = .ok (.iload_n 3, 1) := by decide +kernel
theorem dX3_at_22 : decode cX3_at 22 = .ok (.ifCond .lt 21, 3) := by decide +kernel
theorem dX3_at_25 : decode cX3_at 25 = .ok (.iload_n 3, 1) := by decide +kernel
theorem dX3_at_26 : decode cX3_at 26 = .ok (.aload_n 0, 1) := by decide +kernel
theorem dX3_at_27 : decode cX3_at 27 = .ok (.getfield 13, 3) := by decide +kernel
theorem dX3_at_30 : decode cX3_at 30 = .ok (.arraylength, 1) := by decide +kernel
theorem dX3_at_31 : decode cX3_at 31 = .ok (.if_icmp .ge 12, 3) := by decide +kernel
theorem dX3_at_34 : decode cX3_at 34 = .ok (.aload_n 0, 1) := by decide +kernel
theorem dX3_at_35 : decode cX3_at 35 = .ok (.getfield 13, 3) := by decide +kernel
theorem dX3_at_38 : decode cX3_at 38 = .ok (.iload_n 3, 1) := by decide +kernel
theorem dX3_at_39 : decode cX3_at 39 = .ok (.iaload, 1) := by decide +kernel
theorem dX3_at_40 : decode cX3_at 40 = .ok (.goto 4, 3) := by decide +kernel
theorem dX3_at_43 : decode cX3_at 43 = .ok (.iconst 0, 1) := by decide +kernel
theorem dX3_at_44 : decode cX3_at 44 = .ok (.ireturn, 1) := by decide +kernel
theorem dX3_put_0 : decode cX3_put 0 = .ok (.iload_n 1, 1) := by decide +kernel
theorem dX3_put_1 : decode cX3_put 1 = .ok (.aload_n 0, 1) := by decide +kernel
theorem dX3_put_2 : decode cX3_put 2 = .ok (.getfield 7, 3) := by decide +kernel
theorem dX3_put_5 : decode cX3_put 5 = .ok (.imul, 1) := by decide +kernel
theorem dX3_put_6 : decode cX3_put 6 = .ok (.iload_n 2, 1) := by decide +kernel
theorem dX3_put_7 : decode cX3_put 7 = .ok (.iadd, 1) := by decide +kernel
theorem dX3_put_8 : decode cX3_put 8 = .ok (.istore 4, 2) := by decide +kernel
theorem dX3_put_10 : decode cX3_put 10 = .ok (.iload_n 2, 1) := by decide +kernel
theorem dX3_put_11 : decode cX3_put 11 = .ok (.ifCond .lt 34, 3) := by decide +kernel
theorem dX3_put_14 : decode cX3_put 14 = .ok (.iload_n 2, 1) := by decide +kernel
theorem dX3_put_15 : decode cX3_put 15 = .ok (.aload_n 0, 1) := by decide +kernel
theorem dX3_put_16 : decode cX3_put 16 = .ok (.getfield 7, 3) := by decide +kernel
theorem dX3_put_19 : decode cX3_put 19 = .ok (.if_icmp .ge 26, 3) := by decide +kernel
theorem dX3_put_22 : decode cX3_put 22 = .ok (.iload 4, 2) := by decide +kernel
theorem dX3_put_24 : decode cX3_put 24 = .ok (.ifCond .lt 21, 3) := by decide +kernel
theorem dX3_put_27 : decode cX3_put 27 = .ok (.iload 4, 2) := by decide +kernel
theorem dX3_put_29 : decode cX3_put 29 = .ok (.aload_n 0, 1) := by decide +kernel
theorem dX3_put_30 : decode cX3_put 30 = .ok (.getfield 13, 3) := by decide +kernel
theorem dX3_put_33 : decode cX3_put 33 = .ok (.arraylength, 1) := by decide +kernel
theorem dX3_put_34 : decode cX3_put 34 = .ok (.if_icmp .ge 11, 3) := by decide +kernel
theorem dX3_put_37 : decode cX3_put 37 = .ok (.aload_n 0, 1) := by decide +kernel
theorem dX3_put_38 : decode cX3_put 38 = .ok (.getfield 13, 3) := by decide +kernel
theorem dX3_put_41 : decode cX3_put 41 = .ok (.iload 4, 2) := by decide +kernel
theorem dX3_put_43 : decode cX3_put 43 = .ok (.iload_n 3, 1) := by decide +kernel
theorem dX3_put_44 : decode cX3_put 44 = .ok (.iastore, 1) := by decide +kernel
theorem dX3_put_45 : decode cX3_put 45 = .ok (.return_, 1) := by decide +kernel
theorem dX3_add_0 : decode cX3_add 0 = .ok (.aload_n 0, 1) := by decide +kernel
theorem dX3_add_1 : decode cX3_add 1 = .ok (.iload_n 1, 1) := by decide +kernel
theorem dX3_add_2 : decode cX3_add 2 = .ok (.iload_n 2, 1) := by decide +kernel
theorem dX3_add_3 : decode cX3_add 3 = .ok (.aload_n 0, 1) := by decide +kernel
theorem dX3_add_4 : decode cX3_add 4 = .ok (.iload_n 1, 1) := by decide +kernel
theorem dX3_add_5 : decode cX3_add 5 = .ok (.iload_n 2, 1) := by decide +kernel
theorem dX3_add_6 : decode cX3_add 6 = .ok (.invokevirtual 17, 3) := by decide +kernel
theorem dX3_add_9 : decode cX3_add 9 = .ok (.iload_n 3, 1) := by decide +kernel
theorem dX3_add_10 : decode cX3_add 10 = .ok (.iadd, 1) := by decide +kernel
theorem dX3_add_11 : decode cX3_add 11 = .ok (.invokevirtual 21, 3) := by decide +kernel
theorem dX3_add_14 : decode cX3_add 14 = .ok (.return_, 1) := by decide +kernel
theorem dX3_takeAway_0 : decode cX3_takeAway 0 = .ok (.aload_n 0, 1) := by decide +kernel
theorem dX3_takeAway_1 : decode cX3_takeAway 1 = .ok (.iload_n 1, 1) := by decide +kernel
theorem dX3_takeAway_2 : decode cX3_takeAway 2 = .ok (.iload_n 2, 1) := by decide +kernel
theorem dX3_takeAway_3 : decode cX3_takeAway 3 = .ok (.iconst 0, 1) := by decide +kernel
theorem dX3_takeAway_4 : decode cX3_takeAway 4 = .ok (.aload_n 0, 1) := by decide +kernel
theorem dX3_takeAway_5 : decode cX3_takeAway 5 = .ok (.iload_n 1, 1) := by decide +kernel
theorem dX3_takeAway_6 : decode cX3_takeAway 6 = .ok (.iload_n 2, 1) := by decide +kernel
theorem dX3_takeAway_7 : decode cX3_takeAway 7 = .ok (.invokevirtual 17, 3) := by decide +kernel
theorem dX3_takeAway_10 : decode cX3_takeAway 10 = .ok (.iload_n 3, 1) := by decide +kernel
theorem dX3_takeAway_11 : decode cX3_takeAway 11 = .ok (.isub, 1) := by decide +kernel
theorem dX3_takeAway_12 : decode cX3_takeAway 12 = .ok (.invokestatic 25, 3) := by decide +kernel
theorem dX3_takeAway_15 : decode cX3_takeAway 15 = .ok (.invokevirtual 21, 3) := by decide +kernel
theorem dX3_takeAway_18 : decode cX3_takeAway 18 = .ok (.return_, 1) := by decide +kernel
theorem dX3_addUpTo_0 : decode cX3_addUpTo 0 = .ok (.aload_n 0, 1) := by decide +kernel
theorem dX3_addUpTo_1 : decode cX3_addUpTo 1 = .ok (.iload_n 1, 1) := by decide +kernel
theorem dX3_addUpTo_2 : decode cX3_addUpTo 2 = .ok (.iload_n 2, 1) := by decide +kernel
theorem dX3_addUpTo_3 : decode cX3_addUpTo 3 = .ok (.iload_n 3, 1) := by decide +kernel
theorem dX3_addUpTo_4 : decode cX3_addUpTo 4 = .ok (.aload_n 0, 1) := by decide +kernel
theorem dX3_addUpTo_5 : decode cX3_addUpTo 5 = .ok (.iload_n 1, 1) := by decide +kernel
theorem dX3_addUpTo_6 : decode cX3_addUpTo 6 = .ok (.iload_n 2, 1) := by decide +kernel
theorem dX3_addUpTo_7 : decode cX3_addUpTo 7 = .ok (.invokevirtual 17, 3) := by decide +kernel
theorem dX3_addUpTo_10 : decode cX3_addUpTo 10 = .ok (.iconst 1, 1) := by decide +kernel
theorem dX3_addUpTo_11 : decode cX3_addUpTo 11 = .ok (.iadd, 1) := by decide +kernel
theorem dX3_addUpTo_12 : decode cX3_addUpTo 12 = .ok (.invokestatic 30, 3) := by decide +kernel
theorem dX3_addUpTo_15 : decode cX3_addUpTo 15 = .ok (.invokevirtual 21, 3) := by decide +kernel
theorem dX3_addUpTo_18 : decode cX3_addUpTo 18 = .ok (.return_, 1) := by decide +kernel
theorem dX3_sum_0 : decode cX3_sum 0 = .ok (.iconst 0, 1) := by decide +kernel
theorem dX3_sum_1 : decode cX3_sum 1 = .ok (.istore_n 2, 1) := by decide +kernel
theorem dX3_sum_2 : decode cX3_sum 2 = .ok (.iconst 0, 1) := by decide +kernel
theorem dX3_sum_3 : decode cX3_sum 3 = .ok (.istore_n 3, 1) := by decide +kernel
theorem dX3_sum_4 : decode cX3_sum 4 = .ok (.iload_n 3, 1) := by decide +kernel
theorem dX3_sum_5 : decode cX3_sum 5 = .ok (.aload_n 0, 1) := by decide +kernel
theorem dX3_sum_6 : decode cX3_sum 6 = .ok (.getfield 7, 3) := by decide +kernel
theorem dX3_sum_9 : decode cX3_sum 9 = .ok (.if_icmp .ge 18, 3) := by decide +kernel
theorem dX3_sum_12 : decode cX3_sum 12 = .ok (.iload_n 2, 1) := by decide +kernel
theorem dX3_sum_13 : decode cX3_sum 13 = .ok (.aload_n 0, 1) := by decide +kernel
theorem dX3_sum_14 : decode cX3_sum 14 = .ok (.iload_n 1, 1) := by decide +kernel
theorem dX3_sum_15 : decode cX3_sum 15 = .ok (.iload_n 3, 1) := by decide +kernel
theorem dX3_sum_16 : decode cX3_sum 16 = .ok (.invokevirtual 17, 3) := by decide +kernel
theorem dX3_sum_19 : decode cX3_sum 19 = .ok (.iadd, 1) := by decide +kernel
theorem dX3_sum_20 : decode cX3_sum 20 = .ok (.istore_n 2, 1) := by decide +kernel
theorem dX3_sum_21 : decode cX3_sum 21 = .ok (.iinc 3 1, 3) := by decide +kernel
theorem dX3_sum_24 : decode cX3_sum 24 = .ok (.goto (-20), 3) := by decide +kernel
theorem dX3_sum_27 : decode cX3_sum 27 = .ok (.iload_n 2, 1) := by decide +kernel
theorem dX3_sum_28 : decode cX3_sum 28 = .ok (.ireturn, 1) := by decide +kernel
theorem dX3_moveColumn_0 : decode cX3_moveColumn 0 = .ok (.iconst 0, 1) := by decide +kernel
theorem dX3_moveColumn_1 : decode cX3_moveColumn 1 = .ok (.istore 4, 2) := by decide +kernel
theorem dX3_moveColumn_3 : decode cX3_moveColumn 3 = .ok (.iload 4, 2) := by decide +kernel
theorem dX3_moveColumn_5 : decode cX3_moveColumn 5 = .ok (.iload_n 3, 1) := by decide +kernel
theorem dX3_moveColumn_6 : decode cX3_moveColumn 6 = .ok (.if_icmp .ge 23, 3) := by decide +kernel
theorem dX3_moveColumn_9 : decode cX3_moveColumn 9 = .ok (.aload_n 0, 1) := by decide +kernel
theorem dX3_moveColumn_10 : decode cX3_moveColumn 10 = .ok (.iload 4, 2) := by decide +kernel
theorem dX3_moveColumn_12 : decode cX3_moveColumn 12 = .ok (.iload_n 2, 1) := by decide +kernel
theorem dX3_moveColumn_13 : decode cX3_moveColumn 13 = .ok (.aload_n 0, 1) := by decide +kernel
theorem dX3_moveColumn_14 : decode cX3_moveColumn 14 = .ok (.iload 4, 2) := by decide +kernel
theorem dX3_moveColumn_16 : decode cX3_moveColumn 16 = .ok (.iload_n 1, 1) := by decide +kernel
theorem dX3_moveColumn_17 : decode cX3_moveColumn 17 = .ok (.invokevirtual 17, 3) := by decide +kernel
theorem dX3_moveColumn_20 : decode cX3_moveColumn 20 = .ok (.invokevirtual 21, 3) := by decide +kernel
theorem dX3_moveColumn_23 : decode cX3_moveColumn 23 = .ok (.iinc 4 1, 3) := by decide +kernel
theorem dX3_moveColumn_26 : decode cX3_moveColumn 26 = .ok (.goto (-23), 3) := by decide +kernel
theorem dX3_moveColumn_29 : decode cX3_moveColumn 29 = .ok (.return_, 1) := by decide +kernel
theorem dX3_copyFrom_0 : decode cX3_copyFrom 0 = .ok (.aload_n 1, 1) := by decide +kernel
theorem dX3_copyFrom_1 : decode cX3_copyFrom 1 = .ok (.getfield 13, 3) := by decide +kernel
theorem dX3_copyFrom_4 : decode cX3_copyFrom 4 = .ok (.arraylength, 1) := by decide +kernel
theorem dX3_copyFrom_5 : decode cX3_copyFrom 5 = .ok (.aload_n 0, 1) := by decide +kernel
theorem dX3_copyFrom_6 : decode cX3_copyFrom 6 = .ok (.getfield 13, 3) := by decide +kernel
theorem dX3_copyFrom_9 : decode cX3_copyFrom 9 = .ok (.arraylength, 1) := by decide +kernel
theorem dX3_copyFrom_10 : decode cX3_copyFrom 10 = .ok (.if_icmp .ne 21, 3) := by decide +kernel
theorem dX3_copyFrom_13 : decode cX3_copyFrom 13 = .ok (.aload_n 1, 1) := by decide +kernel
theorem dX3_copyFrom_14 : decode cX3_copyFrom 14 = .ok (.getfield 13, 3) := by decide +kernel
theorem dX3_copyFrom_17 : decode cX3_copyFrom 17 = .ok (.iconst 0, 1) := by decide +kernel
theorem dX3_copyFrom_18 : decode cX3_copyFrom 18 = .ok (.aload_n 0, 1) := by decide +kernel
theorem dX3_copyFrom_19 : decode cX3_copyFrom 19 = .ok (.getfield 13, 3) := by decide +kernel
theorem dX3_copyFrom_22 : decode cX3_copyFrom 22 = .ok (.iconst 0, 1) := by decide +kernel
theorem dX3_copyFrom_23 : decode cX3_copyFrom 23 = .ok (.aload_n 0, 1) := by decide +kernel
theorem dX3_copyFrom_24 : decode cX3_copyFrom 24 = .ok (.getfield 13, 3) := by decide +kernel
theorem dX3_copyFrom_27 : decode cX3_copyFrom 27 = .ok (.arraylength, 1) := by decide +kernel
theorem dX3_copyFrom_28 : decode cX3_copyFrom 28 = .ok (.invokestatic 33, 3) := by decide +kernel
theorem dX3_copyFrom_31 : decode cX3_copyFrom 31 = .ok (.return_, 1) := by decide +kernel
theorem dX4_init_0 : decode cX4_init 0 = .ok (.aload_n 0, 1) := by decide +kernel
theorem dX4_init_1 : decode cX4_init 1 = .ok (.invokespecial 3, 3) := by decide +kernel
theorem dX4_init_4 : decode cX4_init 4 = .ok (.aload_n 0, 1) := by decide +kernel
theorem dX4_init_5 : decode cX4_init 5 = .ok (.bipush 60, 2) := by decide +kernel
theorem dX4_init_7 : decode cX4_init 7 = .ok (.newarray .char, 2) := by decide +kernel
theorem dX4_init_9 : decode cX4_init 9 = .ok (.putfield 9, 3) := by decide +kernel
theorem dX4_init_12 : decode cX4_init 12 = .ok (.return_, 1) := by decide +kernel
theorem dX4_length_0 : decode cX4_length 0 = .ok (.aload_n 0, 1) := by decide +kernel
theorem dX4_length_1 : decode cX4_length 1 = .ok (.getfield 15, 3) := by decide +kernel
theorem dX4_length_4 : decode cX4_length 4 = .ok (.ireturn, 1) := by decide +kernel
theorem dX4_characterAt_0 : decode cX4_characterAt 0 = .ok (.iload_n 1, 1) := by decide +kernel
theorem dX4_characterAt_1 : decode cX4_characterAt 1 = .ok (.ifCond .lt 21, 3) := by decide +kernel
theorem dX4_characterAt_4 : decode cX4_characterAt 4 = .ok (.iload_n 1, 1) := by decide +kernel
theorem dX4_characterAt_5 : decode cX4_characterAt 5 = .ok (.aload_n 0, 1) := by decide +kernel
theorem dX4_characterAt_6 : decode cX4_characterAt 6 = .ok (.getfield 9, 3) := by decide +kernel
theorem dX4_characterAt_9 : decode cX4_characterAt 9 = .ok (.arraylength, 1) := by decide +kernel
theorem dX4_characterAt_10 : decode cX4_characterAt 10 = .ok (.if_icmp .ge 12, 3) := by decide +kernel
theorem dX4_characterAt_13 : decode cX4_characterAt 13 = .ok (.aload_n 0, 1) := by decide +kernel
theorem dX4_characterAt_14 : decode cX4_characterAt 14 = .ok (.getfield 9, 3) := by decide +kernel
theorem dX4_characterAt_17 : decode cX4_characterAt 17 = .ok (.iload_n 1, 1) := by decide +kernel
theorem dX4_characterAt_18 : decode cX4_characterAt 18 = .ok (.caload, 1) := by decide +kernel
theorem dX4_characterAt_19 : decode cX4_characterAt 19 = .ok (.goto 4, 3) := by decide +kernel
theorem dX4_characterAt_22 : decode cX4_characterAt 22 = .ok (.iconst 0, 1) := by decide +kernel
theorem dX4_characterAt_23 : decode cX4_characterAt 23 = .ok (.ireturn, 1) := by decide +kernel
theorem dX4_append_0 : decode cX4_append 0 = .ok (.aload_n 0, 1) := by decide +kernel
theorem dX4_append_1 : decode cX4_append 1 = .ok (.getfield 15, 3) := by decide +kernel
theorem dX4_append_4 : decode cX4_append 4 = .ok (.ifCond .lt 15, 3) := by decide +kernel
theorem dX4_append_7 : decode cX4_append 7 = .ok (.aload_n 0, 1) := by decide +kernel
theorem dX4_append_8 : decode cX4_append 8 = .ok (.getfield 15, 3) := by decide +kernel
theorem dX4_append_11 : decode cX4_append 11 = .ok (.aload_n 0, 1) := by decide +kernel
theorem dX4_append_12 : decode cX4_append 12 = .ok (.getfield 9, 3) := by decide +kernel
theorem dX4_append_15 : decode cX4_append 15 = .ok (.arraylength, 1) := by decide +kernel
theorem dX4_append_16 : decode cX4_append 16 = .ok (.if_icmp .lt 5, 3) := by decide +kernel
theorem dX4_append_19 : decode cX4_append 19 = .ok (.iconst 0, 1) := by decide +kernel
theorem dX4_append_20 : decode cX4_append 20 = .ok (.ireturn, 1) := by decide +kernel
theorem dX4_append_21 : decode cX4_append 21 = .ok (.aload_n 0, 1) := by decide +kernel
theorem dX4_append_22 : decode cX4_append 22 = .ok (.getfield 9, 3) := by decide +kernel
theorem dX4_append_25 : decode cX4_append 25 = .ok (.aload_n 0, 1) := by decide +kernel
theorem dX4_append_26 : decode cX4_append 26 = .ok (.getfield 15, 3) := by decide +kernel
theorem dX4_append_29 : decode cX4_append 29 = .ok (.iload_n 1, 1) := by decide +kernel
theorem dX4_append_30 : decode cX4_append 30 = .ok (.castore, 1) := by decide +kernel
theorem dX4_append_31 : decode cX4_append 31 = .ok (.aload_n 0, 1) := by decide +kernel
theorem dX4_append_32 : decode cX4_append 32 = .ok (.dup, 1) := by decide +kernel
theorem dX4_append_33 : decode cX4_append 33 = .ok (.getfield 15, 3) := by decide +kernel
theorem dX4_append_36 : decode cX4_append 36 = .ok (.iconst 1, 1) := by decide +kernel
theorem dX4_append_37 : decode cX4_append 37 = .ok (.iadd, 1) := by decide +kernel
theorem dX4_append_38 : decode cX4_append 38 = .ok (.putfield 15, 3) := by decide +kernel
theorem dX4_append_41 : decode cX4_append 41 = .ok (.iconst 1, 1) := by decide +kernel
theorem dX4_append_42 : decode cX4_append 42 = .ok (.ireturn, 1) := by decide +kernel
theorem dX4_empty_0 : decode cX4_empty 0 = .ok (.aload_n 0, 1) := by decide +kernel
theorem dX4_empty_1 : decode cX4_empty 1 = .ok (.iconst 0, 1) := by decide +kernel
theorem dX4_empty_2 : decode cX4_empty 2 = .ok (.putfield 15, 3) := by decide +kernel
theorem dX4_empty_5 : decode cX4_empty 5 = .ok (.return_, 1) := by decide +kernel
theorem dX5_init_0 : decode cX5_init 0 = .ok (.aload_n 0, 1) := by decide +kernel
theorem dX5_init_1 : decode cX5_init 1 = .ok (.invokespecial 1, 3) := by decide +kernel
theorem dX5_init_4 : decode cX5_init 4 = .ok (.aload_n 0, 1) := by decide +kernel
theorem dX5_init_5 : decode cX5_init 5 = .ok (.new 7, 3) := by decide +kernel
theorem dX5_init_8 : decode cX5_init 8 = .ok (.dup, 1) := by decide +kernel
theorem dX5_init_9 : decode cX5_init 9 = .ok (.invokespecial 9, 3) := by decide +kernel
theorem dX5_init_12 : decode cX5_init 12 = .ok (.putfield 10, 3) := by decide +kernel
theorem dX5_init_15 : decode cX5_init 15 = .ok (.aload_n 0, 1) := by decide +kernel
theorem dX5_init_16 : decode cX5_init 16 = .ok (.new 7, 3) := by decide +kernel
theorem dX5_init_19 : decode cX5_init 19 = .ok (.dup, 1) := by decide +kernel
theorem dX5_init_20 : decode cX5_init 20 = .ok (.invokespecial 9, 3) := by decide +kernel
theorem dX5_init_23 : decode cX5_init 23 = .ok (.putfield 16, 3) := by decide +kernel
theorem dX5_init_26 : decode cX5_init 26 = .ok (.aload_n 0, 1) := by decide +kernel
theorem dX5_init_27 : decode cX5_init 27 = .ok (.new 7, 3) := by decide +kernel
theorem dX5_init_30 : decode cX5_init 30 = .ok (.dup, 1) := by decide +kernel
theorem dX5_init_31 : decode cX5_init 31 = .ok (.invokespecial 9, 3) := by decide +kernel
theorem dX5_init_34 : decode cX5_init 34 = .ok (.putfield 19, 3) := by decide +kernel
theorem dX5_init_37 : decode cX5_init 37 = .ok (.aload_n 0, 1) := by decide +kernel
theorem dX5_init_38 : decode cX5_init 38 = .ok (.new 22, 3) := by decide +kernel
theorem dX5_init_41 : decode cX5_init 41 = .ok (.dup, 1) := by decide +kernel
theorem dX5_init_42 : decode cX5_init 42 = .ok (.invokespecial 24, 3) := by decide +kernel
theorem dX5_init_45 : decode cX5_init 45 = .ok (.putfield 25, 3) := by decide +kernel
theorem dX5_init_48 : decode cX5_init 48 = .ok (.aload_n 0, 1) := by decide +kernel
theorem dX5_init_49 : decode cX5_init 49 = .ok (.new 29, 3) := by decide +kernel
theorem dX5_init_52 : decode cX5_init 52 = .ok (.dup, 1) := by decide +kernel
theorem dX5_init_53 : decode cX5_init 53 = .ok (.invokespecial 31, 3) := by decide +kernel
theorem dX5_init_56 : decode cX5_init 56 = .ok (.putfield 32, 3) := by decide +kernel
theorem dX5_init_59 : decode cX5_init 59 = .ok (.aload_n 0, 1) := by decide +kernel
theorem dX5_init_60 : decode cX5_init 60 = .ok (.new 36, 3) := by decide +kernel
theorem dX5_init_63 : decode cX5_init 63 = .ok (.dup, 1) := by decide +kernel
theorem dX5_init_64 : decode cX5_init 64 = .ok (.invokespecial 38, 3) := by decide +kernel
theorem dX5_init_67 : decode cX5_init 67 = .ok (.putfield 39, 3) := by decide +kernel
theorem dX5_init_70 : decode cX5_init 70 = .ok (.return_, 1) := by decide +kernel
theorem dX5_setHorse_0 : decode cX5_setHorse 0 = .ok (.iload_n 1, 1) := by decide +kernel
theorem dX5_setHorse_1 : decode cX5_setHorse 1 = .ok (.invokestatic 43, 3) := by decide +kernel
theorem dX5_setHorse_4 : decode cX5_setHorse 4 = .ok (.ifCond .eq 5, 3) := by decide +kernel
theorem dX5_setHorse_7 : decode cX5_setHorse 7 = .ok (.iconst (-1), 1) := by decide +kernel
theorem dX5_setHorse_8 : decode cX5_setHorse 8 = .ok (.ireturn, 1) := by decide +kernel
theorem dX5_setHorse_9 : decode cX5_setHorse 9 = .ok (.iload_n 2, 1) := by decide +kernel
theorem dX5_setHorse_10 : decode cX5_setHorse 10 = .ok (.bipush 20, 2) := by decide +kernel
theorem dX5_setHorse_12 : decode cX5_setHorse 12 = .ok (.sipush 150, 3) := by decide +kernel
theorem dX5_setHorse_15 : decode cX5_setHorse 15 = .ok (.invokestatic 47, 3) := by decide +kernel
theorem dX5_setHorse_18 : decode cX5_setHorse 18 = .ok (.ifCond .ne 13, 3) := by decide +kernel
theorem dX5_setHorse_21 : decode cX5_setHorse 21 = .ok (.iload_n 3, 1) := by decide +kernel
theorem dX5_setHorse_22 : decode cX5_setHorse 22 = .ok (.iconst 0, 1) := by decide +kernel
theorem dX5_setHorse_23 : decode cX5_setHorse 23 = .ok (.bipush 9, 2) := by decide +kernel
theorem dX5_setHorse_25 : decode cX5_setHorse 25 = .ok (.invokestatic 47, 3) := by decide +kernel
theorem dX5_setHorse_28 : decode cX5_setHorse 28 = .ok (.ifCond .eq 6, 3) := by decide +kernel
theorem dX5_setHorse_31 : decode cX5_setHorse 31 = .ok (.bipush (-2), 2) := by decide +kernel
theorem dX5_setHorse_33 : decode cX5_setHorse 33 = .ok (.ireturn, 1) := by decide +kernel
theorem dX5_setHorse_34 : decode cX5_setHorse 34 = .ok (.aload_n 0, 1) := by decide +kernel
theorem dX5_setHorse_35 : decode cX5_setHorse 35 = .ok (.getfield 10, 3) := by decide +kernel
theorem dX5_setHorse_38 : decode cX5_setHorse 38 = .ok (.iload_n 1, 1) := by decide +kernel
theorem dX5_setHorse_39 : decode cX5_setHorse 39 = .ok (.iconst 0, 1) := by decide +kernel
theorem dX5_setHorse_40 : decode cX5_setHorse 40 = .ok (.invokevirtual 51, 3) := by decide +kernel
theorem dX5_setHorse_43 : decode cX5_setHorse 43 = .ok (.istore 4, 2) := by decide +kernel
theorem dX5_setHorse_45 : decode cX5_setHorse 45 = .ok (.iload 4, 2) := by decide +kernel
theorem dX5_setHorse_47 : decode cX5_setHorse 47 = .ok (.iload_n 2, 1) := by decide +kernel
theorem dX5_setHorse_48 : decode cX5_setHorse 48 = .ok (.if_icmp .ne 19, 3) := by decide +kernel
theorem dX5_setHorse_51 : decode cX5_setHorse 51 = .ok (.aload_n 0, 1) := by decide +kernel
theorem dX5_setHorse_52 : decode cX5_setHorse 52 = .ok (.getfield 10, 3) := by decide +kernel
theorem dX5_setHorse_55 : decode cX5_setHorse 55 = .ok (.iload_n 1, 1) := by decide +kernel
theorem dX5_setHorse_56 : decode cX5_setHorse 56 = .ok (.iconst 1, 1) := by decide +kernel
theorem dX5_setHorse_57 : decode cX5_setHorse 57 = .ok (.invokevirtual 51, 3) := by decide +kernel
theorem dX5_setHorse_60 : decode cX5_setHorse 60 = .ok (.iload_n 3, 1) := by decide +kernel
theorem dX5_setHorse_61 : decode cX5_setHorse 61 = .ok (.if_icmp .ne 6, 3) := by decide +kernel
theorem dX5_setHorse_64 : decode cX5_setHorse 64 = .ok (.bipush (-5), 2) := by decide +kernel
theorem dX5_setHorse_66 : decode cX5_setHorse 66 = .ok (.ireturn, 1) := by decide +kernel
theorem dX5_setHorse_67 : decode cX5_setHorse 67 = .ok (.aload_n 0, 1) := by decide +kernel
theorem dX5_setHorse_68 : decode cX5_setHorse 68 = .ok (.getfield 25, 3) := by decide +kernel
theorem dX5_setHorse_71 : decode cX5_setHorse 71 = .ok (.aload_n 0, 1) := by decide +kernel
theorem dX5_setHorse_72 : decode cX5_setHorse 72 = .ok (.getfield 10, 3) := by decide +kernel
theorem dX5_setHorse_75 : decode cX5_setHorse 75 = .ok (.invokevirtual 55, 3) := by decide +kernel
theorem dX5_setHorse_78 : decode cX5_setHorse 78 = .ok (.aload_n 0, 1) := by decide +kernel
theorem dX5_setHorse_79 : decode cX5_setHorse 79 = .ok (.getfield 10, 3) := by decide +kernel
theorem dX5_setHorse_82 : decode cX5_setHorse 82 = .ok (.iload_n 1, 1) := by decide +kernel
theorem dX5_setHorse_83 : decode cX5_setHorse 83 = .ok (.iload_n 2, 1) := by decide +kernel
theorem dX5_setHorse_84 : decode cX5_setHorse 84 = .ok (.iload_n 3, 1) := by decide +kernel
theorem dX5_setHorse_85 : decode cX5_setHorse 85 = .ok (.invokevirtual 59, 3) := by decide +kernel
theorem dX5_setHorse_88 : decode cX5_setHorse 88 = .ok (.iload 4, 2) := by decide +kernel
theorem dX5_setHorse_90 : decode cX5_setHorse 90 = .ok (.ireturn, 1) := by decide +kernel
theorem dX5_setRider_0 : decode cX5_setRider 0 = .ok (.iload_n 1, 1) := by decide +kernel
theorem dX5_setRider_1 : decode cX5_setRider 1 = .ok (.invokestatic 63, 3) := by decide +kernel
theorem dX5_setRider_4 : decode cX5_setRider 4 = .ok (.ifCond .eq 5, 3) := by decide +kernel
theorem dX5_setRider_7 : decode cX5_setRider 7 = .ok (.iconst (-1), 1) := by decide +kernel
theorem dX5_setRider_8 : decode cX5_setRider 8 = .ok (.ireturn, 1) := by decide +kernel
theorem dX5_setRider_9 : decode cX5_setRider 9 = .ok (.iload_n 2, 1) := by decide +kernel
theorem dX5_setRider_10 : decode cX5_setRider 10 = .ok (.bipush 20, 2) := by decide +kernel
theorem dX5_setRider_12 : decode cX5_setRider 12 = .ok (.sipush 150, 3) := by decide +kernel
theorem dX5_setRider_15 : decode cX5_setRider 15 = .ok (.invokestatic 47, 3) := by decide +kernel
theorem dX5_setRider_18 : decode cX5_setRider 18 = .ok (.ifCond .ne 13, 3) := by decide +kernel
theorem dX5_setRider_21 : decode cX5_setRider 21 = .ok (.iload_n 3, 1) := by decide +kernel
theorem dX5_setRider_22 : decode cX5_setRider 22 = .ok (.iconst 0, 1) := by decide +kernel
theorem dX5_setRider_23 : decode cX5_setRider 23 = .ok (.bipush 9, 2) := by decide +kernel
theorem dX5_setRider_25 : decode cX5_setRider 25 = .ok (.invokestatic 47, 3) := by decide +kernel
theorem dX5_setRider_28 : decode cX5_setRider 28 = .ok (.ifCond .eq 6, 3) := by decide +kernel
theorem dX5_setRider_31 : decode cX5_setRider 31 = .ok (.bipush (-2), 2) := by decide +kernel
theorem dX5_setRider_33 : decode cX5_setRider 33 = .ok (.ireturn, 1) := by decide +kernel
theorem dX5_setRider_34 : decode cX5_setRider 34 = .ok (.aload_n 0, 1) := by decide +kernel
theorem dX5_setRider_35 : decode cX5_setRider 35 = .ok (.getfield 10, 3) := by decide +kernel
theorem dX5_setRider_38 : decode cX5_setRider 38 = .ok (.iload_n 1, 1) := by decide +kernel
theorem dX5_setRider_39 : decode cX5_setRider 39 = .ok (.iconst 0, 1) := by decide +kernel
theorem dX5_setRider_40 : decode cX5_setRider 40 = .ok (.invokevirtual 66, 3) := by decide +kernel
theorem dX5_setRider_43 : decode cX5_setRider 43 = .ok (.istore 4, 2) := by decide +kernel
theorem dX5_setRider_45 : decode cX5_setRider 45 = .ok (.aload_n 0, 1) := by decide +kernel
theorem dX5_setRider_46 : decode cX5_setRider 46 = .ok (.getfield 25, 3) := by decide +kernel
theorem dX5_setRider_49 : decode cX5_setRider 49 = .ok (.aload_n 0, 1) := by decide +kernel
theorem dX5_setRider_50 : decode cX5_setRider 50 = .ok (.getfield 10, 3) := by decide +kernel
theorem dX5_setRider_53 : decode cX5_setRider 53 = .ok (.invokevirtual 55, 3) := by decide +kernel
theorem dX5_setRider_56 : decode cX5_setRider 56 = .ok (.aload_n 0, 1) := by decide +kernel
theorem dX5_setRider_57 : decode cX5_setRider 57 = .ok (.getfield 10, 3) := by decide +kernel
theorem dX5_setRider_60 : decode cX5_setRider 60 = .ok (.iload_n 1, 1) := by decide +kernel
theorem dX5_setRider_61 : decode cX5_setRider 61 = .ok (.iload_n 2, 1) := by decide +kernel
theorem dX5_setRider_62 : decode cX5_setRider 62 = .ok (.iload_n 3, 1) := by decide +kernel
theorem dX5_setRider_63 : decode cX5_setRider 63 = .ok (.invokevirtual 69, 3) := by decide +kernel
theorem dX5_setRider_66 : decode cX5_setRider 66 = .ok (.iload 4, 2) := by decide +kernel
theorem dX5_setRider_68 : decode cX5_setRider 68 = .ok (.ireturn, 1) := by decide +kernel
theorem dX5_set_0 : decode cX5_set 0 = .ok (.iload_n 1, 1) := by decide +kernel
theorem dX5_set_1 : decode cX5_set 1 = .ok (.iconst 0, 1) := by decide +kernel
theorem dX5_set_2 : decode cX5_set 2 = .ok (.iconst 4, 1) := by decide +kernel
theorem dX5_set_3 : decode cX5_set 3 = .ok (.invokestatic 47, 3) := by decide +kernel
theorem dX5_set_6 : decode cX5_set 6 = .ok (.ifCond .eq 5, 3) := by decide +kernel
theorem dX5_set_9 : decode cX5_set 9 = .ok (.iconst (-1), 1) := by decide +kernel
theorem dX5_set_10 : decode cX5_set 10 = .ok (.ireturn, 1) := by decide +kernel
theorem dX5_set_11 : decode cX5_set 11 = .ok (.iload_n 2, 1) := by decide +kernel
theorem dX5_set_12 : decode cX5_set 12 = .ok (.getstatic 72, 3) := by decide +kernel
theorem dX5_set_15 : decode cX5_set 15 = .ok (.iload_n 1, 1) := by decide +kernel
theorem dX5_set_16 : decode cX5_set 16 = .ok (.invokestatic 76, 3) := by decide +kernel
theorem dX5_set_19 : decode cX5_set 19 = .ok (.getstatic 80, 3) := by decide +kernel
theorem dX5_set_22 : decode cX5_set 22 = .ok (.iload_n 1, 1) := by decide +kernel
theorem dX5_set_23 : decode cX5_set 23 = .ok (.invokestatic 76, 3) := by decide +kernel
theorem dX5_set_26 : decode cX5_set 26 = .ok (.invokestatic 47, 3) := by decide +kernel
theorem dX5_set_29 : decode cX5_set 29 = .ok (.ifCond .eq 6, 3) := by decide +kernel
theorem dX5_set_32 : decode cX5_set 32 = .ok (.bipush (-2), 2) := by decide +kernel
theorem dX5_set_34 : decode cX5_set 34 = .ok (.ireturn, 1) := by decide +kernel
theorem dX5_set_35 : decode cX5_set 35 = .ok (.aload_n 0, 1) := by decide +kernel
theorem dX5_set_36 : decode cX5_set 36 = .ok (.getfield 10, 3) := by decide +kernel
theorem dX5_set_39 : decode cX5_set 39 = .ok (.iload_n 1, 1) := by decide +kernel
theorem dX5_set_40 : decode cX5_set 40 = .ok (.invokevirtual 83, 3) := by decide +kernel
theorem dX5_set_43 : decode cX5_set 43 = .ok (.istore_n 3, 1) := by decide +kernel
theorem dX5_set_44 : decode cX5_set 44 = .ok (.iload_n 3, 1) := by decide +kernel
theorem dX5_set_45 : decode cX5_set 45 = .ok (.iload_n 2, 1) := by decide +kernel
theorem dX5_set_46 : decode cX5_set 46 = .ok (.if_icmp .ne 6, 3) := by decide +kernel
theorem dX5_set_49 : decode cX5_set 49 = .ok (.bipush (-5), 2) := by decide +kernel
theorem dX5_set_51 : decode cX5_set 51 = .ok (.ireturn, 1) := by decide +kernel
theorem dX5_set_52 : decode cX5_set 52 = .ok (.aload_n 0, 1) := by decide +kernel
theorem dX5_set_53 : decode cX5_set 53 = .ok (.getfield 25, 3) := by decide +kernel
theorem dX5_set_56 : decode cX5_set 56 = .ok (.aload_n 0, 1) := by decide +kernel
theorem dX5_set_57 : decode cX5_set 57 = .ok (.getfield 10, 3) := by decide +kernel
theorem dX5_set_60 : decode cX5_set 60 = .ok (.invokevirtual 55, 3) := by decide +kernel
theorem dX5_set_63 : decode cX5_set 63 = .ok (.aload_n 0, 1) := by decide +kernel
theorem dX5_set_64 : decode cX5_set 64 = .ok (.getfield 10, 3) := by decide +kernel
theorem dX5_set_67 : decode cX5_set 67 = .ok (.iload_n 1, 1) := by decide +kernel
theorem dX5_set_68 : decode cX5_set 68 = .ok (.iload_n 2, 1) := by decide +kernel
theorem dX5_set_69 : decode cX5_set 69 = .ok (.invokevirtual 87, 3) := by decide +kernel
theorem dX5_set_72 : decode cX5_set 72 = .ok (.iload_n 3, 1) := by decide +kernel
theorem dX5_set_73 : decode cX5_set 73 = .ok (.ireturn, 1) := by decide +kernel
theorem dX5_book_0 : decode cX5_book 0 = .ok (.iload_n 2, 1) := by decide +kernel
theorem dX5_book_1 : decode cX5_book 1 = .ok (.invokestatic 91, 3) := by decide +kernel
theorem dX5_book_4 : decode cX5_book 4 = .ok (.ifCond .ne 10, 3) := by decide +kernel
theorem dX5_book_7 : decode cX5_book 7 = .ok (.iload_n 3, 1) := by decide +kernel
theorem dX5_book_8 : decode cX5_book 8 = .ok (.invokestatic 63, 3) := by decide +kernel
theorem dX5_book_11 : decode cX5_book 11 = .ok (.ifCond .eq 5, 3) := by decide +kernel
theorem dX5_book_14 : decode cX5_book 14 = .ok (.iconst (-1), 1) := by decide +kernel
theorem dX5_book_15 : decode cX5_book 15 = .ok (.ireturn, 1) := by decide +kernel
theorem dX5_book_16 : decode cX5_book 16 = .ok (.iload_n 1, 1) := by decide +kernel
theorem dX5_book_17 : decode cX5_book 17 = .ok (.iconst 0, 1) := by decide +kernel
theorem dX5_book_18 : decode cX5_book 18 = .ok (.bipush 99, 2) := by decide +kernel
theorem dX5_book_20 : decode cX5_book 20 = .ok (.invokestatic 47, 3) := by decide +kernel
theorem dX5_book_23 : decode cX5_book 23 = .ok (.ifCond .eq 6, 3) := by decide +kernel
theorem dX5_book_26 : decode cX5_book 26 = .ok (.bipush (-2), 2) := by decide +kernel
theorem dX5_book_28 : decode cX5_book 28 = .ok (.ireturn, 1) := by decide +kernel
theorem dX5_book_29 : decode cX5_book 29 = .ok (.aload_n 0, 1) := by decide +kernel
theorem dX5_book_30 : decode cX5_book 30 = .ok (.getfield 10, 3) := by decide +kernel
theorem dX5_book_33 : decode cX5_book 33 = .ok (.iload_n 1, 1) := by decide +kernel
theorem dX5_book_34 : decode cX5_book 34 = .ok (.iload_n 2, 1) := by decide +kernel
theorem dX5_book_35 : decode cX5_book 35 = .ok (.iload_n 3, 1) := by decide +kernel
theorem dX5_book_36 : decode cX5_book 36 = .ok (.invokevirtual 94, 3) := by decide +kernel
theorem dX5_book_39 : decode cX5_book 39 = .ok (.istore 4, 2) := by decide +kernel
theorem dX5_book_41 : decode cX5_book 41 = .ok (.iload 4, 2) := by decide +kernel
theorem dX5_book_43 : decode cX5_book 43 = .ok (.ifCond .eq 6, 3) := by decide +kernel
theorem dX5_book_46 : decode cX5_book 46 = .ok (.iload 4, 2) := by decide +kernel
theorem dX5_book_48 : decode cX5_book 48 = .ok (.ireturn, 1) := by decide +kernel
theorem dX5_book_49 : decode cX5_book 49 = .ok (.aload_n 0, 1) := by decide +kernel
theorem dX5_book_50 : decode cX5_book 50 = .ok (.getfield 25, 3) := by decide +kernel
theorem dX5_book_53 : decode cX5_book 53 = .ok (.aload_n 0, 1) := by decide +kernel
end
section
theorem dX5_book_54 : decode cX5_book 54 = .ok (.getfield 10, 3) := by decide +kernel
theorem dX5_book_57 : decode cX5_book 57 = .ok (.invokevirtual 55, 3) := by decide +kernel
theorem dX5_book_60 : decode cX5_book 60 = .ok (.aload_n 0, 1) := by decide +kernel
theorem dX5_book_61 : decode cX5_book 61 = .ok (.getfield 10, 3) := by decide +kernel
theorem dX5_book_64 : decode cX5_book 64 = .ok (.iload_n 1, 1) := by decide +kernel
theorem dX5_book_65 : decode cX5_book 65 = .ok (.iload_n 2, 1) := by decide +kernel
theorem dX5_book_66 : decode cX5_book 66 = .ok (.iload_n 3, 1) := by decide +kernel
theorem dX5_book_67 : decode cX5_book 67 = .ok (.invokevirtual 98, 3) := by decide +kernel
theorem dX5_book_70 : decode cX5_book 70 = .ok (.aload_n 0, 1) := by decide +kernel
theorem dX5_book_71 : decode cX5_book 71 = .ok (.getfield 10, 3) := by decide +kernel
theorem dX5_book_74 : decode cX5_book 74 = .ok (.iload_n 1, 1) := by decide +kernel
theorem dX5_book_75 : decode cX5_book 75 = .ok (.iload_n 2, 1) := by decide +kernel
theorem dX5_book_76 : decode cX5_book 76 = .ok (.invokevirtual 101, 3) := by decide +kernel
theorem dX5_book_79 : decode cX5_book 79 = .ok (.ireturn, 1) := by decide +kernel
theorem dX5_cancel_0 : decode cX5_cancel 0 = .ok (.iload_n 2, 1) := by decide +kernel
theorem dX5_cancel_1 : decode cX5_cancel 1 = .ok (.invokestatic 63, 3) := by decide +kernel
theorem dX5_cancel_4 : decode cX5_cancel 4 = .ok (.ifCond .eq 5, 3) := by decide +kernel
theorem dX5_cancel_7 : decode cX5_cancel 7 = .ok (.iconst (-1), 1) := by decide +kernel
theorem dX5_cancel_8 : decode cX5_cancel 8 = .ok (.ireturn, 1) := by decide +kernel
theorem dX5_cancel_9 : decode cX5_cancel 9 = .ok (.iload_n 1, 1) := by decide +kernel
theorem dX5_cancel_10 : decode cX5_cancel 10 = .ok (.iconst 0, 1) := by decide +kernel
theorem dX5_cancel_11 : decode cX5_cancel 11 = .ok (.bipush 99, 2) := by decide +kernel
theorem dX5_cancel_13 : decode cX5_cancel 13 = .ok (.invokestatic 47, 3) := by decide +kernel
theorem dX5_cancel_16 : decode cX5_cancel 16 = .ok (.ifCond .eq 6, 3) := by decide +kernel
theorem dX5_cancel_19 : decode cX5_cancel 19 = .ok (.bipush (-2), 2) := by decide +kernel
theorem dX5_cancel_21 : decode cX5_cancel 21 = .ok (.ireturn, 1) := by decide +kernel
theorem dX5_cancel_22 : decode cX5_cancel 22 = .ok (.aload_n 0, 1) := by decide +kernel
theorem dX5_cancel_23 : decode cX5_cancel 23 = .ok (.getfield 10, 3) := by decide +kernel
theorem dX5_cancel_26 : decode cX5_cancel 26 = .ok (.iload_n 1, 1) := by decide +kernel
theorem dX5_cancel_27 : decode cX5_cancel 27 = .ok (.iload_n 2, 1) := by decide +kernel
theorem dX5_cancel_28 : decode cX5_cancel 28 = .ok (.invokevirtual 104, 3) := by decide +kernel
theorem dX5_cancel_31 : decode cX5_cancel 31 = .ok (.istore_n 3, 1) := by decide +kernel
theorem dX5_cancel_32 : decode cX5_cancel 32 = .ok (.iload_n 3, 1) := by decide +kernel
theorem dX5_cancel_33 : decode cX5_cancel 33 = .ok (.bipush (-5), 2) := by decide +kernel
theorem dX5_cancel_35 : decode cX5_cancel 35 = .ok (.if_icmp .ne 6, 3) := by decide +kernel
theorem dX5_cancel_38 : decode cX5_cancel 38 = .ok (.bipush (-5), 2) := by decide +kernel
theorem dX5_cancel_40 : decode cX5_cancel 40 = .ok (.ireturn, 1) := by decide +kernel
theorem dX5_cancel_41 : decode cX5_cancel 41 = .ok (.aload_n 0, 1) := by decide +kernel
theorem dX5_cancel_42 : decode cX5_cancel 42 = .ok (.getfield 10, 3) := by decide +kernel
theorem dX5_cancel_45 : decode cX5_cancel 45 = .ok (.iload_n 3, 1) := by decide +kernel
theorem dX5_cancel_46 : decode cX5_cancel 46 = .ok (.invokevirtual 107, 3) := by decide +kernel
theorem dX5_cancel_49 : decode cX5_cancel 49 = .ok (.istore 4, 2) := by decide +kernel
theorem dX5_cancel_51 : decode cX5_cancel 51 = .ok (.aload_n 0, 1) := by decide +kernel
theorem dX5_cancel_52 : decode cX5_cancel 52 = .ok (.getfield 25, 3) := by decide +kernel
theorem dX5_cancel_55 : decode cX5_cancel 55 = .ok (.aload_n 0, 1) := by decide +kernel
theorem dX5_cancel_56 : decode cX5_cancel 56 = .ok (.getfield 10, 3) := by decide +kernel
theorem dX5_cancel_59 : decode cX5_cancel 59 = .ok (.invokevirtual 55, 3) := by decide +kernel
theorem dX5_cancel_62 : decode cX5_cancel 62 = .ok (.aload_n 0, 1) := by decide +kernel
theorem dX5_cancel_63 : decode cX5_cancel 63 = .ok (.getfield 10, 3) := by decide +kernel
theorem dX5_cancel_66 : decode cX5_cancel 66 = .ok (.iload_n 3, 1) := by decide +kernel
theorem dX5_cancel_67 : decode cX5_cancel 67 = .ok (.invokevirtual 110, 3) := by decide +kernel
theorem dX5_cancel_70 : decode cX5_cancel 70 = .ok (.iload 4, 2) := by decide +kernel
theorem dX5_cancel_72 : decode cX5_cancel 72 = .ok (.ireturn, 1) := by decide +kernel
theorem dX5_pass_0 : decode cX5_pass 0 = .ok (.iload_n 1, 1) := by decide +kernel
theorem dX5_pass_1 : decode cX5_pass 1 = .ok (.iconst 1, 1) := by decide +kernel
theorem dX5_pass_2 : decode cX5_pass 2 = .ok (.bipush 99, 2) := by decide +kernel
theorem dX5_pass_4 : decode cX5_pass 4 = .ok (.invokestatic 47, 3) := by decide +kernel
theorem dX5_pass_7 : decode cX5_pass 7 = .ok (.ifCond .eq 6, 3) := by decide +kernel
theorem dX5_pass_10 : decode cX5_pass 10 = .ok (.bipush (-2), 2) := by decide +kernel
theorem dX5_pass_12 : decode cX5_pass 12 = .ok (.ireturn, 1) := by decide +kernel
theorem dX5_pass_13 : decode cX5_pass 13 = .ok (.aload_n 0, 1) := by decide +kernel
theorem dX5_pass_14 : decode cX5_pass 14 = .ok (.getfield 10, 3) := by decide +kernel
theorem dX5_pass_17 : decode cX5_pass 17 = .ok (.invokevirtual 114, 3) := by decide +kernel
theorem dX5_pass_20 : decode cX5_pass 20 = .ok (.sipush 9999, 3) := by decide +kernel
theorem dX5_pass_23 : decode cX5_pass 23 = .ok (.iload_n 1, 1) := by decide +kernel
theorem dX5_pass_24 : decode cX5_pass 24 = .ok (.isub, 1) := by decide +kernel
theorem dX5_pass_25 : decode cX5_pass 25 = .ok (.if_icmp .le 6, 3) := by decide +kernel
theorem dX5_pass_28 : decode cX5_pass 28 = .ok (.bipush (-3), 2) := by decide +kernel
theorem dX5_pass_30 : decode cX5_pass 30 = .ok (.ireturn, 1) := by decide +kernel
theorem dX5_pass_31 : decode cX5_pass 31 = .ok (.aload_n 0, 1) := by decide +kernel
theorem dX5_pass_32 : decode cX5_pass 32 = .ok (.getfield 25, 3) := by decide +kernel
theorem dX5_pass_35 : decode cX5_pass 35 = .ok (.aload_n 0, 1) := by decide +kernel
theorem dX5_pass_36 : decode cX5_pass 36 = .ok (.getfield 10, 3) := by decide +kernel
theorem dX5_pass_39 : decode cX5_pass 39 = .ok (.invokevirtual 55, 3) := by decide +kernel
theorem dX5_pass_42 : decode cX5_pass 42 = .ok (.aload_n 0, 1) := by decide +kernel
theorem dX5_pass_43 : decode cX5_pass 43 = .ok (.getfield 10, 3) := by decide +kernel
theorem dX5_pass_46 : decode cX5_pass 46 = .ok (.bipush 6, 2) := by decide +kernel
theorem dX5_pass_48 : decode cX5_pass 48 = .ok (.invokevirtual 118, 3) := by decide +kernel
theorem dX5_pass_51 : decode cX5_pass 51 = .ok (.istore_n 2, 1) := by decide +kernel
theorem dX5_pass_52 : decode cX5_pass 52 = .ok (.iconst 0, 1) := by decide +kernel
theorem dX5_pass_53 : decode cX5_pass 53 = .ok (.istore_n 3, 1) := by decide +kernel
theorem dX5_pass_54 : decode cX5_pass 54 = .ok (.iload_n 3, 1) := by decide +kernel
theorem dX5_pass_55 : decode cX5_pass 55 = .ok (.iload_n 1, 1) := by decide +kernel
theorem dX5_pass_56 : decode cX5_pass 56 = .ok (.if_icmp .ge 17, 3) := by decide +kernel
theorem dX5_pass_59 : decode cX5_pass 59 = .ok (.aload_n 0, 1) := by decide +kernel
theorem dX5_pass_60 : decode cX5_pass 60 = .ok (.getfield 10, 3) := by decide +kernel
theorem dX5_pass_63 : decode cX5_pass 63 = .ok (.iconst 1, 1) := by decide +kernel
theorem dX5_pass_64 : decode cX5_pass 64 = .ok (.invokevirtual 121, 3) := by decide +kernel
theorem dX5_pass_67 : decode cX5_pass 67 = .ok (.iinc 3 1, 3) := by decide +kernel
theorem dX5_pass_70 : decode cX5_pass 70 = .ok (.goto (-16), 3) := by decide +kernel
theorem dX5_pass_73 : decode cX5_pass 73 = .ok (.aload_n 0, 1) := by decide +kernel
theorem dX5_pass_74 : decode cX5_pass 74 = .ok (.getfield 10, 3) := by decide +kernel
theorem dX5_pass_77 : decode cX5_pass 77 = .ok (.bipush 6, 2) := by decide +kernel
theorem dX5_pass_79 : decode cX5_pass 79 = .ok (.invokevirtual 118, 3) := by decide +kernel
theorem dX5_pass_82 : decode cX5_pass 82 = .ok (.iload_n 2, 1) := by decide +kernel
theorem dX5_pass_83 : decode cX5_pass 83 = .ok (.isub, 1) := by decide +kernel
theorem dX5_pass_84 : decode cX5_pass 84 = .ok (.ireturn, 1) := by decide +kernel
theorem dX5_type_0 : decode cX5_type 0 = .ok (.aload_n 0, 1) := by decide +kernel
theorem dX5_type_1 : decode cX5_type 1 = .ok (.getfield 32, 3) := by decide +kernel
theorem dX5_type_4 : decode cX5_type 4 = .ok (.iload_n 1, 1) := by decide +kernel
theorem dX5_type_5 : decode cX5_type 5 = .ok (.invokevirtual 125, 3) := by decide +kernel
theorem dX5_type_8 : decode cX5_type 8 = .ok (.ifCond .eq 13, 3) := by decide +kernel
theorem dX5_type_11 : decode cX5_type 11 = .ok (.aload_n 0, 1) := by decide +kernel
theorem dX5_type_12 : decode cX5_type 12 = .ok (.getfield 32, 3) := by decide +kernel
theorem dX5_type_15 : decode cX5_type 15 = .ok (.invokevirtual 129, 3) := by decide +kernel
theorem dX5_type_18 : decode cX5_type 18 = .ok (.goto 5, 3) := by decide +kernel
theorem dX5_type_21 : decode cX5_type 21 = .ok (.bipush (-3), 2) := by decide +kernel
theorem dX5_type_23 : decode cX5_type 23 = .ok (.ireturn, 1) := by decide +kernel
theorem dX5_clearText_0 : decode cX5_clearText 0 = .ok (.aload_n 0, 1) := by decide +kernel
theorem dX5_clearText_1 : decode cX5_clearText 1 = .ok (.getfield 32, 3) := by decide +kernel
theorem dX5_clearText_4 : decode cX5_clearText 4 = .ok (.invokevirtual 129, 3) := by decide +kernel
theorem dX5_clearText_7 : decode cX5_clearText 7 = .ok (.istore_n 1, 1) := by decide +kernel
theorem dX5_clearText_8 : decode cX5_clearText 8 = .ok (.aload_n 0, 1) := by decide +kernel
theorem dX5_clearText_9 : decode cX5_clearText 9 = .ok (.getfield 32, 3) := by decide +kernel
theorem dX5_clearText_12 : decode cX5_clearText 12 = .ok (.invokevirtual 132, 3) := by decide +kernel
theorem dX5_clearText_15 : decode cX5_clearText 15 = .ok (.iload_n 1, 1) := by decide +kernel
theorem dX5_clearText_16 : decode cX5_clearText 16 = .ok (.ireturn, 1) := by decide +kernel
theorem dX5_bookPlan_0 : decode cX5_bookPlan 0 = .ok (.aload_n 0, 1) := by decide +kernel
theorem dX5_bookPlan_1 : decode cX5_bookPlan 1 = .ok (.getfield 39, 3) := by decide +kernel
theorem dX5_bookPlan_4 : decode cX5_bookPlan 4 = .ok (.aload_n 0, 1) := by decide +kernel
theorem dX5_bookPlan_5 : decode cX5_bookPlan 5 = .ok (.getfield 32, 3) := by decide +kernel
theorem dX5_bookPlan_8 : decode cX5_bookPlan 8 = .ok (.invokevirtual 135, 3) := by decide +kernel
theorem dX5_bookPlan_11 : decode cX5_bookPlan 11 = .ok (.istore_n 1, 1) := by decide +kernel
theorem dX5_bookPlan_12 : decode cX5_bookPlan 12 = .ok (.iload_n 1, 1) := by decide +kernel
theorem dX5_bookPlan_13 : decode cX5_bookPlan 13 = .ok (.bipush (-5), 2) := by decide +kernel
theorem dX5_bookPlan_15 : decode cX5_bookPlan 15 = .ok (.if_icmp .eq 8, 3) := by decide +kernel
theorem dX5_bookPlan_18 : decode cX5_bookPlan 18 = .ok (.bipush (-100), 2) := by decide +kernel
theorem dX5_bookPlan_20 : decode cX5_bookPlan 20 = .ok (.iload_n 1, 1) := by decide +kernel
theorem dX5_bookPlan_21 : decode cX5_bookPlan 21 = .ok (.isub, 1) := by decide +kernel
theorem dX5_bookPlan_22 : decode cX5_bookPlan 22 = .ok (.ireturn, 1) := by decide +kernel
theorem dX5_bookPlan_23 : decode cX5_bookPlan 23 = .ok (.aload_n 0, 1) := by decide +kernel
theorem dX5_bookPlan_24 : decode cX5_bookPlan 24 = .ok (.getfield 16, 3) := by decide +kernel
theorem dX5_bookPlan_27 : decode cX5_bookPlan 27 = .ok (.aload_n 0, 1) := by decide +kernel
theorem dX5_bookPlan_28 : decode cX5_bookPlan 28 = .ok (.getfield 10, 3) := by decide +kernel
theorem dX5_bookPlan_31 : decode cX5_bookPlan 31 = .ok (.invokevirtual 139, 3) := by decide +kernel
theorem dX5_bookPlan_34 : decode cX5_bookPlan 34 = .ok (.iconst 0, 1) := by decide +kernel
theorem dX5_bookPlan_35 : decode cX5_bookPlan 35 = .ok (.istore_n 2, 1) := by decide +kernel
theorem dX5_bookPlan_36 : decode cX5_bookPlan 36 = .ok (.iload_n 2, 1) := by decide +kernel
theorem dX5_bookPlan_37 : decode cX5_bookPlan 37 = .ok (.aload_n 0, 1) := by decide +kernel
theorem dX5_bookPlan_38 : decode cX5_bookPlan 38 = .ok (.getfield 39, 3) := by decide +kernel
theorem dX5_bookPlan_41 : decode cX5_bookPlan 41 = .ok (.invokevirtual 142, 3) := by decide +kernel
theorem dX5_bookPlan_44 : decode cX5_bookPlan 44 = .ok (.if_icmp .ge 72, 3) := by decide +kernel
theorem dX5_bookPlan_47 : decode cX5_bookPlan 47 = .ok (.aload_n 0, 1) := by decide +kernel
theorem dX5_bookPlan_48 : decode cX5_bookPlan 48 = .ok (.getfield 39, 3) := by decide +kernel
theorem dX5_bookPlan_51 : decode cX5_bookPlan 51 = .ok (.iload_n 2, 1) := by decide +kernel
theorem dX5_bookPlan_52 : decode cX5_bookPlan 52 = .ok (.invokevirtual 145, 3) := by decide +kernel
theorem dX5_bookPlan_55 : decode cX5_bookPlan 55 = .ok (.istore_n 3, 1) := by decide +kernel
theorem dX5_bookPlan_56 : decode cX5_bookPlan 56 = .ok (.aload_n 0, 1) := by decide +kernel
theorem dX5_bookPlan_57 : decode cX5_bookPlan 57 = .ok (.getfield 39, 3) := by decide +kernel
theorem dX5_bookPlan_60 : decode cX5_bookPlan 60 = .ok (.iload_n 2, 1) := by decide +kernel
theorem dX5_bookPlan_61 : decode cX5_bookPlan 61 = .ok (.invokevirtual 148, 3) := by decide +kernel
theorem dX5_bookPlan_64 : decode cX5_bookPlan 64 = .ok (.istore 4, 2) := by decide +kernel
theorem dX5_bookPlan_66 : decode cX5_bookPlan 66 = .ok (.aload_n 0, 1) := by decide +kernel
theorem dX5_bookPlan_67 : decode cX5_bookPlan 67 = .ok (.getfield 39, 3) := by decide +kernel
theorem dX5_bookPlan_70 : decode cX5_bookPlan 70 = .ok (.iload_n 2, 1) := by decide +kernel
theorem dX5_bookPlan_71 : decode cX5_bookPlan 71 = .ok (.invokevirtual 151, 3) := by decide +kernel
theorem dX5_bookPlan_74 : decode cX5_bookPlan 74 = .ok (.istore 5, 2) := by decide +kernel
theorem dX5_bookPlan_76 : decode cX5_bookPlan 76 = .ok (.aload_n 0, 1) := by decide +kernel
theorem dX5_bookPlan_77 : decode cX5_bookPlan 77 = .ok (.getfield 16, 3) := by decide +kernel
theorem dX5_bookPlan_80 : decode cX5_bookPlan 80 = .ok (.iload_n 3, 1) := by decide +kernel
theorem dX5_bookPlan_81 : decode cX5_bookPlan 81 = .ok (.iload 4, 2) := by decide +kernel
theorem dX5_bookPlan_83 : decode cX5_bookPlan 83 = .ok (.iload 5, 2) := by decide +kernel
theorem dX5_bookPlan_85 : decode cX5_bookPlan 85 = .ok (.invokevirtual 94, 3) := by decide +kernel
theorem dX5_bookPlan_88 : decode cX5_bookPlan 88 = .ok (.istore 6, 2) := by decide +kernel
theorem dX5_bookPlan_90 : decode cX5_bookPlan 90 = .ok (.iload 6, 2) := by decide +kernel
theorem dX5_bookPlan_92 : decode cX5_bookPlan 92 = .ok (.ifCond .eq 6, 3) := by decide +kernel
theorem dX5_bookPlan_95 : decode cX5_bookPlan 95 = .ok (.iload 6, 2) := by decide +kernel
theorem dX5_bookPlan_97 : decode cX5_bookPlan 97 = .ok (.ireturn, 1) := by decide +kernel
theorem dX5_bookPlan_98 : decode cX5_bookPlan 98 = .ok (.aload_n 0, 1) := by decide +kernel
theorem dX5_bookPlan_99 : decode cX5_bookPlan 99 = .ok (.getfield 16, 3) := by decide +kernel
theorem dX5_bookPlan_102 : decode cX5_bookPlan 102 = .ok (.iload_n 3, 1) := by decide +kernel
theorem dX5_bookPlan_103 : decode cX5_bookPlan 103 = .ok (.iload 4, 2) := by decide +kernel
theorem dX5_bookPlan_105 : decode cX5_bookPlan 105 = .ok (.iload 5, 2) := by decide +kernel
theorem dX5_bookPlan_107 : decode cX5_bookPlan 107 = .ok (.invokevirtual 98, 3) := by decide +kernel
theorem dX5_bookPlan_110 : decode cX5_bookPlan 110 = .ok (.iinc 2 1, 3) := by decide +kernel
theorem dX5_bookPlan_113 : decode cX5_bookPlan 113 = .ok (.goto (-77), 3) := by decide +kernel
theorem dX5_bookPlan_116 : decode cX5_bookPlan 116 = .ok (.aload_n 0, 1) := by decide +kernel
theorem dX5_bookPlan_117 : decode cX5_bookPlan 117 = .ok (.getfield 25, 3) := by decide +kernel
theorem dX5_bookPlan_120 : decode cX5_bookPlan 120 = .ok (.aload_n 0, 1) := by decide +kernel
theorem dX5_bookPlan_121 : decode cX5_bookPlan 121 = .ok (.getfield 10, 3) := by decide +kernel
theorem dX5_bookPlan_124 : decode cX5_bookPlan 124 = .ok (.invokevirtual 55, 3) := by decide +kernel
theorem dX5_bookPlan_127 : decode cX5_bookPlan 127 = .ok (.aload_n 0, 1) := by decide +kernel
theorem dX5_bookPlan_128 : decode cX5_bookPlan 128 = .ok (.getfield 10, 3) := by decide +kernel
theorem dX5_bookPlan_131 : decode cX5_bookPlan 131 = .ok (.aload_n 0, 1) := by decide +kernel
theorem dX5_bookPlan_132 : decode cX5_bookPlan 132 = .ok (.getfield 16, 3) := by decide +kernel
theorem dX5_bookPlan_135 : decode cX5_bookPlan 135 = .ok (.invokevirtual 139, 3) := by decide +kernel
theorem dX5_bookPlan_138 : decode cX5_bookPlan 138 = .ok (.aload_n 0, 1) := by decide +kernel
theorem dX5_bookPlan_139 : decode cX5_bookPlan 139 = .ok (.getfield 39, 3) := by decide +kernel
theorem dX5_bookPlan_142 : decode cX5_bookPlan 142 = .ok (.invokevirtual 142, 3) := by decide +kernel
theorem dX5_bookPlan_145 : decode cX5_bookPlan 145 = .ok (.ireturn, 1) := by decide +kernel
theorem dX5_undo_0 : decode cX5_undo 0 = .ok (.aload_n 0, 1) := by decide +kernel
theorem dX5_undo_1 : decode cX5_undo 1 = .ok (.getfield 25, 3) := by decide +kernel
theorem dX5_undo_4 : decode cX5_undo 4 = .ok (.invokevirtual 154, 3) := by decide +kernel
theorem dX5_undo_7 : decode cX5_undo 7 = .ok (.ifCond .ne 6, 3) := by decide +kernel
theorem dX5_undo_10 : decode cX5_undo 10 = .ok (.bipush (-5), 2) := by decide +kernel
theorem dX5_undo_12 : decode cX5_undo 12 = .ok (.ireturn, 1) := by decide +kernel
theorem dX5_undo_13 : decode cX5_undo 13 = .ok (.aload_n 0, 1) := by decide +kernel
theorem dX5_undo_14 : decode cX5_undo 14 = .ok (.getfield 25, 3) := by decide +kernel
theorem dX5_undo_17 : decode cX5_undo 17 = .ok (.aload_n 0, 1) := by decide +kernel
theorem dX5_undo_18 : decode cX5_undo 18 = .ok (.getfield 10, 3) := by decide +kernel
theorem dX5_undo_21 : decode cX5_undo 21 = .ok (.invokevirtual 155, 3) := by decide +kernel
theorem dX5_undo_24 : decode cX5_undo 24 = .ok (.aload_n 0, 1) := by decide +kernel
theorem dX5_undo_25 : decode cX5_undo 25 = .ok (.getfield 25, 3) := by decide +kernel
theorem dX5_undo_28 : decode cX5_undo 28 = .ok (.invokevirtual 154, 3) := by decide +kernel
theorem dX5_undo_31 : decode cX5_undo 31 = .ok (.ireturn, 1) := by decide +kernel
theorem dX5_keep_0 : decode cX5_keep 0 = .ok (.aload_n 0, 1) := by decide +kernel
theorem dX5_keep_1 : decode cX5_keep 1 = .ok (.getfield 19, 3) := by decide +kernel
theorem dX5_keep_4 : decode cX5_keep 4 = .ok (.aload_n 0, 1) := by decide +kernel
theorem dX5_keep_5 : decode cX5_keep 5 = .ok (.getfield 10, 3) := by decide +kernel
theorem dX5_keep_8 : decode cX5_keep 8 = .ok (.invokevirtual 139, 3) := by decide +kernel
theorem dX5_keep_11 : decode cX5_keep 11 = .ok (.aload_n 0, 1) := by decide +kernel
theorem dX5_keep_12 : decode cX5_keep 12 = .ok (.iconst 1, 1) := by decide +kernel
theorem dX5_keep_13 : decode cX5_keep 13 = .ok (.putfield 158, 3) := by decide +kernel
theorem dX5_keep_16 : decode cX5_keep 16 = .ok (.aload_n 0, 1) := by decide +kernel
theorem dX5_keep_17 : decode cX5_keep 17 = .ok (.getfield 10, 3) := by decide +kernel
theorem dX5_keep_20 : decode cX5_keep 20 = .ok (.invokevirtual 114, 3) := by decide +kernel
theorem dX5_keep_23 : decode cX5_keep 23 = .ok (.ireturn, 1) := by decide +kernel
theorem dX5_restore_0 : decode cX5_restore 0 = .ok (.aload_n 0, 1) := by decide +kernel
theorem dX5_restore_1 : decode cX5_restore 1 = .ok (.getfield 158, 3) := by decide +kernel
theorem dX5_restore_4 : decode cX5_restore 4 = .ok (.ifCond .ne 6, 3) := by decide +kernel
theorem dX5_restore_7 : decode cX5_restore 7 = .ok (.bipush (-5), 2) := by decide +kernel
theorem dX5_restore_9 : decode cX5_restore 9 = .ok (.ireturn, 1) := by decide +kernel
theorem dX5_restore_10 : decode cX5_restore 10 = .ok (.aload_n 0, 1) := by decide +kernel
theorem dX5_restore_11 : decode cX5_restore 11 = .ok (.getfield 25, 3) := by decide +kernel
theorem dX5_restore_14 : decode cX5_restore 14 = .ok (.aload_n 0, 1) := by decide +kernel
theorem dX5_restore_15 : decode cX5_restore 15 = .ok (.getfield 10, 3) := by decide +kernel
theorem dX5_restore_18 : decode cX5_restore 18 = .ok (.invokevirtual 55, 3) := by decide +kernel
theorem dX5_restore_21 : decode cX5_restore 21 = .ok (.aload_n 0, 1) := by decide +kernel
theorem dX5_restore_22 : decode cX5_restore 22 = .ok (.getfield 10, 3) := by decide +kernel
theorem dX5_restore_25 : decode cX5_restore 25 = .ok (.aload_n 0, 1) := by decide +kernel
theorem dX5_restore_26 : decode cX5_restore 26 = .ok (.getfield 19, 3) := by decide +kernel
theorem dX5_restore_29 : decode cX5_restore 29 = .ok (.invokevirtual 139, 3) := by decide +kernel
theorem dX5_restore_32 : decode cX5_restore 32 = .ok (.aload_n 0, 1) := by decide +kernel
theorem dX5_restore_33 : decode cX5_restore 33 = .ok (.getfield 10, 3) := by decide +kernel
theorem dX5_restore_36 : decode cX5_restore 36 = .ok (.invokevirtual 114, 3) := by decide +kernel
theorem dX5_restore_39 : decode cX5_restore 39 = .ok (.ireturn, 1) := by decide +kernel
theorem dX5_horse_0 : decode cX5_horse 0 = .ok (.iload_n 1, 1) := by decide +kernel
theorem dX5_horse_1 : decode cX5_horse 1 = .ok (.invokestatic 43, 3) := by decide +kernel
theorem dX5_horse_4 : decode cX5_horse 4 = .ok (.ifCond .eq 5, 3) := by decide +kernel
theorem dX5_horse_7 : decode cX5_horse 7 = .ok (.iconst (-1), 1) := by decide +kernel
theorem dX5_horse_8 : decode cX5_horse 8 = .ok (.ireturn, 1) := by decide +kernel
theorem dX5_horse_9 : decode cX5_horse 9 = .ok (.iload_n 2, 1) := by decide +kernel
theorem dX5_horse_10 : decode cX5_horse 10 = .ok (.iconst 0, 1) := by decide +kernel
theorem dX5_horse_11 : decode cX5_horse 11 = .ok (.bipush 8, 2) := by decide +kernel
theorem dX5_horse_13 : decode cX5_horse 13 = .ok (.invokestatic 47, 3) := by decide +kernel
theorem dX5_horse_16 : decode cX5_horse 16 = .ok (.ifCond .eq 8, 3) := by decide +kernel
theorem dX5_horse_19 : decode cX5_horse 19 = .ok (.bipush (-2), 2) := by decide +kernel
theorem dX5_horse_21 : decode cX5_horse 21 = .ok (.goto 12, 3) := by decide +kernel
theorem dX5_horse_24 : decode cX5_horse 24 = .ok (.aload_n 0, 1) := by decide +kernel
theorem dX5_horse_25 : decode cX5_horse 25 = .ok (.getfield 10, 3) := by decide +kernel
theorem dX5_horse_28 : decode cX5_horse 28 = .ok (.iload_n 1, 1) := by decide +kernel
theorem dX5_horse_29 : decode cX5_horse 29 = .ok (.iload_n 2, 1) := by decide +kernel
theorem dX5_horse_30 : decode cX5_horse 30 = .ok (.invokevirtual 51, 3) := by decide +kernel
theorem dX5_horse_33 : decode cX5_horse 33 = .ok (.ireturn, 1) := by decide +kernel
theorem dX5_rider_0 : decode cX5_rider 0 = .ok (.iload_n 1, 1) := by decide +kernel
theorem dX5_rider_1 : decode cX5_rider 1 = .ok (.invokestatic 63, 3) := by decide +kernel
theorem dX5_rider_4 : decode cX5_rider 4 = .ok (.ifCond .eq 5, 3) := by decide +kernel
theorem dX5_rider_7 : decode cX5_rider 7 = .ok (.iconst (-1), 1) := by decide +kernel
theorem dX5_rider_8 : decode cX5_rider 8 = .ok (.ireturn, 1) := by decide +kernel
theorem dX5_rider_9 : decode cX5_rider 9 = .ok (.iload_n 2, 1) := by decide +kernel
theorem dX5_rider_10 : decode cX5_rider 10 = .ok (.iconst 0, 1) := by decide +kernel
theorem dX5_rider_11 : decode cX5_rider 11 = .ok (.bipush 9, 2) := by decide +kernel
theorem dX5_rider_13 : decode cX5_rider 13 = .ok (.invokestatic 47, 3) := by decide +kernel
theorem dX5_rider_16 : decode cX5_rider 16 = .ok (.ifCond .eq 8, 3) := by decide +kernel
theorem dX5_rider_19 : decode cX5_rider 19 = .ok (.bipush (-2), 2) := by decide +kernel
theorem dX5_rider_21 : decode cX5_rider 21 = .ok (.goto 12, 3) := by decide +kernel
theorem dX5_rider_24 : decode cX5_rider 24 = .ok (.aload_n 0, 1) := by decide +kernel
theorem dX5_rider_25 : decode cX5_rider 25 = .ok (.getfield 10, 3) := by decide +kernel
theorem dX5_rider_28 : decode cX5_rider 28 = .ok (.iload_n 1, 1) := by decide +kernel
theorem dX5_rider_29 : decode cX5_rider 29 = .ok (.iload_n 2, 1) := by decide +kernel
theorem dX5_rider_30 : decode cX5_rider 30 = .ok (.invokevirtual 66, 3) := by decide +kernel
theorem dX5_rider_33 : decode cX5_rider 33 = .ok (.ireturn, 1) := by decide +kernel
theorem dX5_lesson_0 : decode cX5_lesson 0 = .ok (.iload_n 2, 1) := by decide +kernel
theorem dX5_lesson_1 : decode cX5_lesson 1 = .ok (.invokestatic 91, 3) := by decide +kernel
theorem dX5_lesson_4 : decode cX5_lesson 4 = .ok (.ifCond .eq 5, 3) := by decide +kernel
theorem dX5_lesson_7 : decode cX5_lesson 7 = .ok (.iconst (-1), 1) := by decide +kernel
theorem dX5_lesson_8 : decode cX5_lesson 8 = .ok (.ireturn, 1) := by decide +kernel
theorem dX5_lesson_9 : decode cX5_lesson 9 = .ok (.iload_n 1, 1) := by decide +kernel
theorem dX5_lesson_10 : decode cX5_lesson 10 = .ok (.iconst 0, 1) := by decide +kernel
theorem dX5_lesson_11 : decode cX5_lesson 11 = .ok (.bipush 99, 2) := by decide +kernel
theorem dX5_lesson_13 : decode cX5_lesson 13 = .ok (.invokestatic 47, 3) := by decide +kernel
theorem dX5_lesson_16 : decode cX5_lesson 16 = .ok (.ifCond .ne 12, 3) := by decide +kernel
theorem dX5_lesson_19 : decode cX5_lesson 19 = .ok (.iload_n 3, 1) := by decide +kernel
theorem dX5_lesson_20 : decode cX5_lesson 20 = .ok (.iconst 0, 1) := by decide +kernel
theorem dX5_lesson_21 : decode cX5_lesson 21 = .ok (.iconst 2, 1) := by decide +kernel
theorem dX5_lesson_22 : decode cX5_lesson 22 = .ok (.invokestatic 47, 3) := by decide +kernel
theorem dX5_lesson_25 : decode cX5_lesson 25 = .ok (.ifCond .eq 6, 3) := by decide +kernel
theorem dX5_lesson_28 : decode cX5_lesson 28 = .ok (.bipush (-2), 2) := by decide +kernel
theorem dX5_lesson_30 : decode cX5_lesson 30 = .ok (.ireturn, 1) := by decide +kernel
theorem dX5_lesson_31 : decode cX5_lesson 31 = .ok (.iload_n 3, 1) := by decide +kernel
theorem dX5_lesson_32 : decode cX5_lesson 32 = .ok (.iconst 2, 1) := by decide +kernel
theorem dX5_lesson_33 : decode cX5_lesson 33 = .ok (.if_icmp .ne 13, 3) := by decide +kernel
theorem dX5_lesson_36 : decode cX5_lesson 36 = .ok (.aload_n 0, 1) := by decide +kernel
theorem dX5_lesson_37 : decode cX5_lesson 37 = .ok (.getfield 10, 3) := by decide +kernel
theorem dX5_lesson_40 : decode cX5_lesson 40 = .ok (.iload_n 1, 1) := by decide +kernel
theorem dX5_lesson_41 : decode cX5_lesson 41 = .ok (.iload_n 2, 1) := by decide +kernel
theorem dX5_lesson_42 : decode cX5_lesson 42 = .ok (.invokevirtual 162, 3) := by decide +kernel
theorem dX5_lesson_45 : decode cX5_lesson 45 = .ok (.ireturn, 1) := by decide +kernel
theorem dX5_lesson_46 : decode cX5_lesson 46 = .ok (.aload_n 0, 1) := by decide +kernel
theorem dX5_lesson_47 : decode cX5_lesson 47 = .ok (.getfield 10, 3) := by decide +kernel
theorem dX5_lesson_50 : decode cX5_lesson 50 = .ok (.iload_n 1, 1) := by decide +kernel
theorem dX5_lesson_51 : decode cX5_lesson 51 = .ok (.iload_n 2, 1) := by decide +kernel
theorem dX5_lesson_52 : decode cX5_lesson 52 = .ok (.invokevirtual 101, 3) := by decide +kernel
theorem dX5_lesson_55 : decode cX5_lesson 55 = .ok (.istore 4, 2) := by decide +kernel
theorem dX5_lesson_57 : decode cX5_lesson 57 = .ok (.iload_n 3, 1) := by decide +kernel
theorem dX5_lesson_58 : decode cX5_lesson 58 = .ok (.ifCond .ne 8, 3) := by decide +kernel
theorem dX5_lesson_61 : decode cX5_lesson 61 = .ok (.iload 4, 2) := by decide +kernel
theorem dX5_lesson_63 : decode cX5_lesson 63 = .ok (.goto 13, 3) := by decide +kernel
theorem dX5_lesson_66 : decode cX5_lesson 66 = .ok (.getstatic 165, 3) := by decide +kernel
theorem dX5_lesson_69 : decode cX5_lesson 69 = .ok (.iload_n 2, 1) := by decide +kernel
theorem dX5_lesson_70 : decode cX5_lesson 70 = .ok (.invokestatic 76, 3) := by decide +kernel
theorem dX5_lesson_73 : decode cX5_lesson 73 = .ok (.iload 4, 2) := by decide +kernel
theorem dX5_lesson_75 : decode cX5_lesson 75 = .ok (.isub, 1) := by decide +kernel
theorem dX5_lesson_76 : decode cX5_lesson 76 = .ok (.ireturn, 1) := by decide +kernel
theorem dX5_fall_0 : decode cX5_fall 0 = .ok (.iload_n 1, 1) := by decide +kernel
theorem dX5_fall_1 : decode cX5_fall 1 = .ok (.ifCond .lt 12, 3) := by decide +kernel
theorem dX5_fall_4 : decode cX5_fall 4 = .ok (.iload_n 2, 1) := by decide +kernel
theorem dX5_fall_5 : decode cX5_fall 5 = .ok (.iconst 0, 1) := by decide +kernel
theorem dX5_fall_6 : decode cX5_fall 6 = .ok (.iconst 2, 1) := by decide +kernel
theorem dX5_fall_7 : decode cX5_fall 7 = .ok (.invokestatic 47, 3) := by decide +kernel
theorem dX5_fall_10 : decode cX5_fall 10 = .ok (.ifCond .eq 6, 3) := by decide +kernel
theorem dX5_fall_13 : decode cX5_fall 13 = .ok (.bipush (-2), 2) := by decide +kernel
theorem dX5_fall_15 : decode cX5_fall 15 = .ok (.ireturn, 1) := by decide +kernel
theorem dX5_fall_16 : decode cX5_fall 16 = .ok (.aload_n 0, 1) := by decide +kernel
theorem dX5_fall_17 : decode cX5_fall 17 = .ok (.getfield 10, 3) := by decide +kernel
theorem dX5_fall_20 : decode cX5_fall 20 = .ok (.iload_n 1, 1) := by decide +kernel
theorem dX5_fall_21 : decode cX5_fall 21 = .ok (.iload_n 2, 1) := by decide +kernel
theorem dX5_fall_22 : decode cX5_fall 22 = .ok (.invokevirtual 168, 3) := by decide +kernel
theorem dX5_fall_25 : decode cX5_fall 25 = .ok (.ireturn, 1) := by decide +kernel
theorem dX5_reason_0 : decode cX5_reason 0 = .ok (.iload_n 1, 1) := by decide +kernel
theorem dX5_reason_1 : decode cX5_reason 1 = .ok (.invokestatic 43, 3) := by decide +kernel
theorem dX5_reason_4 : decode cX5_reason 4 = .ok (.ifCond .ne 10, 3) := by decide +kernel
theorem dX5_reason_7 : decode cX5_reason 7 = .ok (.iload_n 2, 1) := by decide +kernel
theorem dX5_reason_8 : decode cX5_reason 8 = .ok (.invokestatic 63, 3) := by decide +kernel
theorem dX5_reason_11 : decode cX5_reason 11 = .ok (.ifCond .eq 5, 3) := by decide +kernel
theorem dX5_reason_14 : decode cX5_reason 14 = .ok (.iconst (-1), 1) := by decide +kernel
theorem dX5_reason_15 : decode cX5_reason 15 = .ok (.ireturn, 1) := by decide +kernel
theorem dX5_reason_16 : decode cX5_reason 16 = .ok (.aload_n 0, 1) := by decide +kernel
theorem dX5_reason_17 : decode cX5_reason 17 = .ok (.getfield 10, 3) := by decide +kernel
theorem dX5_reason_20 : decode cX5_reason 20 = .ok (.iload_n 1, 1) := by decide +kernel
theorem dX5_reason_21 : decode cX5_reason 21 = .ok (.iload_n 2, 1) := by decide +kernel
theorem dX5_reason_22 : decode cX5_reason 22 = .ok (.aload_n 0, 1) := by decide +kernel
theorem dX5_reason_23 : decode cX5_reason 23 = .ok (.getfield 10, 3) := by decide +kernel
theorem dX5_reason_26 : decode cX5_reason 26 = .ok (.invokevirtual 171, 3) := by decide +kernel
theorem dX5_reason_29 : decode cX5_reason 29 = .ok (.invokevirtual 174, 3) := by decide +kernel
theorem dX5_reason_32 : decode cX5_reason 32 = .ok (.ireturn, 1) := by decide +kernel
theorem dX5_best_0 : decode cX5_best 0 = .ok (.iload_n 1, 1) := by decide +kernel
theorem dX5_best_1 : decode cX5_best 1 = .ok (.invokestatic 63, 3) := by decide +kernel
theorem dX5_best_4 : decode cX5_best 4 = .ok (.ifCond .eq 5, 3) := by decide +kernel
theorem dX5_best_7 : decode cX5_best 7 = .ok (.iconst (-1), 1) := by decide +kernel
theorem dX5_best_8 : decode cX5_best 8 = .ok (.ireturn, 1) := by decide +kernel
theorem dX5_best_9 : decode cX5_best 9 = .ok (.aload_n 0, 1) := by decide +kernel
theorem dX5_best_10 : decode cX5_best 10 = .ok (.getfield 10, 3) := by decide +kernel
theorem dX5_best_13 : decode cX5_best 13 = .ok (.iload_n 1, 1) := by decide +kernel
theorem dX5_best_14 : decode cX5_best 14 = .ok (.aload_n 0, 1) := by decide +kernel
theorem dX5_best_15 : decode cX5_best 15 = .ok (.getfield 10, 3) := by decide +kernel
theorem dX5_best_18 : decode cX5_best 18 = .ok (.invokevirtual 171, 3) := by decide +kernel
theorem dX5_best_21 : decode cX5_best 21 = .ok (.iconst 0, 1) := by decide +kernel
theorem dX5_best_22 : decode cX5_best 22 = .ok (.invokevirtual 177, 3) := by decide +kernel
theorem dX5_best_25 : decode cX5_best 25 = .ok (.ireturn, 1) := by decide +kernel
theorem dX5_takenIn_0 : decode cX5_takenIn 0 = .ok (.iload_n 1, 1) := by decide +kernel
theorem dX5_takenIn_1 : decode cX5_takenIn 1 = .ok (.invokestatic 43, 3) := by decide +kernel
theorem dX5_takenIn_4 : decode cX5_takenIn 4 = .ok (.ifCond .ne 10, 3) := by decide +kernel
theorem dX5_takenIn_7 : decode cX5_takenIn 7 = .ok (.iload_n 2, 1) := by decide +kernel
theorem dX5_takenIn_8 : decode cX5_takenIn 8 = .ok (.invokestatic 63, 3) := by decide +kernel
theorem dX5_takenIn_11 : decode cX5_takenIn 11 = .ok (.ifCond .eq 5, 3) := by decide +kernel
theorem dX5_takenIn_14 : decode cX5_takenIn 14 = .ok (.iconst (-1), 1) := by decide +kernel
theorem dX5_takenIn_15 : decode cX5_takenIn 15 = .ok (.ireturn, 1) := by decide +kernel
theorem dX5_takenIn_16 : decode cX5_takenIn 16 = .ok (.aload_n 0, 1) := by decide +kernel
theorem dX5_takenIn_17 : decode cX5_takenIn 17 = .ok (.getfield 10, 3) := by decide +kernel
theorem dX5_takenIn_20 : decode cX5_takenIn 20 = .ok (.iload_n 1, 1) := by decide +kernel
theorem dX5_takenIn_21 : decode cX5_takenIn 21 = .ok (.iconst 0, 1) := by decide +kernel
theorem dX5_takenIn_22 : decode cX5_takenIn 22 = .ok (.invokevirtual 51, 3) := by decide +kernel
theorem dX5_takenIn_25 : decode cX5_takenIn 25 = .ok (.aload_n 0, 1) := by decide +kernel
theorem dX5_takenIn_26 : decode cX5_takenIn 26 = .ok (.getfield 10, 3) := by decide +kernel
theorem dX5_takenIn_29 : decode cX5_takenIn 29 = .ok (.iload_n 2, 1) := by decide +kernel
theorem dX5_takenIn_30 : decode cX5_takenIn 30 = .ok (.iconst 0, 1) := by decide +kernel
theorem dX5_takenIn_31 : decode cX5_takenIn 31 = .ok (.invokevirtual 66, 3) := by decide +kernel
theorem dX5_takenIn_34 : decode cX5_takenIn 34 = .ok (.if_icmp .ge 6, 3) := by decide +kernel
theorem dX5_takenIn_37 : decode cX5_takenIn 37 = .ok (.bipush (-5), 2) := by decide +kernel
theorem dX5_takenIn_39 : decode cX5_takenIn 39 = .ok (.ireturn, 1) := by decide +kernel
theorem dX5_takenIn_40 : decode cX5_takenIn 40 = .ok (.aload_n 0, 1) := by decide +kernel
theorem dX5_takenIn_41 : decode cX5_takenIn 41 = .ok (.getfield 16, 3) := by decide +kernel
theorem dX5_takenIn_44 : decode cX5_takenIn 44 = .ok (.aload_n 0, 1) := by decide +kernel
theorem dX5_takenIn_45 : decode cX5_takenIn 45 = .ok (.getfield 10, 3) := by decide +kernel
theorem dX5_takenIn_48 : decode cX5_takenIn 48 = .ok (.invokevirtual 139, 3) := by decide +kernel
theorem dX5_takenIn_51 : decode cX5_takenIn 51 = .ok (.iconst 0, 1) := by decide +kernel
theorem dX5_takenIn_52 : decode cX5_takenIn 52 = .ok (.istore_n 3, 1) := by decide +kernel
theorem dX5_takenIn_53 : decode cX5_takenIn 53 = .ok (.iload_n 3, 1) := by decide +kernel
theorem dX5_takenIn_54 : decode cX5_takenIn 54 = .ok (.sipush 200, 3) := by decide +kernel
theorem dX5_takenIn_57 : decode cX5_takenIn 57 = .ok (.if_icmp .gt 38, 3) := by decide +kernel
theorem dX5_takenIn_60 : decode cX5_takenIn 60 = .ok (.aload_n 0, 1) := by decide +kernel
theorem dX5_takenIn_61 : decode cX5_takenIn 61 = .ok (.getfield 16, 3) := by decide +kernel
theorem dX5_takenIn_64 : decode cX5_takenIn 64 = .ok (.iload_n 1, 1) := by decide +kernel
theorem dX5_takenIn_65 : decode cX5_takenIn 65 = .ok (.iload_n 2, 1) := by decide +kernel
theorem dX5_takenIn_66 : decode cX5_takenIn 66 = .ok (.aload_n 0, 1) := by decide +kernel
theorem dX5_takenIn_67 : decode cX5_takenIn 67 = .ok (.getfield 16, 3) := by decide +kernel
theorem dX5_takenIn_70 : decode cX5_takenIn 70 = .ok (.invokevirtual 171, 3) := by decide +kernel
theorem dX5_takenIn_73 : decode cX5_takenIn 73 = .ok (.invokevirtual 174, 3) := by decide +kernel
theorem dX5_takenIn_76 : decode cX5_takenIn 76 = .ok (.ifCond .ne 5, 3) := by decide +kernel
theorem dX5_takenIn_79 : decode cX5_takenIn 79 = .ok (.iload_n 3, 1) := by decide +kernel
theorem dX5_takenIn_80 : decode cX5_takenIn 80 = .ok (.ireturn, 1) := by decide +kernel
theorem dX5_takenIn_81 : decode cX5_takenIn 81 = .ok (.aload_n 0, 1) := by decide +kernel
theorem dX5_takenIn_82 : decode cX5_takenIn 82 = .ok (.getfield 16, 3) := by decide +kernel
theorem dX5_takenIn_85 : decode cX5_takenIn 85 = .ok (.iconst 0, 1) := by decide +kernel
theorem dX5_takenIn_86 : decode cX5_takenIn 86 = .ok (.invokevirtual 121, 3) := by decide +kernel
theorem dX5_takenIn_89 : decode cX5_takenIn 89 = .ok (.iinc 3 1, 3) := by decide +kernel
theorem dX5_takenIn_92 : decode cX5_takenIn 92 = .ok (.goto (-39), 3) := by decide +kernel
theorem dX5_takenIn_95 : decode cX5_takenIn 95 = .ok (.bipush (-5), 2) := by decide +kernel
theorem dX5_takenIn_97 : decode cX5_takenIn 97 = .ok (.ireturn, 1) := by decide +kernel
theorem dX5_ifPassed_0 : decode cX5_ifPassed 0 = .ok (.iload_n 1, 1) := by decide +kernel
theorem dX5_ifPassed_1 : decode cX5_ifPassed 1 = .ok (.iconst 1, 1) := by decide +kernel
theorem dX5_ifPassed_2 : decode cX5_ifPassed 2 = .ok (.bipush 99, 2) := by decide +kernel
theorem dX5_ifPassed_4 : decode cX5_ifPassed 4 = .ok (.invokestatic 47, 3) := by decide +kernel
theorem dX5_ifPassed_7 : decode cX5_ifPassed 7 = .ok (.ifCond .ne 12, 3) := by decide +kernel
theorem dX5_ifPassed_10 : decode cX5_ifPassed 10 = .ok (.iload_n 2, 1) := by decide +kernel
theorem dX5_ifPassed_11 : decode cX5_ifPassed 11 = .ok (.iconst 0, 1) := by decide +kernel
theorem dX5_ifPassed_12 : decode cX5_ifPassed 12 = .ok (.iconst 3, 1) := by decide +kernel
theorem dX5_ifPassed_13 : decode cX5_ifPassed 13 = .ok (.invokestatic 47, 3) := by decide +kernel
theorem dX5_ifPassed_16 : decode cX5_ifPassed 16 = .ok (.ifCond .eq 6, 3) := by decide +kernel
theorem dX5_ifPassed_19 : decode cX5_ifPassed 19 = .ok (.bipush (-2), 2) := by decide +kernel
theorem dX5_ifPassed_21 : decode cX5_ifPassed 21 = .ok (.ireturn, 1) := by decide +kernel
theorem dX5_ifPassed_22 : decode cX5_ifPassed 22 = .ok (.aload_n 0, 1) := by decide +kernel
theorem dX5_ifPassed_23 : decode cX5_ifPassed 23 = .ok (.getfield 16, 3) := by decide +kernel
theorem dX5_ifPassed_26 : decode cX5_ifPassed 26 = .ok (.aload_n 0, 1) := by decide +kernel
theorem dX5_ifPassed_27 : decode cX5_ifPassed 27 = .ok (.getfield 10, 3) := by decide +kernel
theorem dX5_ifPassed_30 : decode cX5_ifPassed 30 = .ok (.invokevirtual 139, 3) := by decide +kernel
theorem dX5_ifPassed_33 : decode cX5_ifPassed 33 = .ok (.iconst 0, 1) := by decide +kernel
theorem dX5_ifPassed_34 : decode cX5_ifPassed 34 = .ok (.istore_n 3, 1) := by decide +kernel
theorem dX5_ifPassed_35 : decode cX5_ifPassed 35 = .ok (.iload_n 3, 1) := by decide +kernel
theorem dX5_ifPassed_36 : decode cX5_ifPassed 36 = .ok (.iload_n 1, 1) := by decide +kernel
theorem dX5_ifPassed_37 : decode cX5_ifPassed 37 = .ok (.if_icmp .ge 17, 3) := by decide +kernel
theorem dX5_ifPassed_40 : decode cX5_ifPassed 40 = .ok (.aload_n 0, 1) := by decide +kernel
theorem dX5_ifPassed_41 : decode cX5_ifPassed 41 = .ok (.getfield 16, 3) := by decide +kernel
theorem dX5_ifPassed_44 : decode cX5_ifPassed 44 = .ok (.iconst 1, 1) := by decide +kernel
theorem dX5_ifPassed_45 : decode cX5_ifPassed 45 = .ok (.invokevirtual 121, 3) := by decide +kernel
theorem dX5_ifPassed_48 : decode cX5_ifPassed 48 = .ok (.iinc 3 1, 3) := by decide +kernel
theorem dX5_ifPassed_51 : decode cX5_ifPassed 51 = .ok (.goto (-16), 3) := by decide +kernel
theorem dX5_ifPassed_54 : decode cX5_ifPassed 54 = .ok (.iload_n 2, 1) := by decide +kernel
theorem dX5_ifPassed_55 : decode cX5_ifPassed 55 = .ok (.tableswitch 81 0 2 #[25, 45, 65], 25) := by decide +kernel
theorem dX5_ifPassed_80 : decode cX5_ifPassed 80 = .ok (.aload_n 0, 1) := by decide +kernel
theorem dX5_ifPassed_81 : decode cX5_ifPassed 81 = .ok (.getfield 16, 3) := by decide +kernel
theorem dX5_ifPassed_84 : decode cX5_ifPassed 84 = .ok (.bipush 6, 2) := by decide +kernel
theorem dX5_ifPassed_86 : decode cX5_ifPassed 86 = .ok (.invokevirtual 118, 3) := by decide +kernel
theorem dX5_ifPassed_89 : decode cX5_ifPassed 89 = .ok (.aload_n 0, 1) := by decide +kernel
theorem dX5_ifPassed_90 : decode cX5_ifPassed 90 = .ok (.getfield 10, 3) := by decide +kernel
theorem dX5_ifPassed_93 : decode cX5_ifPassed 93 = .ok (.bipush 6, 2) := by decide +kernel
theorem dX5_ifPassed_95 : decode cX5_ifPassed 95 = .ok (.invokevirtual 118, 3) := by decide +kernel
theorem dX5_ifPassed_98 : decode cX5_ifPassed 98 = .ok (.isub, 1) := by decide +kernel
theorem dX5_ifPassed_99 : decode cX5_ifPassed 99 = .ok (.ireturn, 1) := by decide +kernel
theorem dX5_ifPassed_100 : decode cX5_ifPassed 100 = .ok (.aload_n 0, 1) := by decide +kernel
theorem dX5_ifPassed_101 : decode cX5_ifPassed 101 = .ok (.getfield 16, 3) := by decide +kernel
theorem dX5_ifPassed_104 : decode cX5_ifPassed 104 = .ok (.bipush 7, 2) := by decide +kernel
theorem dX5_ifPassed_106 : decode cX5_ifPassed 106 = .ok (.invokevirtual 180, 3) := by decide +kernel
theorem dX5_ifPassed_109 : decode cX5_ifPassed 109 = .ok (.aload_n 0, 1) := by decide +kernel
theorem dX5_ifPassed_110 : decode cX5_ifPassed 110 = .ok (.getfield 10, 3) := by decide +kernel
theorem dX5_ifPassed_113 : decode cX5_ifPassed 113 = .ok (.bipush 7, 2) := by decide +kernel
theorem dX5_ifPassed_115 : decode cX5_ifPassed 115 = .ok (.invokevirtual 180, 3) := by decide +kernel
theorem dX5_ifPassed_118 : decode cX5_ifPassed 118 = .ok (.isub, 1) := by decide +kernel
theorem dX5_ifPassed_119 : decode cX5_ifPassed 119 = .ok (.ireturn, 1) := by decide +kernel
theorem dX5_ifPassed_120 : decode cX5_ifPassed 120 = .ok (.aload_n 0, 1) := by decide +kernel
theorem dX5_ifPassed_121 : decode cX5_ifPassed 121 = .ok (.getfield 16, 3) := by decide +kernel
theorem dX5_ifPassed_124 : decode cX5_ifPassed 124 = .ok (.invokevirtual 183, 3) := by decide +kernel
theorem dX5_ifPassed_127 : decode cX5_ifPassed 127 = .ok (.aload_n 0, 1) := by decide +kernel
theorem dX5_ifPassed_128 : decode cX5_ifPassed 128 = .ok (.getfield 10, 3) := by decide +kernel
theorem dX5_ifPassed_131 : decode cX5_ifPassed 131 = .ok (.invokevirtual 183, 3) := by decide +kernel
theorem dX5_ifPassed_134 : decode cX5_ifPassed 134 = .ok (.isub, 1) := by decide +kernel
theorem dX5_ifPassed_135 : decode cX5_ifPassed 135 = .ok (.ireturn, 1) := by decide +kernel
theorem dX5_ifPassed_136 : decode cX5_ifPassed 136 = .ok (.aload_n 0, 1) := by decide +kernel
theorem dX5_ifPassed_137 : decode cX5_ifPassed 137 = .ok (.getfield 16, 3) := by decide +kernel
theorem dX5_ifPassed_140 : decode cX5_ifPassed 140 = .ok (.invokevirtual 186, 3) := by decide +kernel
theorem dX5_ifPassed_143 : decode cX5_ifPassed 143 = .ok (.ireturn, 1) := by decide +kernel
theorem dX5_busiest_0 : decode cX5_busiest 0 = .ok (.iconst 0, 1) := by decide +kernel
theorem dX5_busiest_1 : decode cX5_busiest 1 = .ok (.istore_n 1, 1) := by decide +kernel
theorem dX5_busiest_2 : decode cX5_busiest 2 = .ok (.bipush (-5), 2) := by decide +kernel
theorem dX5_busiest_4 : decode cX5_busiest 4 = .ok (.istore_n 2, 1) := by decide +kernel
theorem dX5_busiest_5 : decode cX5_busiest 5 = .ok (.iconst 0, 1) := by decide +kernel
theorem dX5_busiest_6 : decode cX5_busiest 6 = .ok (.istore_n 3, 1) := by decide +kernel
theorem dX5_busiest_7 : decode cX5_busiest 7 = .ok (.iload_n 3, 1) := by decide +kernel
theorem dX5_busiest_8 : decode cX5_busiest 8 = .ok (.bipush 99, 2) := by decide +kernel
theorem dX5_busiest_10 : decode cX5_busiest 10 = .ok (.if_icmp .gt 30, 3) := by decide +kernel
theorem dX5_busiest_13 : decode cX5_busiest 13 = .ok (.aload_n 0, 1) := by decide +kernel
theorem dX5_busiest_14 : decode cX5_busiest 14 = .ok (.getfield 10, 3) := by decide +kernel
theorem dX5_busiest_17 : decode cX5_busiest 17 = .ok (.iload_n 3, 1) := by decide +kernel
theorem dX5_busiest_18 : decode cX5_busiest 18 = .ok (.invokevirtual 189, 3) := by decide +kernel
theorem dX5_busiest_21 : decode cX5_busiest 21 = .ok (.istore 4, 2) := by decide +kernel
theorem dX5_busiest_23 : decode cX5_busiest 23 = .ok (.iload 4, 2) := by decide +kernel
theorem dX5_busiest_25 : decode cX5_busiest 25 = .ok (.iload_n 1, 1) := by decide +kernel
theorem dX5_busiest_26 : decode cX5_busiest 26 = .ok (.if_icmp .le 8, 3) := by decide +kernel
theorem dX5_busiest_29 : decode cX5_busiest 29 = .ok (.iload 4, 2) := by decide +kernel
theorem dX5_busiest_31 : decode cX5_busiest 31 = .ok (.istore_n 1, 1) := by decide +kernel
theorem dX5_busiest_32 : decode cX5_busiest 32 = .ok (.iload_n 3, 1) := by decide +kernel
theorem dX5_busiest_33 : decode cX5_busiest 33 = .ok (.istore_n 2, 1) := by decide +kernel
theorem dX5_busiest_34 : decode cX5_busiest 34 = .ok (.iinc 3 1, 3) := by decide +kernel
theorem dX5_busiest_37 : decode cX5_busiest 37 = .ok (.goto (-30), 3) := by decide +kernel
theorem dX5_busiest_40 : decode cX5_busiest 40 = .ok (.iload_n 2, 1) := by decide +kernel
theorem dX5_busiest_41 : decode cX5_busiest 41 = .ok (.ireturn, 1) := by decide +kernel
theorem dX5_count_0 : decode cX5_count 0 = .ok (.iload_n 1, 1) := by decide +kernel
theorem dX5_count_1 : decode cX5_count 1 = .ok (.tableswitch 236 0 18 #[91, 99, 110, 121, 129, 139, 147, 157, 165, 175, 184, 200, 208, 208, 208, 208, 208, 220, 228], 91) := by decide +kernel
theorem dX5_count_92 : decode cX5_count 92 = .ok (.aload_n 0, 1) := by decide +kernel
theorem dX5_count_93 : decode cX5_count 93 = .ok (.getfield 10, 3) := by decide +kernel
theorem dX5_count_96 : decode cX5_count 96 = .ok (.invokevirtual 114, 3) := by decide +kernel
theorem dX5_count_99 : decode cX5_count 99 = .ok (.ireturn, 1) := by decide +kernel
theorem dX5_count_100 : decode cX5_count 100 = .ok (.aload_n 0, 1) := by decide +kernel
theorem dX5_count_101 : decode cX5_count 101 = .ok (.getfield 10, 3) := by decide +kernel
theorem dX5_count_104 : decode cX5_count 104 = .ok (.invokevirtual 114, 3) := by decide +kernel
theorem dX5_count_107 : decode cX5_count 107 = .ok (.bipush 10, 2) := by decide +kernel
theorem dX5_count_109 : decode cX5_count 109 = .ok (.idiv, 1) := by decide +kernel
theorem dX5_count_110 : decode cX5_count 110 = .ok (.ireturn, 1) := by decide +kernel
theorem dX5_count_111 : decode cX5_count 111 = .ok (.aload_n 0, 1) := by decide +kernel
theorem dX5_count_112 : decode cX5_count 112 = .ok (.getfield 10, 3) := by decide +kernel
theorem dX5_count_115 : decode cX5_count 115 = .ok (.invokevirtual 114, 3) := by decide +kernel
theorem dX5_count_118 : decode cX5_count 118 = .ok (.bipush 10, 2) := by decide +kernel
theorem dX5_count_120 : decode cX5_count 120 = .ok (.irem, 1) := by decide +kernel
theorem dX5_count_121 : decode cX5_count 121 = .ok (.ireturn, 1) := by decide +kernel
theorem dX5_count_122 : decode cX5_count 122 = .ok (.aload_n 0, 1) := by decide +kernel
theorem dX5_count_123 : decode cX5_count 123 = .ok (.getfield 10, 3) := by decide +kernel
theorem dX5_count_126 : decode cX5_count 126 = .ok (.invokevirtual 192, 3) := by decide +kernel
theorem dX5_count_129 : decode cX5_count 129 = .ok (.ireturn, 1) := by decide +kernel
theorem dX5_count_130 : decode cX5_count 130 = .ok (.aload_n 0, 1) := by decide +kernel
theorem dX5_count_131 : decode cX5_count 131 = .ok (.getfield 10, 3) := by decide +kernel
theorem dX5_count_134 : decode cX5_count 134 = .ok (.bipush 6, 2) := by decide +kernel
theorem dX5_count_136 : decode cX5_count 136 = .ok (.invokevirtual 118, 3) := by decide +kernel
theorem dX5_count_139 : decode cX5_count 139 = .ok (.ireturn, 1) := by decide +kernel
theorem dX5_count_140 : decode cX5_count 140 = .ok (.aload_n 0, 1) := by decide +kernel
theorem dX5_count_141 : decode cX5_count 141 = .ok (.getfield 10, 3) := by decide +kernel
theorem dX5_count_144 : decode cX5_count 144 = .ok (.invokevirtual 183, 3) := by decide +kernel
theorem dX5_count_147 : decode cX5_count 147 = .ok (.ireturn, 1) := by decide +kernel
theorem dX5_count_148 : decode cX5_count 148 = .ok (.aload_n 0, 1) := by decide +kernel
theorem dX5_count_149 : decode cX5_count 149 = .ok (.getfield 10, 3) := by decide +kernel
theorem dX5_count_152 : decode cX5_count 152 = .ok (.bipush 7, 2) := by decide +kernel
theorem dX5_count_154 : decode cX5_count 154 = .ok (.invokevirtual 180, 3) := by decide +kernel
theorem dX5_count_157 : decode cX5_count 157 = .ok (.ireturn, 1) := by decide +kernel
theorem dX5_count_158 : decode cX5_count 158 = .ok (.aload_n 0, 1) := by decide +kernel
theorem dX5_count_159 : decode cX5_count 159 = .ok (.getfield 10, 3) := by decide +kernel
theorem dX5_count_162 : decode cX5_count 162 = .ok (.invokevirtual 186, 3) := by decide +kernel
theorem dX5_count_165 : decode cX5_count 165 = .ok (.ireturn, 1) := by decide +kernel
theorem dX5_count_166 : decode cX5_count 166 = .ok (.aload_n 0, 1) := by decide +kernel
theorem dX5_count_167 : decode cX5_count 167 = .ok (.getfield 10, 3) := by decide +kernel
theorem dX5_count_170 : decode cX5_count 170 = .ok (.bipush 8, 2) := by decide +kernel
theorem dX5_count_172 : decode cX5_count 172 = .ok (.invokevirtual 118, 3) := by decide +kernel
theorem dX5_count_175 : decode cX5_count 175 = .ok (.ireturn, 1) := by decide +kernel
theorem dX5_count_176 : decode cX5_count 176 = .ok (.aload_n 0, 1) := by decide +kernel
theorem dX5_count_177 : decode cX5_count 177 = .ok (.getfield 10, 3) := by decide +kernel
theorem dX5_count_180 : decode cX5_count 180 = .ok (.iconst 2, 1) := by decide +kernel
theorem dX5_count_181 : decode cX5_count 181 = .ok (.invokevirtual 118, 3) := by decide +kernel
theorem dX5_count_184 : decode cX5_count 184 = .ok (.ireturn, 1) := by decide +kernel
theorem dX5_count_185 : decode cX5_count 185 = .ok (.aload_n 0, 1) := by decide +kernel
theorem dX5_count_186 : decode cX5_count 186 = .ok (.getfield 10, 3) := by decide +kernel
theorem dX5_count_189 : decode cX5_count 189 = .ok (.invokevirtual 195, 3) := by decide +kernel
theorem dX5_count_192 : decode cX5_count 192 = .ok (.ifCond .eq 7, 3) := by decide +kernel
theorem dX5_count_195 : decode cX5_count 195 = .ok (.iconst 1, 1) := by decide +kernel
theorem dX5_count_196 : decode cX5_count 196 = .ok (.goto 4, 3) := by decide +kernel
theorem dX5_count_199 : decode cX5_count 199 = .ok (.iconst 0, 1) := by decide +kernel
theorem dX5_count_200 : decode cX5_count 200 = .ok (.ireturn, 1) := by decide +kernel
theorem dX5_count_201 : decode cX5_count 201 = .ok (.aload_n 0, 1) := by decide +kernel
theorem dX5_count_202 : decode cX5_count 202 = .ok (.getfield 10, 3) := by decide +kernel
theorem dX5_count_205 : decode cX5_count 205 = .ok (.invokevirtual 171, 3) := by decide +kernel
theorem dX5_count_208 : decode cX5_count 208 = .ok (.ireturn, 1) := by decide +kernel
theorem dX5_count_209 : decode cX5_count 209 = .ok (.aload_n 0, 1) := by decide +kernel
theorem dX5_count_210 : decode cX5_count 210 = .ok (.getfield 10, 3) := by decide +kernel
theorem dX5_count_213 : decode cX5_count 213 = .ok (.iload_n 1, 1) := by decide +kernel
theorem dX5_count_214 : decode cX5_count 214 = .ok (.bipush 12, 2) := by decide +kernel
theorem dX5_count_216 : decode cX5_count 216 = .ok (.isub, 1) := by decide +kernel
theorem dX5_count_217 : decode cX5_count 217 = .ok (.invokevirtual 83, 3) := by decide +kernel
theorem dX5_count_220 : decode cX5_count 220 = .ok (.ireturn, 1) := by decide +kernel
theorem dX5_count_221 : decode cX5_count 221 = .ok (.aload_n 0, 1) := by decide +kernel
theorem dX5_count_222 : decode cX5_count 222 = .ok (.getfield 25, 3) := by decide +kernel
theorem dX5_count_225 : decode cX5_count 225 = .ok (.invokevirtual 154, 3) := by decide +kernel
theorem dX5_count_228 : decode cX5_count 228 = .ok (.ireturn, 1) := by decide +kernel
theorem dX5_count_229 : decode cX5_count 229 = .ok (.aload_n 0, 1) := by decide +kernel
theorem dX5_count_230 : decode cX5_count 230 = .ok (.getfield 32, 3) := by decide +kernel
theorem dX5_count_233 : decode cX5_count 233 = .ok (.invokevirtual 129, 3) := by decide +kernel
theorem dX5_count_236 : decode cX5_count 236 = .ok (.ireturn, 1) := by decide +kernel
theorem dX5_count_237 : decode cX5_count 237 = .ok (.bipush (-2), 2) := by decide +kernel
theorem dX5_count_239 : decode cX5_count 239 = .ok (.ireturn, 1) := by decide +kernel
theorem dX5_isOutside_0 : decode cX5_isOutside 0 = .ok (.iload_n 0, 1) := by decide +kernel
theorem dX5_isOutside_1 : decode cX5_isOutside 1 = .ok (.iload_n 1, 1) := by decide +kernel
theorem dX5_isOutside_2 : decode cX5_isOutside 2 = .ok (.if_icmp .lt 8, 3) := by decide +kernel
theorem dX5_isOutside_5 : decode cX5_isOutside 5 = .ok (.iload_n 0, 1) := by decide +kernel
theorem dX5_isOutside_6 : decode cX5_isOutside 6 = .ok (.iload_n 2, 1) := by decide +kernel
theorem dX5_isOutside_7 : decode cX5_isOutside 7 = .ok (.if_icmp .le 7, 3) := by decide +kernel
theorem dX5_isOutside_10 : decode cX5_isOutside 10 = .ok (.iconst 1, 1) := by decide +kernel
theorem dX5_isOutside_11 : decode cX5_isOutside 11 = .ok (.goto 4, 3) := by decide +kernel
theorem dX5_isOutside_14 : decode cX5_isOutside 14 = .ok (.iconst 0, 1) := by decide +kernel
theorem dX5_isOutside_15 : decode cX5_isOutside 15 = .ok (.ireturn, 1) := by decide +kernel
theorem dX5_isNoHorse_0 : decode cX5_isNoHorse 0 = .ok (.iload_n 0, 1) := by decide +kernel
theorem dX5_isNoHorse_1 : decode cX5_isNoHorse 1 = .ok (.iconst 0, 1) := by decide +kernel
theorem dX5_isNoHorse_2 : decode cX5_isNoHorse 2 = .ok (.bipush 9, 2) := by decide +kernel
theorem dX5_isNoHorse_4 : decode cX5_isNoHorse 4 = .ok (.invokestatic 47, 3) := by decide +kernel
theorem dX5_isNoHorse_7 : decode cX5_isNoHorse 7 = .ok (.ireturn, 1) := by decide +kernel
theorem dX5_isNoRider_0 : decode cX5_isNoRider 0 = .ok (.iload_n 0, 1) := by decide +kernel
theorem dX5_isNoRider_1 : decode cX5_isNoRider 1 = .ok (.iconst 0, 1) := by decide +kernel
theorem dX5_isNoRider_2 : decode cX5_isNoRider 2 = .ok (.bipush 11, 2) := by decide +kernel
theorem dX5_isNoRider_4 : decode cX5_isNoRider 4 = .ok (.invokestatic 47, 3) := by decide +kernel
theorem dX5_isNoRider_7 : decode cX5_isNoRider 7 = .ok (.ireturn, 1) := by decide +kernel
theorem dX5_isNoRing_0 : decode cX5_isNoRing 0 = .ok (.iload_n 0, 1) := by decide +kernel
theorem dX5_isNoRing_1 : decode cX5_isNoRing 1 = .ok (.iconst 0, 1) := by decide +kernel
theorem dX5_isNoRing_2 : decode cX5_isNoRing 2 = .ok (.iconst 2, 1) := by decide +kernel
theorem dX5_isNoRing_3 : decode cX5_isNoRing 3 = .ok (.invokestatic 47, 3) := by decide +kernel
theorem dX5_isNoRing_6 : decode cX5_isNoRing 6 = .ok (.ireturn, 1) := by decide +kernel
theorem dX5_entry_0 : decode cX5_entry 0 = .ok (.iload_n 1, 1) := by decide +kernel
theorem dX5_entry_1 : decode cX5_entry 1 = .ok (.ifCond .lt 15, 3) := by decide +kernel
theorem dX5_entry_4 : decode cX5_entry 4 = .ok (.iload_n 1, 1) := by decide +kernel
theorem dX5_entry_5 : decode cX5_entry 5 = .ok (.aload_n 0, 1) := by decide +kernel
theorem dX5_entry_6 : decode cX5_entry 6 = .ok (.arraylength, 1) := by decide +kernel
theorem dX5_entry_7 : decode cX5_entry 7 = .ok (.if_icmp .ge 9, 3) := by decide +kernel
theorem dX5_entry_10 : decode cX5_entry 10 = .ok (.aload_n 0, 1) := by decide +kernel
theorem dX5_entry_11 : decode cX5_entry 11 = .ok (.iload_n 1, 1) := by decide +kernel
theorem dX5_entry_12 : decode cX5_entry 12 = .ok (.iaload, 1) := by decide +kernel
theorem dX5_entry_13 : decode cX5_entry 13 = .ok (.goto 4, 3) := by decide +kernel
theorem dX5_entry_16 : decode cX5_entry 16 = .ok (.iconst 0, 1) := by decide +kernel
theorem dX5_entry_17 : decode cX5_entry 17 = .ok (.ireturn, 1) := by decide +kernel
theorem dX6_init_0 : decode cX6_init 0 = .ok (.aload_n 0, 1) := by decide +kernel
theorem dX6_init_1 : decode cX6_init 1 = .ok (.invokespecial 1, 3) := by decide +kernel
theorem dX6_init_4 : decode cX6_init 4 = .ok (.aload_n 0, 1) := by decide +kernel
theorem dX6_init_5 : decode cX6_init 5 = .ok (.sipush 378, 3) := by decide +kernel
theorem dX6_init_8 : decode cX6_init 8 = .ok (.newarray .int, 2) := by decide +kernel
theorem dX6_init_10 : decode cX6_init 10 = .ok (.putfield 7, 3) := by decide +kernel
theorem dX6_init_13 : decode cX6_init 13 = .ok (.aload_n 0, 1) := by decide +kernel
theorem dX6_init_14 : decode cX6_init 14 = .ok (.sipush 378, 3) := by decide +kernel
theorem dX6_init_17 : decode cX6_init 17 = .ok (.newarray .int, 2) := by decide +kernel
theorem dX6_init_19 : decode cX6_init 19 = .ok (.putfield 13, 3) := by decide +kernel
theorem dX6_init_22 : decode cX6_init 22 = .ok (.aload_n 0, 1) := by decide +kernel
theorem dX6_init_23 : decode cX6_init 23 = .ok (.sipush 1512, 3) := by decide +kernel
theorem dX6_init_26 : decode cX6_init 26 = .ok (.newarray .int, 2) := by decide +kernel
theorem dX6_init_28 : decode cX6_init 28 = .ok (.putfield 16, 3) := by decide +kernel
theorem dX6_init_31 : decode cX6_init 31 = .ok (.aload_n 0, 1) := by decide +kernel
theorem dX6_init_32 : decode cX6_init 32 = .ok (.sipush 378, 3) := by decide +kernel
theorem dX6_init_35 : decode cX6_init 35 = .ok (.newarray .int, 2) := by decide +kernel
theorem dX6_init_37 : decode cX6_init 37 = .ok (.putfield 19, 3) := by decide +kernel
theorem dX6_init_40 : decode cX6_init 40 = .ok (.aload_n 0, 1) := by decide +kernel
theorem dX6_init_41 : decode cX6_init 41 = .ok (.bipush 60, 2) := by decide +kernel
theorem dX6_init_43 : decode cX6_init 43 = .ok (.newarray .int, 2) := by decide +kernel
theorem dX6_init_45 : decode cX6_init 45 = .ok (.putfield 22, 3) := by decide +kernel
theorem dX6_init_48 : decode cX6_init 48 = .ok (.aload_n 0, 1) := by decide +kernel
theorem dX6_init_49 : decode cX6_init 49 = .ok (.bipush 10, 2) := by decide +kernel
theorem dX6_init_51 : decode cX6_init 51 = .ok (.newarray .int, 2) := by decide +kernel
theorem dX6_init_53 : decode cX6_init 53 = .ok (.putfield 25, 3) := by decide +kernel
theorem dX6_init_56 : decode cX6_init 56 = .ok (.aload_n 0, 1) := by decide +kernel
theorem dX6_init_57 : decode cX6_init 57 = .ok (.bipush 10, 2) := by decide +kernel
theorem dX6_init_59 : decode cX6_init 59 = .ok (.newarray .int, 2) := by decide +kernel
theorem dX6_init_61 : decode cX6_init 61 = .ok (.putfield 28, 3) := by decide +kernel
theorem dX6_init_64 : decode cX6_init 64 = .ok (.iconst 0, 1) := by decide +kernel
theorem dX6_init_65 : decode cX6_init 65 = .ok (.istore_n 1, 1) := by decide +kernel
theorem dX6_init_66 : decode cX6_init 66 = .ok (.iload_n 1, 1) := by decide +kernel
theorem dX6_init_67 : decode cX6_init 67 = .ok (.bipush 10, 2) := by decide +kernel
theorem dX6_init_69 : decode cX6_init 69 = .ok (.if_icmp .ge 38, 3) := by decide +kernel
theorem dX6_init_72 : decode cX6_init 72 = .ok (.aload_n 0, 1) := by decide +kernel
theorem dX6_init_73 : decode cX6_init 73 = .ok (.getfield 7, 3) := by decide +kernel
theorem dX6_init_76 : decode cX6_init 76 = .ok (.iload_n 1, 1) := by decide +kernel
theorem dX6_init_77 : decode cX6_init 77 = .ok (.iconst 0, 1) := by decide +kernel
theorem dX6_init_78 : decode cX6_init 78 = .ok (.invokestatic 31, 3) := by decide +kernel
theorem dX6_init_81 : decode cX6_init 81 = .ok (.bipush 80, 2) := by decide +kernel
theorem dX6_init_83 : decode cX6_init 83 = .ok (.iconst 5, 1) := by decide +kernel
theorem dX6_init_84 : decode cX6_init 84 = .ok (.iload_n 1, 1) := by decide +kernel
theorem dX6_init_85 : decode cX6_init 85 = .ok (.imul, 1) := by decide +kernel
theorem dX6_init_86 : decode cX6_init 86 = .ok (.iadd, 1) := by decide +kernel
theorem dX6_init_87 : decode cX6_init 87 = .ok (.iastore, 1) := by decide +kernel
theorem dX6_init_88 : decode cX6_init 88 = .ok (.aload_n 0, 1) := by decide +kernel
theorem dX6_init_89 : decode cX6_init 89 = .ok (.getfield 7, 3) := by decide +kernel
theorem dX6_init_92 : decode cX6_init 92 = .ok (.iload_n 1, 1) := by decide +kernel
theorem dX6_init_93 : decode cX6_init 93 = .ok (.iconst 1, 1) := by decide +kernel
theorem dX6_init_94 : decode cX6_init 94 = .ok (.invokestatic 31, 3) := by decide +kernel
theorem dX6_init_97 : decode cX6_init 97 = .ok (.iload_n 1, 1) := by decide +kernel
theorem dX6_init_98 : decode cX6_init 98 = .ok (.iconst 4, 1) := by decide +kernel
theorem dX6_init_99 : decode cX6_init 99 = .ok (.irem, 1) := by decide +kernel
theorem dX6_init_100 : decode cX6_init 100 = .ok (.iastore, 1) := by decide +kernel
theorem dX6_init_101 : decode cX6_init 101 = .ok (.iinc 1 1, 3) := by decide +kernel
theorem dX6_init_104 : decode cX6_init 104 = .ok (.goto (-38), 3) := by decide +kernel
theorem dX6_init_107 : decode cX6_init 107 = .ok (.iconst 0, 1) := by decide +kernel
theorem dX6_init_108 : decode cX6_init 108 = .ok (.istore_n 1, 1) := by decide +kernel
theorem dX6_init_109 : decode cX6_init 109 = .ok (.iload_n 1, 1) := by decide +kernel
theorem dX6_init_110 : decode cX6_init 110 = .ok (.bipush 12, 2) := by decide +kernel
theorem dX6_init_112 : decode cX6_init 112 = .ok (.if_icmp .ge 50, 3) := by decide +kernel
theorem dX6_init_115 : decode cX6_init 115 = .ok (.aload_n 0, 1) := by decide +kernel
theorem dX6_init_116 : decode cX6_init 116 = .ok (.getfield 7, 3) := by decide +kernel
theorem dX6_init_119 : decode cX6_init 119 = .ok (.iload_n 1, 1) := by decide +kernel
theorem dX6_init_120 : decode cX6_init 120 = .ok (.iconst 0, 1) := by decide +kernel
theorem dX6_init_121 : decode cX6_init 121 = .ok (.invokestatic 35, 3) := by decide +kernel
theorem dX6_init_124 : decode cX6_init 124 = .ok (.bipush 40, 2) := by decide +kernel
theorem dX6_init_126 : decode cX6_init 126 = .ok (.bipush 6, 2) := by decide +kernel
theorem dX6_init_128 : decode cX6_init 128 = .ok (.iload_n 1, 1) := by decide +kernel
theorem dX6_init_129 : decode cX6_init 129 = .ok (.imul, 1) := by decide +kernel
theorem dX6_init_130 : decode cX6_init 130 = .ok (.iadd, 1) := by decide +kernel
theorem dX6_init_131 : decode cX6_init 131 = .ok (.iastore, 1) := by decide +kernel
theorem dX6_init_132 : decode cX6_init 132 = .ok (.aload_n 0, 1) := by decide +kernel
theorem dX6_init_133 : decode cX6_init 133 = .ok (.getfield 7, 3) := by decide +kernel
theorem dX6_init_136 : decode cX6_init 136 = .ok (.iload_n 1, 1) := by decide +kernel
theorem dX6_init_137 : decode cX6_init 137 = .ok (.iconst 1, 1) := by decide +kernel
theorem dX6_init_138 : decode cX6_init 138 = .ok (.invokestatic 35, 3) := by decide +kernel
theorem dX6_init_141 : decode cX6_init 141 = .ok (.iconst 1, 1) := by decide +kernel
theorem dX6_init_142 : decode cX6_init 142 = .ok (.iastore, 1) := by decide +kernel
theorem dX6_init_143 : decode cX6_init 143 = .ok (.aload_n 0, 1) := by decide +kernel
theorem dX6_init_144 : decode cX6_init 144 = .ok (.getfield 7, 3) := by decide +kernel
theorem dX6_init_147 : decode cX6_init 147 = .ok (.iload_n 1, 1) := by decide +kernel
theorem dX6_init_148 : decode cX6_init 148 = .ok (.bipush 7, 2) := by decide +kernel
theorem dX6_init_150 : decode cX6_init 150 = .ok (.invokestatic 35, 3) := by decide +kernel
theorem dX6_init_153 : decode cX6_init 153 = .ok (.bipush (-5), 2) := by decide +kernel
theorem dX6_init_155 : decode cX6_init 155 = .ok (.iastore, 1) := by decide +kernel
theorem dX6_init_156 : decode cX6_init 156 = .ok (.iinc 1 1, 3) := by decide +kernel
theorem dX6_init_159 : decode cX6_init 159 = .ok (.goto (-50), 3) := by decide +kernel
theorem dX6_init_162 : decode cX6_init 162 = .ok (.aload_n 0, 1) := by decide +kernel
theorem dX6_init_163 : decode cX6_init 163 = .ok (.getfield 7, 3) := by decide +kernel
theorem dX6_init_166 : decode cX6_init 166 = .ok (.sipush 187, 3) := by decide +kernel
theorem dX6_init_169 : decode cX6_init 169 = .ok (.iconst 3, 1) := by decide +kernel
theorem dX6_init_170 : decode cX6_init 170 = .ok (.iastore, 1) := by decide +kernel
theorem dX6_init_171 : decode cX6_init 171 = .ok (.aload_n 0, 1) := by decide +kernel
theorem dX6_init_172 : decode cX6_init 172 = .ok (.getfield 7, 3) := by decide +kernel
theorem dX6_init_175 : decode cX6_init 175 = .ok (.sipush 188, 3) := by decide +kernel
theorem dX6_init_178 : decode cX6_init 178 = .ok (.bipush 12, 2) := by decide +kernel
theorem dX6_init_180 : decode cX6_init 180 = .ok (.iastore, 1) := by decide +kernel
theorem dX6_init_181 : decode cX6_init 181 = .ok (.aload_n 0, 1) := by decide +kernel
theorem dX6_init_182 : decode cX6_init 182 = .ok (.getfield 7, 3) := by decide +kernel
theorem dX6_init_185 : decode cX6_init 185 = .ok (.sipush 189, 3) := by decide +kernel
theorem dX6_init_188 : decode cX6_init 188 = .ok (.iconst 5, 1) := by decide +kernel
theorem dX6_init_189 : decode cX6_init 189 = .ok (.iastore, 1) := by decide +kernel
theorem dX6_init_190 : decode cX6_init 190 = .ok (.aload_n 0, 1) := by decide +kernel
theorem dX6_init_191 : decode cX6_init 191 = .ok (.getfield 7, 3) := by decide +kernel
theorem dX6_init_194 : decode cX6_init 194 = .ok (.sipush 190, 3) := by decide +kernel
theorem dX6_init_197 : decode cX6_init 197 = .ok (.bipush 20, 2) := by decide +kernel
theorem dX6_init_199 : decode cX6_init 199 = .ok (.iastore, 1) := by decide +kernel
theorem dX6_init_200 : decode cX6_init 200 = .ok (.aload_n 0, 1) := by decide +kernel
theorem dX6_init_201 : decode cX6_init 201 = .ok (.getfield 7, 3) := by decide +kernel
theorem dX6_init_204 : decode cX6_init 204 = .ok (.sipush 191, 3) := by decide +kernel
theorem dX6_init_207 : decode cX6_init 207 = .ok (.iconst 3, 1) := by decide +kernel
theorem dX6_init_208 : decode cX6_init 208 = .ok (.iastore, 1) := by decide +kernel
theorem dX6_init_209 : decode cX6_init 209 = .ok (.return_, 1) := by decide +kernel
theorem dX6_in_0 : decode cX6_in 0 = .ok (.iload_n 0, 1) := by decide +kernel
theorem dX6_in_1 : decode cX6_in 1 = .ok (.iload_n 1, 1) := by decide +kernel
theorem dX6_in_2 : decode cX6_in 2 = .ok (.if_icmp .lt 12, 3) := by decide +kernel
theorem dX6_in_5 : decode cX6_in 5 = .ok (.iload_n 0, 1) := by decide +kernel
theorem dX6_in_6 : decode cX6_in 6 = .ok (.iload_n 2, 1) := by decide +kernel
theorem dX6_in_7 : decode cX6_in 7 = .ok (.if_icmp .gt 7, 3) := by decide +kernel
theorem dX6_in_10 : decode cX6_in 10 = .ok (.iconst 1, 1) := by decide +kernel
theorem dX6_in_11 : decode cX6_in 11 = .ok (.goto 4, 3) := by decide +kernel
theorem dX6_in_14 : decode cX6_in 14 = .ok (.iconst 0, 1) := by decide +kernel
theorem dX6_in_15 : decode cX6_in 15 = .ok (.ireturn, 1) := by decide +kernel
theorem dX6_isHorse_0 : decode cX6_isHorse 0 = .ok (.iload_n 0, 1) := by decide +kernel
theorem dX6_isHorse_1 : decode cX6_isHorse 1 = .ok (.iconst 0, 1) := by decide +kernel
theorem dX6_isHorse_2 : decode cX6_isHorse 2 = .ok (.bipush 9, 2) := by decide +kernel
theorem dX6_isHorse_4 : decode cX6_isHorse 4 = .ok (.invokestatic 38, 3) := by decide +kernel
theorem dX6_isHorse_7 : decode cX6_isHorse 7 = .ok (.ireturn, 1) := by decide +kernel
theorem dX6_isRider_0 : decode cX6_isRider 0 = .ok (.iload_n 0, 1) := by decide +kernel
theorem dX6_isRider_1 : decode cX6_isRider 1 = .ok (.iconst 0, 1) := by decide +kernel
theorem dX6_isRider_2 : decode cX6_isRider 2 = .ok (.bipush 11, 2) := by decide +kernel
theorem dX6_isRider_4 : decode cX6_isRider 4 = .ok (.invokestatic 38, 3) := by decide +kernel
theorem dX6_isRider_7 : decode cX6_isRider 7 = .ok (.ireturn, 1) := by decide +kernel
theorem dX6_isRing_0 : decode cX6_isRing 0 = .ok (.iload_n 0, 1) := by decide +kernel
theorem dX6_isRing_1 : decode cX6_isRing 1 = .ok (.iconst 0, 1) := by decide +kernel
theorem dX6_isRing_2 : decode cX6_isRing 2 = .ok (.iconst 2, 1) := by decide +kernel
theorem dX6_isRing_3 : decode cX6_isRing 3 = .ok (.invokestatic 38, 3) := by decide +kernel
theorem dX6_isRing_6 : decode cX6_isRing 6 = .ok (.ireturn, 1) := by decide +kernel
theorem dX6_isAhead_0 : decode cX6_isAhead 0 = .ok (.iload_n 0, 1) := by decide +kernel
theorem dX6_isAhead_1 : decode cX6_isAhead 1 = .ok (.iconst 0, 1) := by decide +kernel
theorem dX6_isAhead_2 : decode cX6_isAhead 2 = .ok (.bipush 99, 2) := by decide +kernel
theorem dX6_isAhead_4 : decode cX6_isAhead 4 = .ok (.invokestatic 38, 3) := by decide +kernel
theorem dX6_isAhead_7 : decode cX6_isAhead 7 = .ok (.ireturn, 1) := by decide +kernel
theorem dX6_of_0 : decode cX6_of 0 = .ok (.iconst 1, 1) := by decide +kernel
theorem dX6_of_1 : decode cX6_of 1 = .ok (.bipush 9, 2) := by decide +kernel
theorem dX6_of_3 : decode cX6_of 3 = .ok (.iload_n 0, 1) := by decide +kernel
theorem dX6_of_4 : decode cX6_of 4 = .ok (.imul, 1) := by decide +kernel
theorem dX6_of_5 : decode cX6_of 5 = .ok (.iadd, 1) := by decide +kernel
theorem dX6_of_6 : decode cX6_of 6 = .ok (.iload_n 1, 1) := by decide +kernel
theorem dX6_of_7 : decode cX6_of 7 = .ok (.iadd, 1) := by decide +kernel
theorem dX6_of_8 : decode cX6_of 8 = .ok (.ireturn, 1) := by decide +kernel
theorem dX6_ofRider_0 : decode cX6_ofRider 0 = .ok (.bipush 91, 2) := by decide +kernel
theorem dX6_ofRider_2 : decode cX6_ofRider 2 = .ok (.bipush 8, 2) := by decide +kernel
theorem dX6_ofRider_4 : decode cX6_ofRider 4 = .ok (.iload_n 0, 1) := by decide +kernel
theorem dX6_ofRider_5 : decode cX6_ofRider 5 = .ok (.imul, 1) := by decide +kernel
theorem dX6_ofRider_6 : decode cX6_ofRider 6 = .ok (.iadd, 1) := by decide +kernel
theorem dX6_ofRider_7 : decode cX6_ofRider 7 = .ok (.iload_n 1, 1) := by decide +kernel
theorem dX6_ofRider_8 : decode cX6_ofRider 8 = .ok (.iadd, 1) := by decide +kernel
theorem dX6_ofRider_9 : decode cX6_ofRider 9 = .ok (.ireturn, 1) := by decide +kernel
theorem dX6_ofBooking_0 : decode cX6_ofBooking 0 = .ok (.sipush 193, 3) := by decide +kernel
theorem dX6_ofBooking_3 : decode cX6_ofBooking 3 = .ok (.iconst 3, 1) := by decide +kernel
theorem dX6_ofBooking_4 : decode cX6_ofBooking 4 = .ok (.iload_n 0, 1) := by decide +kernel
theorem dX6_ofBooking_5 : decode cX6_ofBooking 5 = .ok (.imul, 1) := by decide +kernel
theorem dX6_ofBooking_6 : decode cX6_ofBooking 6 = .ok (.iadd, 1) := by decide +kernel
theorem dX6_ofBooking_7 : decode cX6_ofBooking 7 = .ok (.iload_n 1, 1) := by decide +kernel
theorem dX6_ofBooking_8 : decode cX6_ofBooking 8 = .ok (.iadd, 1) := by decide +kernel
theorem dX6_ofBooking_9 : decode cX6_ofBooking 9 = .ok (.ireturn, 1) := by decide +kernel
theorem dX6_record_0 : decode cX6_record 0 = .ok (.aload_n 0, 1) := by decide +kernel
theorem dX6_record_1 : decode cX6_record 1 = .ok (.getfield 42, 3) := by decide +kernel
theorem dX6_record_4 : decode cX6_record 4 = .ok (.iconst 4, 1) := by decide +kernel
theorem dX6_record_5 : decode cX6_record 5 = .ok (.if_icmp .ne 44, 3) := by decide +kernel
theorem dX6_record_8 : decode cX6_record 8 = .ok (.iconst 0, 1) := by decide +kernel
theorem dX6_record_9 : decode cX6_record 9 = .ok (.istore_n 1, 1) := by decide +kernel
theorem dX6_record_10 : decode cX6_record 10 = .ok (.iload_n 1, 1) := by decide +kernel
theorem dX6_record_11 : decode cX6_record 11 = .ok (.sipush 1134, 3) := by decide +kernel
theorem dX6_record_14 : decode cX6_record 14 = .ok (.if_icmp .ge 25, 3) := by decide +kernel
theorem dX6_record_17 : decode cX6_record 17 = .ok (.aload_n 0, 1) := by decide +kernel
theorem dX6_record_18 : decode cX6_record 18 = .ok (.getfield 16, 3) := by decide +kernel
theorem dX6_record_21 : decode cX6_record 21 = .ok (.iload_n 1, 1) := by decide +kernel
theorem dX6_record_22 : decode cX6_record 22 = .ok (.aload_n 0, 1) := by decide +kernel
theorem dX6_record_23 : decode cX6_record 23 = .ok (.getfield 16, 3) := by decide +kernel
theorem dX6_record_26 : decode cX6_record 26 = .ok (.iload_n 1, 1) := by decide +kernel
theorem dX6_record_27 : decode cX6_record 27 = .ok (.sipush 378, 3) := by decide +kernel
theorem dX6_record_30 : decode cX6_record 30 = .ok (.iadd, 1) := by decide +kernel
theorem dX6_record_31 : decode cX6_record 31 = .ok (.iaload, 1) := by decide +kernel
theorem dX6_record_32 : decode cX6_record 32 = .ok (.iastore, 1) := by decide +kernel
theorem dX6_record_33 : decode cX6_record 33 = .ok (.iinc 1 1, 3) := by decide +kernel
theorem dX6_record_36 : decode cX6_record 36 = .ok (.goto (-26), 3) := by decide +kernel
theorem dX6_record_39 : decode cX6_record 39 = .ok (.aload_n 0, 1) := by decide +kernel
theorem dX6_record_40 : decode cX6_record 40 = .ok (.dup, 1) := by decide +kernel
theorem dX6_record_41 : decode cX6_record 41 = .ok (.getfield 42, 3) := by decide +kernel
theorem dX6_record_44 : decode cX6_record 44 = .ok (.iconst 1, 1) := by decide +kernel
theorem dX6_record_45 : decode cX6_record 45 = .ok (.isub, 1) := by decide +kernel
theorem dX6_record_46 : decode cX6_record 46 = .ok (.putfield 42, 3) := by decide +kernel
theorem dX6_record_49 : decode cX6_record 49 = .ok (.iconst 0, 1) := by decide +kernel
theorem dX6_record_50 : decode cX6_record 50 = .ok (.istore_n 1, 1) := by decide +kernel
theorem dX6_record_51 : decode cX6_record 51 = .ok (.iload_n 1, 1) := by decide +kernel
theorem dX6_record_52 : decode cX6_record 52 = .ok (.sipush 378, 3) := by decide +kernel
theorem dX6_record_55 : decode cX6_record 55 = .ok (.if_icmp .ge 30, 3) := by decide +kernel
theorem dX6_record_58 : decode cX6_record 58 = .ok (.aload_n 0, 1) := by decide +kernel
theorem dX6_record_59 : decode cX6_record 59 = .ok (.getfield 16, 3) := by decide +kernel
theorem dX6_record_62 : decode cX6_record 62 = .ok (.sipush 378, 3) := by decide +kernel
theorem dX6_record_65 : decode cX6_record 65 = .ok (.aload_n 0, 1) := by decide +kernel
theorem dX6_record_66 : decode cX6_record 66 = .ok (.getfield 42, 3) := by decide +kernel
theorem dX6_record_69 : decode cX6_record 69 = .ok (.imul, 1) := by decide +kernel
theorem dX6_record_70 : decode cX6_record 70 = .ok (.iload_n 1, 1) := by decide +kernel
theorem dX6_record_71 : decode cX6_record 71 = .ok (.iadd, 1) := by decide +kernel
theorem dX6_record_72 : decode cX6_record 72 = .ok (.aload_n 0, 1) := by decide +kernel
theorem dX6_record_73 : decode cX6_record 73 = .ok (.getfield 7, 3) := by decide +kernel
theorem dX6_record_76 : decode cX6_record 76 = .ok (.iload_n 1, 1) := by decide +kernel
theorem dX6_record_77 : decode cX6_record 77 = .ok (.iaload, 1) := by decide +kernel
theorem dX6_record_78 : decode cX6_record 78 = .ok (.iastore, 1) := by decide +kernel
theorem dX6_record_79 : decode cX6_record 79 = .ok (.iinc 1 1, 3) := by decide +kernel
theorem dX6_record_82 : decode cX6_record 82 = .ok (.goto (-31), 3) := by decide +kernel
theorem dX6_record_85 : decode cX6_record 85 = .ok (.aload_n 0, 1) := by decide +kernel
theorem dX6_record_86 : decode cX6_record 86 = .ok (.dup, 1) := by decide +kernel
theorem dX6_record_87 : decode cX6_record 87 = .ok (.getfield 42, 3) := by decide +kernel
theorem dX6_record_90 : decode cX6_record 90 = .ok (.iconst 1, 1) := by decide +kernel
theorem dX6_record_91 : decode cX6_record 91 = .ok (.iadd, 1) := by decide +kernel
theorem dX6_record_92 : decode cX6_record 92 = .ok (.putfield 42, 3) := by decide +kernel
theorem dX6_record_95 : decode cX6_record 95 = .ok (.return_, 1) := by decide +kernel
theorem dX6_putAside_0 : decode cX6_putAside 0 = .ok (.iconst 0, 1) := by decide +kernel
theorem dX6_putAside_1 : decode cX6_putAside 1 = .ok (.istore_n 1, 1) := by decide +kernel
theorem dX6_putAside_2 : decode cX6_putAside 2 = .ok (.iload_n 1, 1) := by decide +kernel
theorem dX6_putAside_3 : decode cX6_putAside 3 = .ok (.sipush 378, 3) := by decide +kernel
theorem dX6_putAside_6 : decode cX6_putAside 6 = .ok (.if_icmp .ge 21, 3) := by decide +kernel
theorem dX6_putAside_9 : decode cX6_putAside 9 = .ok (.aload_n 0, 1) := by decide +kernel
theorem dX6_putAside_10 : decode cX6_putAside 10 = .ok (.getfield 13, 3) := by decide +kernel
theorem dX6_putAside_13 : decode cX6_putAside 13 = .ok (.iload_n 1, 1) := by decide +kernel
theorem dX6_putAside_14 : decode cX6_putAside 14 = .ok (.aload_n 0, 1) := by decide +kernel
theorem dX6_putAside_15 : decode cX6_putAside 15 = .ok (.getfield 7, 3) := by decide +kernel
theorem dX6_putAside_18 : decode cX6_putAside 18 = .ok (.iload_n 1, 1) := by decide +kernel
theorem dX6_putAside_19 : decode cX6_putAside 19 = .ok (.iaload, 1) := by decide +kernel
theorem dX6_putAside_20 : decode cX6_putAside 20 = .ok (.iastore, 1) := by decide +kernel
theorem dX6_putAside_21 : decode cX6_putAside 21 = .ok (.iinc 1 1, 3) := by decide +kernel
theorem dX6_putAside_24 : decode cX6_putAside 24 = .ok (.goto (-22), 3) := by decide +kernel
theorem dX6_putAside_27 : decode cX6_putAside 27 = .ok (.return_, 1) := by decide +kernel
theorem dX6_putBack_0 : decode cX6_putBack 0 = .ok (.iconst 0, 1) := by decide +kernel
theorem dX6_putBack_1 : decode cX6_putBack 1 = .ok (.istore_n 1, 1) := by decide +kernel
theorem dX6_putBack_2 : decode cX6_putBack 2 = .ok (.iload_n 1, 1) := by decide +kernel
theorem dX6_putBack_3 : decode cX6_putBack 3 = .ok (.sipush 378, 3) := by decide +kernel
theorem dX6_putBack_6 : decode cX6_putBack 6 = .ok (.if_icmp .ge 21, 3) := by decide +kernel
theorem dX6_putBack_9 : decode cX6_putBack 9 = .ok (.aload_n 0, 1) := by decide +kernel
theorem dX6_putBack_10 : decode cX6_putBack 10 = .ok (.getfield 7, 3) := by decide +kernel
theorem dX6_putBack_13 : decode cX6_putBack 13 = .ok (.iload_n 1, 1) := by decide +kernel
theorem dX6_putBack_14 : decode cX6_putBack 14 = .ok (.aload_n 0, 1) := by decide +kernel
theorem dX6_putBack_15 : decode cX6_putBack 15 = .ok (.getfield 13, 3) := by decide +kernel
theorem dX6_putBack_18 : decode cX6_putBack 18 = .ok (.iload_n 1, 1) := by decide +kernel
theorem dX6_putBack_19 : decode cX6_putBack 19 = .ok (.iaload, 1) := by decide +kernel
theorem dX6_putBack_20 : decode cX6_putBack 20 = .ok (.iastore, 1) := by decide +kernel
theorem dX6_putBack_21 : decode cX6_putBack 21 = .ok (.iinc 1 1, 3) := by decide +kernel
theorem dX6_putBack_24 : decode cX6_putBack 24 = .ok (.goto (-22), 3) := by decide +kernel
theorem dX6_putBack_27 : decode cX6_putBack 27 = .ok (.return_, 1) := by decide +kernel
theorem dX6_isFarrierThere_0 : decode cX6_isFarrierThere 0 = .ok (.aload_n 0, 1) := by decide +kernel
theorem dX6_isFarrierThere_1 : decode cX6_isFarrierThere 1 = .ok (.getfield 7, 3) := by decide +kernel
theorem dX6_isFarrierThere_4 : decode cX6_isFarrierThere 4 = .ok (.iconst 0, 1) := by decide +kernel
theorem dX6_isFarrierThere_5 : decode cX6_isFarrierThere 5 = .ok (.iaload, 1) := by decide +kernel
theorem dX6_isFarrierThere_6 : decode cX6_isFarrierThere 6 = .ok (.bipush 10, 2) := by decide +kernel
theorem dX6_isFarrierThere_8 : decode cX6_isFarrierThere 8 = .ok (.idiv, 1) := by decide +kernel
theorem dX6_isFarrierThere_9 : decode cX6_isFarrierThere 9 = .ok (.aload_n 0, 1) := by decide +kernel
theorem dX6_isFarrierThere_10 : decode cX6_isFarrierThere 10 = .ok (.getfield 7, 3) := by decide +kernel
theorem dX6_isFarrierThere_13 : decode cX6_isFarrierThere 13 = .ok (.sipush 191, 3) := by decide +kernel
theorem dX6_isFarrierThere_16 : decode cX6_isFarrierThere 16 = .ok (.iaload, 1) := by decide +kernel
theorem dX6_isFarrierThere_17 : decode cX6_isFarrierThere 17 = .ok (.irem, 1) := by decide +kernel
theorem dX6_isFarrierThere_18 : decode cX6_isFarrierThere 18 = .ok (.ifCond .ne 7, 3) := by decide +kernel
theorem dX6_isFarrierThere_21 : decode cX6_isFarrierThere 21 = .ok (.iconst 1, 1) := by decide +kernel
theorem dX6_isFarrierThere_22 : decode cX6_isFarrierThere 22 = .ok (.goto 4, 3) := by decide +kernel
theorem dX6_isFarrierThere_25 : decode cX6_isFarrierThere 25 = .ok (.iconst 0, 1) := by decide +kernel
theorem dX6_isFarrierThere_26 : decode cX6_isFarrierThere 26 = .ok (.ireturn, 1) := by decide +kernel
theorem dX6_shodHorse_0 : decode cX6_shodHorse 0 = .ok (.bipush (-5), 2) := by decide +kernel
theorem dX6_shodHorse_2 : decode cX6_shodHorse 2 = .ok (.istore_n 1, 1) := by decide +kernel
theorem dX6_shodHorse_3 : decode cX6_shodHorse 3 = .ok (.iconst 0, 1) := by decide +kernel
theorem dX6_shodHorse_4 : decode cX6_shodHorse 4 = .ok (.istore_n 2, 1) := by decide +kernel
theorem dX6_shodHorse_5 : decode cX6_shodHorse 5 = .ok (.iconst 0, 1) := by decide +kernel
theorem dX6_shodHorse_6 : decode cX6_shodHorse 6 = .ok (.istore_n 3, 1) := by decide +kernel
theorem dX6_shodHorse_7 : decode cX6_shodHorse 7 = .ok (.iload_n 3, 1) := by decide +kernel
theorem dX6_shodHorse_8 : decode cX6_shodHorse 8 = .ok (.bipush 10, 2) := by decide +kernel
theorem dX6_shodHorse_10 : decode cX6_shodHorse 10 = .ok (.if_icmp .ge 65, 3) := by decide +kernel
theorem dX6_shodHorse_13 : decode cX6_shodHorse 13 = .ok (.aload_n 0, 1) := by decide +kernel
theorem dX6_shodHorse_14 : decode cX6_shodHorse 14 = .ok (.invokevirtual 46, 3) := by decide +kernel
theorem dX6_shodHorse_17 : decode cX6_shodHorse 17 = .ok (.ifCond .eq 58, 3) := by decide +kernel
theorem dX6_shodHorse_20 : decode cX6_shodHorse 20 = .ok (.aload_n 0, 1) := by decide +kernel
theorem dX6_shodHorse_21 : decode cX6_shodHorse 21 = .ok (.getfield 7, 3) := by decide +kernel
theorem dX6_shodHorse_24 : decode cX6_shodHorse 24 = .ok (.iload_n 3, 1) := by decide +kernel
theorem dX6_shodHorse_25 : decode cX6_shodHorse 25 = .ok (.iconst 3, 1) := by decide +kernel
end
section
theorem dX6_shodHorse_26 : decode cX6_shodHorse 26 = .ok (.invokestatic 31, 3) := by decide +kernel
theorem dX6_shodHorse_29 : decode cX6_shodHorse 29 = .ok (.iaload, 1) := by decide +kernel
theorem dX6_shodHorse_30 : decode cX6_shodHorse 30 = .ok (.iload_n 2, 1) := by decide +kernel
theorem dX6_shodHorse_31 : decode cX6_shodHorse 31 = .ok (.if_icmp .le 7, 3) := by decide +kernel
theorem dX6_shodHorse_34 : decode cX6_shodHorse 34 = .ok (.iload_n 3, 1) := by decide +kernel
theorem dX6_shodHorse_35 : decode cX6_shodHorse 35 = .ok (.goto 4, 3) := by decide +kernel
theorem dX6_shodHorse_38 : decode cX6_shodHorse 38 = .ok (.iload_n 1, 1) := by decide +kernel
theorem dX6_shodHorse_39 : decode cX6_shodHorse 39 = .ok (.istore_n 1, 1) := by decide +kernel
theorem dX6_shodHorse_40 : decode cX6_shodHorse 40 = .ok (.aload_n 0, 1) := by decide +kernel
theorem dX6_shodHorse_41 : decode cX6_shodHorse 41 = .ok (.getfield 7, 3) := by decide +kernel
theorem dX6_shodHorse_44 : decode cX6_shodHorse 44 = .ok (.iload_n 3, 1) := by decide +kernel
theorem dX6_shodHorse_45 : decode cX6_shodHorse 45 = .ok (.iconst 3, 1) := by decide +kernel
theorem dX6_shodHorse_46 : decode cX6_shodHorse 46 = .ok (.invokestatic 31, 3) := by decide +kernel
theorem dX6_shodHorse_49 : decode cX6_shodHorse 49 = .ok (.iaload, 1) := by decide +kernel
theorem dX6_shodHorse_50 : decode cX6_shodHorse 50 = .ok (.iload_n 2, 1) := by decide +kernel
theorem dX6_shodHorse_51 : decode cX6_shodHorse 51 = .ok (.if_icmp .le 16, 3) := by decide +kernel
theorem dX6_shodHorse_54 : decode cX6_shodHorse 54 = .ok (.aload_n 0, 1) := by decide +kernel
theorem dX6_shodHorse_55 : decode cX6_shodHorse 55 = .ok (.getfield 7, 3) := by decide +kernel
theorem dX6_shodHorse_58 : decode cX6_shodHorse 58 = .ok (.iload_n 3, 1) := by decide +kernel
theorem dX6_shodHorse_59 : decode cX6_shodHorse 59 = .ok (.iconst 3, 1) := by decide +kernel
theorem dX6_shodHorse_60 : decode cX6_shodHorse 60 = .ok (.invokestatic 31, 3) := by decide +kernel
theorem dX6_shodHorse_63 : decode cX6_shodHorse 63 = .ok (.iaload, 1) := by decide +kernel
theorem dX6_shodHorse_64 : decode cX6_shodHorse 64 = .ok (.goto 4, 3) := by decide +kernel
theorem dX6_shodHorse_67 : decode cX6_shodHorse 67 = .ok (.iload_n 2, 1) := by decide +kernel
theorem dX6_shodHorse_68 : decode cX6_shodHorse 68 = .ok (.istore_n 2, 1) := by decide +kernel
theorem dX6_shodHorse_69 : decode cX6_shodHorse 69 = .ok (.iinc 3 1, 3) := by decide +kernel
theorem dX6_shodHorse_72 : decode cX6_shodHorse 72 = .ok (.goto (-65), 3) := by decide +kernel
theorem dX6_shodHorse_75 : decode cX6_shodHorse 75 = .ok (.iload_n 1, 1) := by decide +kernel
theorem dX6_shodHorse_76 : decode cX6_shodHorse 76 = .ok (.ireturn, 1) := by decide +kernel
theorem dX6_hindrance_0 : decode cX6_hindrance 0 = .ok (.aload_n 0, 1) := by decide +kernel
theorem dX6_hindrance_1 : decode cX6_hindrance 1 = .ok (.getfield 7, 3) := by decide +kernel
theorem dX6_hindrance_4 : decode cX6_hindrance 4 = .ok (.iload_n 1, 1) := by decide +kernel
theorem dX6_hindrance_5 : decode cX6_hindrance 5 = .ok (.iconst 5, 1) := by decide +kernel
theorem dX6_hindrance_6 : decode cX6_hindrance 6 = .ok (.invokestatic 31, 3) := by decide +kernel
theorem dX6_hindrance_9 : decode cX6_hindrance 9 = .ok (.iaload, 1) := by decide +kernel
theorem dX6_hindrance_10 : decode cX6_hindrance 10 = .ok (.ifCond .gt 8, 3) := by decide +kernel
theorem dX6_hindrance_13 : decode cX6_hindrance 13 = .ok (.iload_n 1, 1) := by decide +kernel
theorem dX6_hindrance_14 : decode cX6_hindrance 14 = .ok (.iload_n 3, 1) := by decide +kernel
theorem dX6_hindrance_15 : decode cX6_hindrance 15 = .ok (.if_icmp .ne 22, 3) := by decide +kernel
theorem dX6_hindrance_18 : decode cX6_hindrance 18 = .ok (.aload_n 0, 1) := by decide +kernel
theorem dX6_hindrance_19 : decode cX6_hindrance 19 = .ok (.getfield 7, 3) := by decide +kernel
theorem dX6_hindrance_22 : decode cX6_hindrance 22 = .ok (.iload_n 1, 1) := by decide +kernel
theorem dX6_hindrance_23 : decode cX6_hindrance 23 = .ok (.iconst 5, 1) := by decide +kernel
theorem dX6_hindrance_24 : decode cX6_hindrance 24 = .ok (.invokestatic 31, 3) := by decide +kernel
theorem dX6_hindrance_27 : decode cX6_hindrance 27 = .ok (.iaload, 1) := by decide +kernel
theorem dX6_hindrance_28 : decode cX6_hindrance 28 = .ok (.ifCond .le 7, 3) := by decide +kernel
theorem dX6_hindrance_31 : decode cX6_hindrance 31 = .ok (.iconst 1, 1) := by decide +kernel
theorem dX6_hindrance_32 : decode cX6_hindrance 32 = .ok (.goto 4, 3) := by decide +kernel
theorem dX6_hindrance_35 : decode cX6_hindrance 35 = .ok (.iconst 2, 1) := by decide +kernel
theorem dX6_hindrance_36 : decode cX6_hindrance 36 = .ok (.ireturn, 1) := by decide +kernel
theorem dX6_hindrance_37 : decode cX6_hindrance 37 = .ok (.aload_n 0, 1) := by decide +kernel
theorem dX6_hindrance_38 : decode cX6_hindrance 38 = .ok (.getfield 7, 3) := by decide +kernel
theorem dX6_hindrance_41 : decode cX6_hindrance 41 = .ok (.iload_n 1, 1) := by decide +kernel
theorem dX6_hindrance_42 : decode cX6_hindrance 42 = .ok (.iconst 3, 1) := by decide +kernel
theorem dX6_hindrance_43 : decode cX6_hindrance 43 = .ok (.invokestatic 31, 3) := by decide +kernel
theorem dX6_hindrance_46 : decode cX6_hindrance 46 = .ok (.iaload, 1) := by decide +kernel
theorem dX6_hindrance_47 : decode cX6_hindrance 47 = .ok (.aload_n 0, 1) := by decide +kernel
theorem dX6_hindrance_48 : decode cX6_hindrance 48 = .ok (.getfield 7, 3) := by decide +kernel
theorem dX6_hindrance_51 : decode cX6_hindrance 51 = .ok (.sipush 188, 3) := by decide +kernel
theorem dX6_hindrance_54 : decode cX6_hindrance 54 = .ok (.iaload, 1) := by decide +kernel
theorem dX6_hindrance_55 : decode cX6_hindrance 55 = .ok (.if_icmp .ge 24, 3) := by decide +kernel
theorem dX6_hindrance_58 : decode cX6_hindrance 58 = .ok (.aload_n 0, 1) := by decide +kernel
theorem dX6_hindrance_59 : decode cX6_hindrance 59 = .ok (.getfield 7, 3) := by decide +kernel
theorem dX6_hindrance_62 : decode cX6_hindrance 62 = .ok (.iload_n 1, 1) := by decide +kernel
theorem dX6_hindrance_63 : decode cX6_hindrance 63 = .ok (.iconst 2, 1) := by decide +kernel
theorem dX6_hindrance_64 : decode cX6_hindrance 64 = .ok (.invokestatic 31, 3) := by decide +kernel
theorem dX6_hindrance_67 : decode cX6_hindrance 67 = .ok (.iaload, 1) := by decide +kernel
theorem dX6_hindrance_68 : decode cX6_hindrance 68 = .ok (.aload_n 0, 1) := by decide +kernel
theorem dX6_hindrance_69 : decode cX6_hindrance 69 = .ok (.getfield 7, 3) := by decide +kernel
theorem dX6_hindrance_72 : decode cX6_hindrance 72 = .ok (.sipush 187, 3) := by decide +kernel
theorem dX6_hindrance_75 : decode cX6_hindrance 75 = .ok (.iaload, 1) := by decide +kernel
theorem dX6_hindrance_76 : decode cX6_hindrance 76 = .ok (.if_icmp .lt 30, 3) := by decide +kernel
theorem dX6_hindrance_79 : decode cX6_hindrance 79 = .ok (.aload_n 0, 1) := by decide +kernel
theorem dX6_hindrance_80 : decode cX6_hindrance 80 = .ok (.getfield 7, 3) := by decide +kernel
theorem dX6_hindrance_83 : decode cX6_hindrance 83 = .ok (.iload_n 1, 1) := by decide +kernel
theorem dX6_hindrance_84 : decode cX6_hindrance 84 = .ok (.iconst 3, 1) := by decide +kernel
theorem dX6_hindrance_85 : decode cX6_hindrance 85 = .ok (.invokestatic 31, 3) := by decide +kernel
theorem dX6_hindrance_88 : decode cX6_hindrance 88 = .ok (.iaload, 1) := by decide +kernel
theorem dX6_hindrance_89 : decode cX6_hindrance 89 = .ok (.aload_n 0, 1) := by decide +kernel
theorem dX6_hindrance_90 : decode cX6_hindrance 90 = .ok (.getfield 7, 3) := by decide +kernel
theorem dX6_hindrance_93 : decode cX6_hindrance 93 = .ok (.sipush 188, 3) := by decide +kernel
theorem dX6_hindrance_96 : decode cX6_hindrance 96 = .ok (.iaload, 1) := by decide +kernel
theorem dX6_hindrance_97 : decode cX6_hindrance 97 = .ok (.if_icmp .lt 7, 3) := by decide +kernel
theorem dX6_hindrance_100 : decode cX6_hindrance 100 = .ok (.iconst 3, 1) := by decide +kernel
theorem dX6_hindrance_101 : decode cX6_hindrance 101 = .ok (.goto 4, 3) := by decide +kernel
theorem dX6_hindrance_104 : decode cX6_hindrance 104 = .ok (.iconst 4, 1) := by decide +kernel
theorem dX6_hindrance_105 : decode cX6_hindrance 105 = .ok (.ireturn, 1) := by decide +kernel
theorem dX6_hindrance_106 : decode cX6_hindrance 106 = .ok (.aload_n 0, 1) := by decide +kernel
theorem dX6_hindrance_107 : decode cX6_hindrance 107 = .ok (.getfield 7, 3) := by decide +kernel
theorem dX6_hindrance_110 : decode cX6_hindrance 110 = .ok (.iload_n 1, 1) := by decide +kernel
theorem dX6_hindrance_111 : decode cX6_hindrance 111 = .ok (.iconst 0, 1) := by decide +kernel
theorem dX6_hindrance_112 : decode cX6_hindrance 112 = .ok (.invokestatic 31, 3) := by decide +kernel
theorem dX6_hindrance_115 : decode cX6_hindrance 115 = .ok (.iaload, 1) := by decide +kernel
theorem dX6_hindrance_116 : decode cX6_hindrance 116 = .ok (.aload_n 0, 1) := by decide +kernel
theorem dX6_hindrance_117 : decode cX6_hindrance 117 = .ok (.getfield 7, 3) := by decide +kernel
theorem dX6_hindrance_120 : decode cX6_hindrance 120 = .ok (.iload_n 2, 1) := by decide +kernel
theorem dX6_hindrance_121 : decode cX6_hindrance 121 = .ok (.iconst 0, 1) := by decide +kernel
theorem dX6_hindrance_122 : decode cX6_hindrance 122 = .ok (.invokestatic 35, 3) := by decide +kernel
theorem dX6_hindrance_125 : decode cX6_hindrance 125 = .ok (.iaload, 1) := by decide +kernel
theorem dX6_hindrance_126 : decode cX6_hindrance 126 = .ok (.if_icmp .ge 7, 3) := by decide +kernel
theorem dX6_hindrance_129 : decode cX6_hindrance 129 = .ok (.iconst 5, 1) := by decide +kernel
theorem dX6_hindrance_130 : decode cX6_hindrance 130 = .ok (.goto 4, 3) := by decide +kernel
theorem dX6_hindrance_133 : decode cX6_hindrance 133 = .ok (.iconst 0, 1) := by decide +kernel
theorem dX6_hindrance_134 : decode cX6_hindrance 134 = .ok (.ireturn, 1) := by decide +kernel
theorem dX6_can_0 : decode cX6_can 0 = .ok (.aload_n 0, 1) := by decide +kernel
theorem dX6_can_1 : decode cX6_can 1 = .ok (.getfield 7, 3) := by decide +kernel
theorem dX6_can_4 : decode cX6_can 4 = .ok (.iload_n 1, 1) := by decide +kernel
theorem dX6_can_5 : decode cX6_can 5 = .ok (.iconst 1, 1) := by decide +kernel
theorem dX6_can_6 : decode cX6_can 6 = .ok (.invokestatic 35, 3) := by decide +kernel
theorem dX6_can_9 : decode cX6_can 9 = .ok (.iaload, 1) := by decide +kernel
theorem dX6_can_10 : decode cX6_can 10 = .ok (.aload_n 0, 1) := by decide +kernel
theorem dX6_can_11 : decode cX6_can 11 = .ok (.getfield 7, 3) := by decide +kernel
theorem dX6_can_14 : decode cX6_can 14 = .ok (.iload_n 1, 1) := by decide +kernel
theorem dX6_can_15 : decode cX6_can 15 = .ok (.iconst 2, 1) := by decide +kernel
theorem dX6_can_16 : decode cX6_can 16 = .ok (.invokestatic 35, 3) := by decide +kernel
theorem dX6_can_19 : decode cX6_can 19 = .ok (.iaload, 1) := by decide +kernel
theorem dX6_can_20 : decode cX6_can 20 = .ok (.isub, 1) := by decide +kernel
theorem dX6_can_21 : decode cX6_can 21 = .ok (.istore_n 2, 1) := by decide +kernel
theorem dX6_can_22 : decode cX6_can 22 = .ok (.iload_n 2, 1) := by decide +kernel
theorem dX6_can_23 : decode cX6_can 23 = .ok (.ifCond .ge 7, 3) := by decide +kernel
theorem dX6_can_26 : decode cX6_can 26 = .ok (.iconst 0, 1) := by decide +kernel
theorem dX6_can_27 : decode cX6_can 27 = .ok (.goto 4, 3) := by decide +kernel
theorem dX6_can_30 : decode cX6_can 30 = .ok (.iload_n 2, 1) := by decide +kernel
theorem dX6_can_31 : decode cX6_can 31 = .ok (.ireturn, 1) := by decide +kernel
theorem dX6_isBetter_0 : decode cX6_isBetter 0 = .ok (.aload_n 0, 1) := by decide +kernel
theorem dX6_isBetter_1 : decode cX6_isBetter 1 = .ok (.getfield 7, 3) := by decide +kernel
theorem dX6_isBetter_4 : decode cX6_isBetter 4 = .ok (.iload_n 1, 1) := by decide +kernel
theorem dX6_isBetter_5 : decode cX6_isBetter 5 = .ok (.iconst 1, 1) := by decide +kernel
theorem dX6_isBetter_6 : decode cX6_isBetter 6 = .ok (.invokestatic 31, 3) := by decide +kernel
theorem dX6_isBetter_9 : decode cX6_isBetter 9 = .ok (.iaload, 1) := by decide +kernel
theorem dX6_isBetter_10 : decode cX6_isBetter 10 = .ok (.aload_n 0, 1) := by decide +kernel
theorem dX6_isBetter_11 : decode cX6_isBetter 11 = .ok (.iload_n 3, 1) := by decide +kernel
theorem dX6_isBetter_12 : decode cX6_isBetter 12 = .ok (.invokevirtual 50, 3) := by decide +kernel
theorem dX6_isBetter_15 : decode cX6_isBetter 15 = .ok (.if_icmp .le 7, 3) := by decide +kernel
theorem dX6_isBetter_18 : decode cX6_isBetter 18 = .ok (.iconst 1, 1) := by decide +kernel
theorem dX6_isBetter_19 : decode cX6_isBetter 19 = .ok (.goto 4, 3) := by decide +kernel
theorem dX6_isBetter_22 : decode cX6_isBetter 22 = .ok (.iconst 0, 1) := by decide +kernel
theorem dX6_isBetter_23 : decode cX6_isBetter 23 = .ok (.istore 4, 2) := by decide +kernel
theorem dX6_isBetter_25 : decode cX6_isBetter 25 = .ok (.aload_n 0, 1) := by decide +kernel
theorem dX6_isBetter_26 : decode cX6_isBetter 26 = .ok (.getfield 7, 3) := by decide +kernel
theorem dX6_isBetter_29 : decode cX6_isBetter 29 = .ok (.iload_n 2, 1) := by decide +kernel
theorem dX6_isBetter_30 : decode cX6_isBetter 30 = .ok (.iconst 1, 1) := by decide +kernel
theorem dX6_isBetter_31 : decode cX6_isBetter 31 = .ok (.invokestatic 31, 3) := by decide +kernel
theorem dX6_isBetter_34 : decode cX6_isBetter 34 = .ok (.iaload, 1) := by decide +kernel
theorem dX6_isBetter_35 : decode cX6_isBetter 35 = .ok (.aload_n 0, 1) := by decide +kernel
theorem dX6_isBetter_36 : decode cX6_isBetter 36 = .ok (.iload_n 3, 1) := by decide +kernel
theorem dX6_isBetter_37 : decode cX6_isBetter 37 = .ok (.invokevirtual 50, 3) := by decide +kernel
theorem dX6_isBetter_40 : decode cX6_isBetter 40 = .ok (.if_icmp .le 7, 3) := by decide +kernel
theorem dX6_isBetter_43 : decode cX6_isBetter 43 = .ok (.iconst 1, 1) := by decide +kernel
theorem dX6_isBetter_44 : decode cX6_isBetter 44 = .ok (.goto 4, 3) := by decide +kernel
theorem dX6_isBetter_47 : decode cX6_isBetter 47 = .ok (.iconst 0, 1) := by decide +kernel
theorem dX6_isBetter_48 : decode cX6_isBetter 48 = .ok (.istore 5, 2) := by decide +kernel
theorem dX6_isBetter_50 : decode cX6_isBetter 50 = .ok (.iload 4, 2) := by decide +kernel
theorem dX6_isBetter_52 : decode cX6_isBetter 52 = .ok (.iload 5, 2) := by decide +kernel
theorem dX6_isBetter_54 : decode cX6_isBetter 54 = .ok (.isub, 1) := by decide +kernel
theorem dX6_isBetter_55 : decode cX6_isBetter 55 = .ok (.istore 6, 2) := by decide +kernel
theorem dX6_isBetter_57 : decode cX6_isBetter 57 = .ok (.iload 6, 2) := by decide +kernel
theorem dX6_isBetter_59 : decode cX6_isBetter 59 = .ok (.ifCond .ne 27, 3) := by decide +kernel
theorem dX6_isBetter_62 : decode cX6_isBetter 62 = .ok (.aload_n 0, 1) := by decide +kernel
theorem dX6_isBetter_63 : decode cX6_isBetter 63 = .ok (.getfield 7, 3) := by decide +kernel
theorem dX6_isBetter_66 : decode cX6_isBetter 66 = .ok (.iload_n 1, 1) := by decide +kernel
theorem dX6_isBetter_67 : decode cX6_isBetter 67 = .ok (.iconst 2, 1) := by decide +kernel
theorem dX6_isBetter_68 : decode cX6_isBetter 68 = .ok (.invokestatic 31, 3) := by decide +kernel
theorem dX6_isBetter_71 : decode cX6_isBetter 71 = .ok (.iaload, 1) := by decide +kernel
theorem dX6_isBetter_72 : decode cX6_isBetter 72 = .ok (.aload_n 0, 1) := by decide +kernel
theorem dX6_isBetter_73 : decode cX6_isBetter 73 = .ok (.getfield 7, 3) := by decide +kernel
theorem dX6_isBetter_76 : decode cX6_isBetter 76 = .ok (.iload_n 2, 1) := by decide +kernel
theorem dX6_isBetter_77 : decode cX6_isBetter 77 = .ok (.iconst 2, 1) := by decide +kernel
theorem dX6_isBetter_78 : decode cX6_isBetter 78 = .ok (.invokestatic 31, 3) := by decide +kernel
theorem dX6_isBetter_81 : decode cX6_isBetter 81 = .ok (.iaload, 1) := by decide +kernel
theorem dX6_isBetter_82 : decode cX6_isBetter 82 = .ok (.isub, 1) := by decide +kernel
theorem dX6_isBetter_83 : decode cX6_isBetter 83 = .ok (.goto 5, 3) := by decide +kernel
theorem dX6_isBetter_86 : decode cX6_isBetter 86 = .ok (.iload 6, 2) := by decide +kernel
theorem dX6_isBetter_88 : decode cX6_isBetter 88 = .ok (.istore 6, 2) := by decide +kernel
theorem dX6_isBetter_90 : decode cX6_isBetter 90 = .ok (.iload 6, 2) := by decide +kernel
theorem dX6_isBetter_92 : decode cX6_isBetter 92 = .ok (.ifCond .ne 27, 3) := by decide +kernel
theorem dX6_isBetter_95 : decode cX6_isBetter 95 = .ok (.aload_n 0, 1) := by decide +kernel
theorem dX6_isBetter_96 : decode cX6_isBetter 96 = .ok (.getfield 7, 3) := by decide +kernel
theorem dX6_isBetter_99 : decode cX6_isBetter 99 = .ok (.iload_n 1, 1) := by decide +kernel
theorem dX6_isBetter_100 : decode cX6_isBetter 100 = .ok (.iconst 0, 1) := by decide +kernel
theorem dX6_isBetter_101 : decode cX6_isBetter 101 = .ok (.invokestatic 31, 3) := by decide +kernel
theorem dX6_isBetter_104 : decode cX6_isBetter 104 = .ok (.iaload, 1) := by decide +kernel
theorem dX6_isBetter_105 : decode cX6_isBetter 105 = .ok (.aload_n 0, 1) := by decide +kernel
theorem dX6_isBetter_106 : decode cX6_isBetter 106 = .ok (.getfield 7, 3) := by decide +kernel
theorem dX6_isBetter_109 : decode cX6_isBetter 109 = .ok (.iload_n 2, 1) := by decide +kernel
theorem dX6_isBetter_110 : decode cX6_isBetter 110 = .ok (.iconst 0, 1) := by decide +kernel
theorem dX6_isBetter_111 : decode cX6_isBetter 111 = .ok (.invokestatic 31, 3) := by decide +kernel
theorem dX6_isBetter_114 : decode cX6_isBetter 114 = .ok (.iaload, 1) := by decide +kernel
theorem dX6_isBetter_115 : decode cX6_isBetter 115 = .ok (.isub, 1) := by decide +kernel
theorem dX6_isBetter_116 : decode cX6_isBetter 116 = .ok (.goto 5, 3) := by decide +kernel
theorem dX6_isBetter_119 : decode cX6_isBetter 119 = .ok (.iload 6, 2) := by decide +kernel
theorem dX6_isBetter_121 : decode cX6_isBetter 121 = .ok (.istore 6, 2) := by decide +kernel
theorem dX6_isBetter_123 : decode cX6_isBetter 123 = .ok (.iload 6, 2) := by decide +kernel
theorem dX6_isBetter_125 : decode cX6_isBetter 125 = .ok (.ifCond .ge 7, 3) := by decide +kernel
theorem dX6_isBetter_128 : decode cX6_isBetter 128 = .ok (.iconst 1, 1) := by decide +kernel
theorem dX6_isBetter_129 : decode cX6_isBetter 129 = .ok (.goto 4, 3) := by decide +kernel
theorem dX6_isBetter_132 : decode cX6_isBetter 132 = .ok (.iconst 0, 1) := by decide +kernel
theorem dX6_isBetter_133 : decode cX6_isBetter 133 = .ok (.ireturn, 1) := by decide +kernel
theorem dX6_bestFor_0 : decode cX6_bestFor 0 = .ok (.bipush (-5), 2) := by decide +kernel
theorem dX6_bestFor_2 : decode cX6_bestFor 2 = .ok (.istore_n 3, 1) := by decide +kernel
theorem dX6_bestFor_3 : decode cX6_bestFor 3 = .ok (.iconst 0, 1) := by decide +kernel
theorem dX6_bestFor_4 : decode cX6_bestFor 4 = .ok (.istore 4, 2) := by decide +kernel
theorem dX6_bestFor_6 : decode cX6_bestFor 6 = .ok (.iload 4, 2) := by decide +kernel
theorem dX6_bestFor_8 : decode cX6_bestFor 8 = .ok (.bipush 10, 2) := by decide +kernel
theorem dX6_bestFor_10 : decode cX6_bestFor 10 = .ok (.if_icmp .ge 66, 3) := by decide +kernel
theorem dX6_bestFor_13 : decode cX6_bestFor 13 = .ok (.aload_n 0, 1) := by decide +kernel
theorem dX6_bestFor_14 : decode cX6_bestFor 14 = .ok (.getfield 25, 3) := by decide +kernel
theorem dX6_bestFor_17 : decode cX6_bestFor 17 = .ok (.iload 4, 2) := by decide +kernel
theorem dX6_bestFor_19 : decode cX6_bestFor 19 = .ok (.iaload, 1) := by decide +kernel
theorem dX6_bestFor_20 : decode cX6_bestFor 20 = .ok (.ifCond .ne 18, 3) := by decide +kernel
theorem dX6_bestFor_23 : decode cX6_bestFor 23 = .ok (.aload_n 0, 1) := by decide +kernel
theorem dX6_bestFor_24 : decode cX6_bestFor 24 = .ok (.iload 4, 2) := by decide +kernel
theorem dX6_bestFor_26 : decode cX6_bestFor 26 = .ok (.iload_n 1, 1) := by decide +kernel
theorem dX6_bestFor_27 : decode cX6_bestFor 27 = .ok (.iload_n 2, 1) := by decide +kernel
theorem dX6_bestFor_28 : decode cX6_bestFor 28 = .ok (.invokevirtual 54, 3) := by decide +kernel
theorem dX6_bestFor_31 : decode cX6_bestFor 31 = .ok (.ifCond .ne 7, 3) := by decide +kernel
theorem dX6_bestFor_34 : decode cX6_bestFor 34 = .ok (.iconst 1, 1) := by decide +kernel
theorem dX6_bestFor_35 : decode cX6_bestFor 35 = .ok (.goto 4, 3) := by decide +kernel
theorem dX6_bestFor_38 : decode cX6_bestFor 38 = .ok (.iconst 0, 1) := by decide +kernel
theorem dX6_bestFor_39 : decode cX6_bestFor 39 = .ok (.istore 5, 2) := by decide +kernel
theorem dX6_bestFor_41 : decode cX6_bestFor 41 = .ok (.iload 5, 2) := by decide +kernel
theorem dX6_bestFor_43 : decode cX6_bestFor 43 = .ok (.ifCond .eq 25, 3) := by decide +kernel
theorem dX6_bestFor_46 : decode cX6_bestFor 46 = .ok (.iload_n 3, 1) := by decide +kernel
theorem dX6_bestFor_47 : decode cX6_bestFor 47 = .ok (.bipush (-5), 2) := by decide +kernel
theorem dX6_bestFor_49 : decode cX6_bestFor 49 = .ok (.if_icmp .eq 14, 3) := by decide +kernel
theorem dX6_bestFor_52 : decode cX6_bestFor 52 = .ok (.aload_n 0, 1) := by decide +kernel
theorem dX6_bestFor_53 : decode cX6_bestFor 53 = .ok (.iload 4, 2) := by decide +kernel
theorem dX6_bestFor_55 : decode cX6_bestFor 55 = .ok (.iload_n 3, 1) := by decide +kernel
theorem dX6_bestFor_56 : decode cX6_bestFor 56 = .ok (.iload_n 1, 1) := by decide +kernel
theorem dX6_bestFor_57 : decode cX6_bestFor 57 = .ok (.invokevirtual 58, 3) := by decide +kernel
theorem dX6_bestFor_60 : decode cX6_bestFor 60 = .ok (.ifCond .eq 8, 3) := by decide +kernel
theorem dX6_bestFor_63 : decode cX6_bestFor 63 = .ok (.iload 4, 2) := by decide +kernel
theorem dX6_bestFor_65 : decode cX6_bestFor 65 = .ok (.goto 4, 3) := by decide +kernel
theorem dX6_bestFor_68 : decode cX6_bestFor 68 = .ok (.iload_n 3, 1) := by decide +kernel
theorem dX6_bestFor_69 : decode cX6_bestFor 69 = .ok (.istore_n 3, 1) := by decide +kernel
theorem dX6_bestFor_70 : decode cX6_bestFor 70 = .ok (.iinc 4 1, 3) := by decide +kernel
theorem dX6_bestFor_73 : decode cX6_bestFor 73 = .ok (.goto (-67), 3) := by decide +kernel
theorem dX6_bestFor_76 : decode cX6_bestFor 76 = .ok (.iload_n 3, 1) := by decide +kernel
theorem dX6_bestFor_77 : decode cX6_bestFor 77 = .ok (.ireturn, 1) := by decide +kernel
theorem dX6_frees_0 : decode cX6_frees 0 = .ok (.iconst 0, 1) := by decide +kernel
theorem dX6_frees_1 : decode cX6_frees 1 = .ok (.istore_n 1, 1) := by decide +kernel
theorem dX6_frees_2 : decode cX6_frees 2 = .ok (.iload_n 1, 1) := by decide +kernel
theorem dX6_frees_3 : decode cX6_frees 3 = .ok (.bipush 10, 2) := by decide +kernel
theorem dX6_frees_5 : decode cX6_frees 5 = .ok (.if_icmp .ge 16, 3) := by decide +kernel
theorem dX6_frees_8 : decode cX6_frees 8 = .ok (.aload_n 0, 1) := by decide +kernel
theorem dX6_frees_9 : decode cX6_frees 9 = .ok (.getfield 25, 3) := by decide +kernel
theorem dX6_frees_12 : decode cX6_frees 12 = .ok (.iload_n 1, 1) := by decide +kernel
theorem dX6_frees_13 : decode cX6_frees 13 = .ok (.iconst 0, 1) := by decide +kernel
theorem dX6_frees_14 : decode cX6_frees 14 = .ok (.iastore, 1) := by decide +kernel
theorem dX6_frees_15 : decode cX6_frees 15 = .ok (.iinc 1 1, 3) := by decide +kernel
theorem dX6_frees_18 : decode cX6_frees 18 = .ok (.goto (-16), 3) := by decide +kernel
theorem dX6_frees_21 : decode cX6_frees 21 = .ok (.return_, 1) := by decide +kernel
theorem dX6_falls_0 : decode cX6_falls 0 = .ok (.aload_n 0, 1) := by decide +kernel
theorem dX6_falls_1 : decode cX6_falls 1 = .ok (.getfield 7, 3) := by decide +kernel
theorem dX6_falls_4 : decode cX6_falls 4 = .ok (.sipush 317, 3) := by decide +kernel
theorem dX6_falls_7 : decode cX6_falls 7 = .ok (.dup2, 1) := by decide +kernel
theorem dX6_falls_8 : decode cX6_falls 8 = .ok (.iaload, 1) := by decide +kernel
theorem dX6_falls_9 : decode cX6_falls 9 = .ok (.aload_n 0, 1) := by decide +kernel
theorem dX6_falls_10 : decode cX6_falls 10 = .ok (.getfield 7, 3) := by decide +kernel
theorem dX6_falls_13 : decode cX6_falls 13 = .ok (.sipush 317, 3) := by decide +kernel
theorem dX6_falls_16 : decode cX6_falls 16 = .ok (.iaload, 1) := by decide +kernel
theorem dX6_falls_17 : decode cX6_falls 17 = .ok (.bipush 20, 2) := by decide +kernel
theorem dX6_falls_19 : decode cX6_falls 19 = .ok (.if_icmp .ge 7, 3) := by decide +kernel
theorem dX6_falls_22 : decode cX6_falls 22 = .ok (.iconst 1, 1) := by decide +kernel
theorem dX6_falls_23 : decode cX6_falls 23 = .ok (.goto 4, 3) := by decide +kernel
theorem dX6_falls_26 : decode cX6_falls 26 = .ok (.iconst 0, 1) := by decide +kernel
theorem dX6_falls_27 : decode cX6_falls 27 = .ok (.iadd, 1) := by decide +kernel
theorem dX6_falls_28 : decode cX6_falls 28 = .ok (.iastore, 1) := by decide +kernel
theorem dX6_falls_29 : decode cX6_falls 29 = .ok (.iconst 3, 1) := by decide +kernel
theorem dX6_falls_30 : decode cX6_falls 30 = .ok (.aload_n 0, 1) := by decide +kernel
theorem dX6_falls_31 : decode cX6_falls 31 = .ok (.getfield 7, 3) := by decide +kernel
theorem dX6_falls_34 : decode cX6_falls 34 = .ok (.sipush 317, 3) := by decide +kernel
theorem dX6_falls_37 : decode cX6_falls 37 = .ok (.iaload, 1) := by decide +kernel
theorem dX6_falls_38 : decode cX6_falls 38 = .ok (.imul, 1) := by decide +kernel
theorem dX6_falls_39 : decode cX6_falls 39 = .ok (.iconst 1, 1) := by decide +kernel
theorem dX6_falls_40 : decode cX6_falls 40 = .ok (.isub, 1) := by decide +kernel
theorem dX6_falls_41 : decode cX6_falls 41 = .ok (.istore_n 3, 1) := by decide +kernel
theorem dX6_falls_42 : decode cX6_falls 42 = .ok (.iload_n 3, 1) := by decide +kernel
theorem dX6_falls_43 : decode cX6_falls 43 = .ok (.iconst 2, 1) := by decide +kernel
theorem dX6_falls_44 : decode cX6_falls 44 = .ok (.if_icmp .le 31, 3) := by decide +kernel
theorem dX6_falls_47 : decode cX6_falls 47 = .ok (.aload_n 0, 1) := by decide +kernel
theorem dX6_falls_48 : decode cX6_falls 48 = .ok (.getfield 7, 3) := by decide +kernel
theorem dX6_falls_51 : decode cX6_falls 51 = .ok (.sipush 318, 3) := by decide +kernel
theorem dX6_falls_54 : decode cX6_falls 54 = .ok (.iload_n 3, 1) := by decide +kernel
theorem dX6_falls_55 : decode cX6_falls 55 = .ok (.iadd, 1) := by decide +kernel
theorem dX6_falls_56 : decode cX6_falls 56 = .ok (.aload_n 0, 1) := by decide +kernel
theorem dX6_falls_57 : decode cX6_falls 57 = .ok (.getfield 7, 3) := by decide +kernel
theorem dX6_falls_60 : decode cX6_falls 60 = .ok (.sipush 318, 3) := by decide +kernel
theorem dX6_falls_63 : decode cX6_falls 63 = .ok (.iload_n 3, 1) := by decide +kernel
theorem dX6_falls_64 : decode cX6_falls 64 = .ok (.iadd, 1) := by decide +kernel
theorem dX6_falls_65 : decode cX6_falls 65 = .ok (.iconst 3, 1) := by decide +kernel
theorem dX6_falls_66 : decode cX6_falls 66 = .ok (.isub, 1) := by decide +kernel
theorem dX6_falls_67 : decode cX6_falls 67 = .ok (.iaload, 1) := by decide +kernel
theorem dX6_falls_68 : decode cX6_falls 68 = .ok (.iastore, 1) := by decide +kernel
theorem dX6_falls_69 : decode cX6_falls 69 = .ok (.iinc 3 (-1), 3) := by decide +kernel
theorem dX6_falls_72 : decode cX6_falls 72 = .ok (.goto (-30), 3) := by decide +kernel
theorem dX6_falls_75 : decode cX6_falls 75 = .ok (.aload_n 0, 1) := by decide +kernel
theorem dX6_falls_76 : decode cX6_falls 76 = .ok (.getfield 7, 3) := by decide +kernel
theorem dX6_falls_79 : decode cX6_falls 79 = .ok (.sipush 318, 3) := by decide +kernel
theorem dX6_falls_82 : decode cX6_falls 82 = .ok (.aload_n 0, 1) := by decide +kernel
theorem dX6_falls_83 : decode cX6_falls 83 = .ok (.getfield 7, 3) := by decide +kernel
theorem dX6_falls_86 : decode cX6_falls 86 = .ok (.iconst 0, 1) := by decide +kernel
theorem dX6_falls_87 : decode cX6_falls 87 = .ok (.iaload, 1) := by decide +kernel
theorem dX6_falls_88 : decode cX6_falls 88 = .ok (.iastore, 1) := by decide +kernel
theorem dX6_falls_89 : decode cX6_falls 89 = .ok (.aload_n 0, 1) := by decide +kernel
theorem dX6_falls_90 : decode cX6_falls 90 = .ok (.getfield 7, 3) := by decide +kernel
theorem dX6_falls_93 : decode cX6_falls 93 = .ok (.sipush 319, 3) := by decide +kernel
theorem dX6_falls_96 : decode cX6_falls 96 = .ok (.iload_n 1, 1) := by decide +kernel
theorem dX6_falls_97 : decode cX6_falls 97 = .ok (.iastore, 1) := by decide +kernel
theorem dX6_falls_98 : decode cX6_falls 98 = .ok (.aload_n 0, 1) := by decide +kernel
theorem dX6_falls_99 : decode cX6_falls 99 = .ok (.getfield 7, 3) := by decide +kernel
theorem dX6_falls_102 : decode cX6_falls 102 = .ok (.sipush 320, 3) := by decide +kernel
theorem dX6_falls_105 : decode cX6_falls 105 = .ok (.iload_n 2, 1) := by decide +kernel
theorem dX6_falls_106 : decode cX6_falls 106 = .ok (.iastore, 1) := by decide +kernel
theorem dX6_falls_107 : decode cX6_falls 107 = .ok (.aload_n 0, 1) := by decide +kernel
theorem dX6_falls_108 : decode cX6_falls 108 = .ok (.getfield 7, 3) := by decide +kernel
theorem dX6_falls_111 : decode cX6_falls 111 = .ok (.sipush 314, 3) := by decide +kernel
theorem dX6_falls_114 : decode cX6_falls 114 = .ok (.dup2, 1) := by decide +kernel
theorem dX6_falls_115 : decode cX6_falls 115 = .ok (.iaload, 1) := by decide +kernel
theorem dX6_falls_116 : decode cX6_falls 116 = .ok (.iconst 1, 1) := by decide +kernel
theorem dX6_falls_117 : decode cX6_falls 117 = .ok (.iadd, 1) := by decide +kernel
theorem dX6_falls_118 : decode cX6_falls 118 = .ok (.iastore, 1) := by decide +kernel
theorem dX6_falls_119 : decode cX6_falls 119 = .ok (.aload_n 0, 1) := by decide +kernel
theorem dX6_falls_120 : decode cX6_falls 120 = .ok (.getfield 7, 3) := by decide +kernel
theorem dX6_falls_123 : decode cX6_falls 123 = .ok (.iload_n 2, 1) := by decide +kernel
theorem dX6_falls_124 : decode cX6_falls 124 = .ok (.bipush 7, 2) := by decide +kernel
theorem dX6_falls_126 : decode cX6_falls 126 = .ok (.invokestatic 31, 3) := by decide +kernel
theorem dX6_falls_129 : decode cX6_falls 129 = .ok (.dup2, 1) := by decide +kernel
theorem dX6_falls_130 : decode cX6_falls 130 = .ok (.iaload, 1) := by decide +kernel
theorem dX6_falls_131 : decode cX6_falls 131 = .ok (.iconst 1, 1) := by decide +kernel
theorem dX6_falls_132 : decode cX6_falls 132 = .ok (.iadd, 1) := by decide +kernel
theorem dX6_falls_133 : decode cX6_falls 133 = .ok (.iastore, 1) := by decide +kernel
theorem dX6_falls_134 : decode cX6_falls 134 = .ok (.aload_n 0, 1) := by decide +kernel
theorem dX6_falls_135 : decode cX6_falls 135 = .ok (.getfield 7, 3) := by decide +kernel
theorem dX6_falls_138 : decode cX6_falls 138 = .ok (.iload_n 1, 1) := by decide +kernel
theorem dX6_falls_139 : decode cX6_falls 139 = .ok (.iconst 5, 1) := by decide +kernel
theorem dX6_falls_140 : decode cX6_falls 140 = .ok (.invokestatic 35, 3) := by decide +kernel
theorem dX6_falls_143 : decode cX6_falls 143 = .ok (.dup2, 1) := by decide +kernel
theorem dX6_falls_144 : decode cX6_falls 144 = .ok (.iaload, 1) := by decide +kernel
theorem dX6_falls_145 : decode cX6_falls 145 = .ok (.iconst 1, 1) := by decide +kernel
theorem dX6_falls_146 : decode cX6_falls 146 = .ok (.iadd, 1) := by decide +kernel
theorem dX6_falls_147 : decode cX6_falls 147 = .ok (.iastore, 1) := by decide +kernel
theorem dX6_falls_148 : decode cX6_falls 148 = .ok (.aload_n 0, 1) := by decide +kernel
theorem dX6_falls_149 : decode cX6_falls 149 = .ok (.getfield 7, 3) := by decide +kernel
theorem dX6_falls_152 : decode cX6_falls 152 = .ok (.iload_n 1, 1) := by decide +kernel
theorem dX6_falls_153 : decode cX6_falls 153 = .ok (.iconst 2, 1) := by decide +kernel
theorem dX6_falls_154 : decode cX6_falls 154 = .ok (.invokestatic 35, 3) := by decide +kernel
theorem dX6_falls_157 : decode cX6_falls 157 = .ok (.dup2, 1) := by decide +kernel
theorem dX6_falls_158 : decode cX6_falls 158 = .ok (.iaload, 1) := by decide +kernel
theorem dX6_falls_159 : decode cX6_falls 159 = .ok (.aload_n 0, 1) := by decide +kernel
theorem dX6_falls_160 : decode cX6_falls 160 = .ok (.getfield 7, 3) := by decide +kernel
theorem dX6_falls_163 : decode cX6_falls 163 = .ok (.iload_n 1, 1) := by decide +kernel
theorem dX6_falls_164 : decode cX6_falls 164 = .ok (.iconst 2, 1) := by decide +kernel
theorem dX6_falls_165 : decode cX6_falls 165 = .ok (.invokestatic 35, 3) := by decide +kernel
theorem dX6_falls_168 : decode cX6_falls 168 = .ok (.iaload, 1) := by decide +kernel
theorem dX6_falls_169 : decode cX6_falls 169 = .ok (.bipush 9, 2) := by decide +kernel
theorem dX6_falls_171 : decode cX6_falls 171 = .ok (.if_icmp .ge 7, 3) := by decide +kernel
theorem dX6_falls_174 : decode cX6_falls 174 = .ok (.iconst 1, 1) := by decide +kernel
theorem dX6_falls_175 : decode cX6_falls 175 = .ok (.goto 4, 3) := by decide +kernel
theorem dX6_falls_178 : decode cX6_falls 178 = .ok (.iconst 0, 1) := by decide +kernel
theorem dX6_falls_179 : decode cX6_falls 179 = .ok (.iadd, 1) := by decide +kernel
theorem dX6_falls_180 : decode cX6_falls 180 = .ok (.iastore, 1) := by decide +kernel
theorem dX6_falls_181 : decode cX6_falls 181 = .ok (.aload_n 0, 1) := by decide +kernel
theorem dX6_falls_182 : decode cX6_falls 182 = .ok (.getfield 7, 3) := by decide +kernel
theorem dX6_falls_185 : decode cX6_falls 185 = .ok (.iload_n 1, 1) := by decide +kernel
theorem dX6_falls_186 : decode cX6_falls 186 = .ok (.iconst 3, 1) := by decide +kernel
theorem dX6_falls_187 : decode cX6_falls 187 = .ok (.invokestatic 35, 3) := by decide +kernel
theorem dX6_falls_190 : decode cX6_falls 190 = .ok (.iconst 0, 1) := by decide +kernel
theorem dX6_falls_191 : decode cX6_falls 191 = .ok (.iastore, 1) := by decide +kernel
theorem dX6_falls_192 : decode cX6_falls 192 = .ok (.return_, 1) := by decide +kernel
theorem dX6_learns_0 : decode cX6_learns 0 = .ok (.aload_n 0, 1) := by decide +kernel
theorem dX6_learns_1 : decode cX6_learns 1 = .ok (.getfield 7, 3) := by decide +kernel
theorem dX6_learns_4 : decode cX6_learns 4 = .ok (.iload_n 1, 1) := by decide +kernel
theorem dX6_learns_5 : decode cX6_learns 5 = .ok (.iconst 2, 1) := by decide +kernel
theorem dX6_learns_6 : decode cX6_learns 6 = .ok (.invokestatic 35, 3) := by decide +kernel
theorem dX6_learns_9 : decode cX6_learns 9 = .ok (.dup2, 1) := by decide +kernel
theorem dX6_learns_10 : decode cX6_learns 10 = .ok (.iaload, 1) := by decide +kernel
theorem dX6_learns_11 : decode cX6_learns 11 = .ok (.aload_n 0, 1) := by decide +kernel
theorem dX6_learns_12 : decode cX6_learns 12 = .ok (.getfield 7, 3) := by decide +kernel
theorem dX6_learns_15 : decode cX6_learns 15 = .ok (.iload_n 1, 1) := by decide +kernel
theorem dX6_learns_16 : decode cX6_learns 16 = .ok (.iconst 2, 1) := by decide +kernel
theorem dX6_learns_17 : decode cX6_learns 17 = .ok (.invokestatic 35, 3) := by decide +kernel
theorem dX6_learns_20 : decode cX6_learns 20 = .ok (.iaload, 1) := by decide +kernel
theorem dX6_learns_21 : decode cX6_learns 21 = .ok (.ifCond .le 7, 3) := by decide +kernel
theorem dX6_learns_24 : decode cX6_learns 24 = .ok (.iconst 1, 1) := by decide +kernel
theorem dX6_learns_25 : decode cX6_learns 25 = .ok (.goto 4, 3) := by decide +kernel
theorem dX6_learns_28 : decode cX6_learns 28 = .ok (.iconst 0, 1) := by decide +kernel
theorem dX6_learns_29 : decode cX6_learns 29 = .ok (.isub, 1) := by decide +kernel
theorem dX6_learns_30 : decode cX6_learns 30 = .ok (.iastore, 1) := by decide +kernel
theorem dX6_learns_31 : decode cX6_learns 31 = .ok (.aload_n 0, 1) := by decide +kernel
theorem dX6_learns_32 : decode cX6_learns 32 = .ok (.getfield 7, 3) := by decide +kernel
theorem dX6_learns_35 : decode cX6_learns 35 = .ok (.iload_n 1, 1) := by decide +kernel
theorem dX6_learns_36 : decode cX6_learns 36 = .ok (.iconst 3, 1) := by decide +kernel
theorem dX6_learns_37 : decode cX6_learns 37 = .ok (.invokestatic 35, 3) := by decide +kernel
theorem dX6_learns_40 : decode cX6_learns 40 = .ok (.dup2, 1) := by decide +kernel
theorem dX6_learns_41 : decode cX6_learns 41 = .ok (.iaload, 1) := by decide +kernel
theorem dX6_learns_42 : decode cX6_learns 42 = .ok (.iconst 1, 1) := by decide +kernel
theorem dX6_learns_43 : decode cX6_learns 43 = .ok (.iadd, 1) := by decide +kernel
theorem dX6_learns_44 : decode cX6_learns 44 = .ok (.iastore, 1) := by decide +kernel
theorem dX6_learns_45 : decode cX6_learns 45 = .ok (.aload_n 0, 1) := by decide +kernel
theorem dX6_learns_46 : decode cX6_learns 46 = .ok (.getfield 7, 3) := by decide +kernel
theorem dX6_learns_49 : decode cX6_learns 49 = .ok (.iload_n 1, 1) := by decide +kernel
theorem dX6_learns_50 : decode cX6_learns 50 = .ok (.iconst 3, 1) := by decide +kernel
theorem dX6_learns_51 : decode cX6_learns 51 = .ok (.invokestatic 35, 3) := by decide +kernel
theorem dX6_learns_54 : decode cX6_learns 54 = .ok (.iaload, 1) := by decide +kernel
theorem dX6_learns_55 : decode cX6_learns 55 = .ok (.iconst 3, 1) := by decide +kernel
theorem dX6_learns_56 : decode cX6_learns 56 = .ok (.irem, 1) := by decide +kernel
theorem dX6_learns_57 : decode cX6_learns 57 = .ok (.ifCond .ne 22, 3) := by decide +kernel
theorem dX6_learns_60 : decode cX6_learns 60 = .ok (.aload_n 0, 1) := by decide +kernel
theorem dX6_learns_61 : decode cX6_learns 61 = .ok (.getfield 7, 3) := by decide +kernel
theorem dX6_learns_64 : decode cX6_learns 64 = .ok (.iload_n 1, 1) := by decide +kernel
theorem dX6_learns_65 : decode cX6_learns 65 = .ok (.iconst 1, 1) := by decide +kernel
theorem dX6_learns_66 : decode cX6_learns 66 = .ok (.invokestatic 35, 3) := by decide +kernel
theorem dX6_learns_69 : decode cX6_learns 69 = .ok (.iaload, 1) := by decide +kernel
theorem dX6_learns_70 : decode cX6_learns 70 = .ok (.bipush 9, 2) := by decide +kernel
theorem dX6_learns_72 : decode cX6_learns 72 = .ok (.if_icmp .ge 7, 3) := by decide +kernel
theorem dX6_learns_75 : decode cX6_learns 75 = .ok (.iconst 1, 1) := by decide +kernel
theorem dX6_learns_76 : decode cX6_learns 76 = .ok (.goto 4, 3) := by decide +kernel
theorem dX6_learns_79 : decode cX6_learns 79 = .ok (.iconst 0, 1) := by decide +kernel
theorem dX6_learns_80 : decode cX6_learns 80 = .ok (.istore_n 2, 1) := by decide +kernel
theorem dX6_learns_81 : decode cX6_learns 81 = .ok (.aload_n 0, 1) := by decide +kernel
theorem dX6_learns_82 : decode cX6_learns 82 = .ok (.getfield 7, 3) := by decide +kernel
theorem dX6_learns_85 : decode cX6_learns 85 = .ok (.iload_n 1, 1) := by decide +kernel
theorem dX6_learns_86 : decode cX6_learns 86 = .ok (.iconst 1, 1) := by decide +kernel
theorem dX6_learns_87 : decode cX6_learns 87 = .ok (.invokestatic 35, 3) := by decide +kernel
theorem dX6_learns_90 : decode cX6_learns 90 = .ok (.dup2, 1) := by decide +kernel
theorem dX6_learns_91 : decode cX6_learns 91 = .ok (.iaload, 1) := by decide +kernel
theorem dX6_learns_92 : decode cX6_learns 92 = .ok (.iload_n 2, 1) := by decide +kernel
theorem dX6_learns_93 : decode cX6_learns 93 = .ok (.ifCond .eq 7, 3) := by decide +kernel
theorem dX6_learns_96 : decode cX6_learns 96 = .ok (.iconst 1, 1) := by decide +kernel
theorem dX6_learns_97 : decode cX6_learns 97 = .ok (.goto 4, 3) := by decide +kernel
theorem dX6_learns_100 : decode cX6_learns 100 = .ok (.iconst 0, 1) := by decide +kernel
theorem dX6_learns_101 : decode cX6_learns 101 = .ok (.iadd, 1) := by decide +kernel
theorem dX6_learns_102 : decode cX6_learns 102 = .ok (.iastore, 1) := by decide +kernel
theorem dX6_learns_103 : decode cX6_learns 103 = .ok (.return_, 1) := by decide +kernel
theorem dX6_strains_0 : decode cX6_strains 0 = .ok (.aload_n 0, 1) := by decide +kernel
theorem dX6_strains_1 : decode cX6_strains 1 = .ok (.getfield 7, 3) := by decide +kernel
theorem dX6_strains_4 : decode cX6_strains 4 = .ok (.iload_n 1, 1) := by decide +kernel
theorem dX6_strains_5 : decode cX6_strains 5 = .ok (.iconst 4, 1) := by decide +kernel
theorem dX6_strains_6 : decode cX6_strains 6 = .ok (.invokestatic 31, 3) := by decide +kernel
theorem dX6_strains_9 : decode cX6_strains 9 = .ok (.dup2, 1) := by decide +kernel
theorem dX6_strains_10 : decode cX6_strains 10 = .ok (.iaload, 1) := by decide +kernel
theorem dX6_strains_11 : decode cX6_strains 11 = .ok (.iconst 1, 1) := by decide +kernel
theorem dX6_strains_12 : decode cX6_strains 12 = .ok (.iadd, 1) := by decide +kernel
theorem dX6_strains_13 : decode cX6_strains 13 = .ok (.iastore, 1) := by decide +kernel
theorem dX6_strains_14 : decode cX6_strains 14 = .ok (.aload_n 0, 1) := by decide +kernel
theorem dX6_strains_15 : decode cX6_strains 15 = .ok (.getfield 7, 3) := by decide +kernel
theorem dX6_strains_18 : decode cX6_strains 18 = .ok (.iload_n 1, 1) := by decide +kernel
theorem dX6_strains_19 : decode cX6_strains 19 = .ok (.iconst 4, 1) := by decide +kernel
theorem dX6_strains_20 : decode cX6_strains 20 = .ok (.invokestatic 31, 3) := by decide +kernel
theorem dX6_strains_23 : decode cX6_strains 23 = .ok (.iaload, 1) := by decide +kernel
theorem dX6_strains_24 : decode cX6_strains 24 = .ok (.iconst 3, 1) := by decide +kernel
theorem dX6_strains_25 : decode cX6_strains 25 = .ok (.if_icmp .ne 32, 3) := by decide +kernel
theorem dX6_strains_28 : decode cX6_strains 28 = .ok (.aload_n 0, 1) := by decide +kernel
theorem dX6_strains_29 : decode cX6_strains 29 = .ok (.getfield 7, 3) := by decide +kernel
theorem dX6_strains_32 : decode cX6_strains 32 = .ok (.iload_n 1, 1) := by decide +kernel
theorem dX6_strains_33 : decode cX6_strains 33 = .ok (.iconst 4, 1) := by decide +kernel
theorem dX6_strains_34 : decode cX6_strains 34 = .ok (.invokestatic 31, 3) := by decide +kernel
theorem dX6_strains_37 : decode cX6_strains 37 = .ok (.iconst 0, 1) := by decide +kernel
theorem dX6_strains_38 : decode cX6_strains 38 = .ok (.iastore, 1) := by decide +kernel
theorem dX6_strains_39 : decode cX6_strains 39 = .ok (.aload_n 0, 1) := by decide +kernel
theorem dX6_strains_40 : decode cX6_strains 40 = .ok (.getfield 7, 3) := by decide +kernel
theorem dX6_strains_43 : decode cX6_strains 43 = .ok (.iload_n 1, 1) := by decide +kernel
theorem dX6_strains_44 : decode cX6_strains 44 = .ok (.iconst 5, 1) := by decide +kernel
theorem dX6_strains_45 : decode cX6_strains 45 = .ok (.invokestatic 31, 3) := by decide +kernel
theorem dX6_strains_48 : decode cX6_strains 48 = .ok (.aload_n 0, 1) := by decide +kernel
theorem dX6_strains_49 : decode cX6_strains 49 = .ok (.getfield 7, 3) := by decide +kernel
theorem dX6_strains_52 : decode cX6_strains 52 = .ok (.sipush 190, 3) := by decide +kernel
theorem dX6_strains_55 : decode cX6_strains 55 = .ok (.iaload, 1) := by decide +kernel
theorem dX6_strains_56 : decode cX6_strains 56 = .ok (.iastore, 1) := by decide +kernel
theorem dX6_strains_57 : decode cX6_strains 57 = .ok (.return_, 1) := by decide +kernel
theorem dX6_rides_0 : decode cX6_rides 0 = .ok (.aload_n 0, 1) := by decide +kernel
theorem dX6_rides_1 : decode cX6_rides 1 = .ok (.iload_n 1, 1) := by decide +kernel
theorem dX6_rides_2 : decode cX6_rides 2 = .ok (.iload_n 2, 1) := by decide +kernel
theorem dX6_rides_3 : decode cX6_rides 3 = .ok (.invokevirtual 61, 3) := by decide +kernel
theorem dX6_rides_6 : decode cX6_rides 6 = .ok (.istore_n 3, 1) := by decide +kernel
theorem dX6_rides_7 : decode cX6_rides 7 = .ok (.iload_n 3, 1) := by decide +kernel
theorem dX6_rides_8 : decode cX6_rides 8 = .ok (.bipush (-5), 2) := by decide +kernel
theorem dX6_rides_10 : decode cX6_rides 10 = .ok (.if_icmp .ne 32, 3) := by decide +kernel
theorem dX6_rides_13 : decode cX6_rides 13 = .ok (.aload_n 0, 1) := by decide +kernel
theorem dX6_rides_14 : decode cX6_rides 14 = .ok (.getfield 7, 3) := by decide +kernel
theorem dX6_rides_17 : decode cX6_rides 17 = .ok (.sipush 315, 3) := by decide +kernel
theorem dX6_rides_20 : decode cX6_rides 20 = .ok (.dup2, 1) := by decide +kernel
theorem dX6_rides_21 : decode cX6_rides 21 = .ok (.iaload, 1) := by decide +kernel
theorem dX6_rides_22 : decode cX6_rides 22 = .ok (.iconst 1, 1) := by decide +kernel
theorem dX6_rides_23 : decode cX6_rides 23 = .ok (.iadd, 1) := by decide +kernel
theorem dX6_rides_24 : decode cX6_rides 24 = .ok (.iastore, 1) := by decide +kernel
theorem dX6_rides_25 : decode cX6_rides 25 = .ok (.aload_n 0, 1) := by decide +kernel
theorem dX6_rides_26 : decode cX6_rides 26 = .ok (.getfield 7, 3) := by decide +kernel
theorem dX6_rides_29 : decode cX6_rides 29 = .ok (.iload_n 1, 1) := by decide +kernel
theorem dX6_rides_30 : decode cX6_rides 30 = .ok (.bipush 6, 2) := by decide +kernel
theorem dX6_rides_32 : decode cX6_rides 32 = .ok (.invokestatic 35, 3) := by decide +kernel
theorem dX6_rides_35 : decode cX6_rides 35 = .ok (.dup2, 1) := by decide +kernel
theorem dX6_rides_36 : decode cX6_rides 36 = .ok (.iaload, 1) := by decide +kernel
theorem dX6_rides_37 : decode cX6_rides 37 = .ok (.iconst 1, 1) := by decide +kernel
theorem dX6_rides_38 : decode cX6_rides 38 = .ok (.iadd, 1) := by decide +kernel
theorem dX6_rides_39 : decode cX6_rides 39 = .ok (.iastore, 1) := by decide +kernel
theorem dX6_rides_40 : decode cX6_rides 40 = .ok (.iconst 0, 1) := by decide +kernel
theorem dX6_rides_41 : decode cX6_rides 41 = .ok (.ireturn, 1) := by decide +kernel
theorem dX6_rides_42 : decode cX6_rides 42 = .ok (.aload_n 0, 1) := by decide +kernel
theorem dX6_rides_43 : decode cX6_rides 43 = .ok (.getfield 25, 3) := by decide +kernel
theorem dX6_rides_46 : decode cX6_rides 46 = .ok (.iload_n 3, 1) := by decide +kernel
theorem dX6_rides_47 : decode cX6_rides 47 = .ok (.iconst 1, 1) := by decide +kernel
theorem dX6_rides_48 : decode cX6_rides 48 = .ok (.iastore, 1) := by decide +kernel
theorem dX6_rides_49 : decode cX6_rides 49 = .ok (.aload_n 0, 1) := by decide +kernel
theorem dX6_rides_50 : decode cX6_rides 50 = .ok (.getfield 7, 3) := by decide +kernel
theorem dX6_rides_53 : decode cX6_rides 53 = .ok (.sipush 313, 3) := by decide +kernel
theorem dX6_rides_56 : decode cX6_rides 56 = .ok (.dup2, 1) := by decide +kernel
theorem dX6_rides_57 : decode cX6_rides 57 = .ok (.iaload, 1) := by decide +kernel
theorem dX6_rides_58 : decode cX6_rides 58 = .ok (.iconst 1, 1) := by decide +kernel
theorem dX6_rides_59 : decode cX6_rides 59 = .ok (.iadd, 1) := by decide +kernel
theorem dX6_rides_60 : decode cX6_rides 60 = .ok (.iastore, 1) := by decide +kernel
theorem dX6_rides_61 : decode cX6_rides 61 = .ok (.aload_n 0, 1) := by decide +kernel
theorem dX6_rides_62 : decode cX6_rides 62 = .ok (.getfield 7, 3) := by decide +kernel
theorem dX6_rides_65 : decode cX6_rides 65 = .ok (.iload_n 3, 1) := by decide +kernel
theorem dX6_rides_66 : decode cX6_rides 66 = .ok (.bipush 6, 2) := by decide +kernel
theorem dX6_rides_68 : decode cX6_rides 68 = .ok (.invokestatic 31, 3) := by decide +kernel
theorem dX6_rides_71 : decode cX6_rides 71 = .ok (.dup2, 1) := by decide +kernel
theorem dX6_rides_72 : decode cX6_rides 72 = .ok (.iaload, 1) := by decide +kernel
theorem dX6_rides_73 : decode cX6_rides 73 = .ok (.iconst 1, 1) := by decide +kernel
theorem dX6_rides_74 : decode cX6_rides 74 = .ok (.iadd, 1) := by decide +kernel
theorem dX6_rides_75 : decode cX6_rides 75 = .ok (.iastore, 1) := by decide +kernel
theorem dX6_rides_76 : decode cX6_rides 76 = .ok (.aload_n 0, 1) := by decide +kernel
theorem dX6_rides_77 : decode cX6_rides 77 = .ok (.getfield 7, 3) := by decide +kernel
theorem dX6_rides_80 : decode cX6_rides 80 = .ok (.iload_n 1, 1) := by decide +kernel
theorem dX6_rides_81 : decode cX6_rides 81 = .ok (.iconst 4, 1) := by decide +kernel
theorem dX6_rides_82 : decode cX6_rides 82 = .ok (.invokestatic 35, 3) := by decide +kernel
theorem dX6_rides_85 : decode cX6_rides 85 = .ok (.dup2, 1) := by decide +kernel
theorem dX6_rides_86 : decode cX6_rides 86 = .ok (.iaload, 1) := by decide +kernel
theorem dX6_rides_87 : decode cX6_rides 87 = .ok (.iconst 1, 1) := by decide +kernel
theorem dX6_rides_88 : decode cX6_rides 88 = .ok (.iadd, 1) := by decide +kernel
theorem dX6_rides_89 : decode cX6_rides 89 = .ok (.iastore, 1) := by decide +kernel
theorem dX6_rides_90 : decode cX6_rides 90 = .ok (.aload_n 0, 1) := by decide +kernel
theorem dX6_rides_91 : decode cX6_rides 91 = .ok (.getfield 7, 3) := by decide +kernel
theorem dX6_rides_94 : decode cX6_rides 94 = .ok (.iload_n 1, 1) := by decide +kernel
theorem dX6_rides_95 : decode cX6_rides 95 = .ok (.bipush 7, 2) := by decide +kernel
theorem dX6_rides_97 : decode cX6_rides 97 = .ok (.invokestatic 35, 3) := by decide +kernel
theorem dX6_rides_100 : decode cX6_rides 100 = .ok (.iload_n 3, 1) := by decide +kernel
theorem dX6_rides_101 : decode cX6_rides 101 = .ok (.iastore, 1) := by decide +kernel
theorem dX6_rides_102 : decode cX6_rides 102 = .ok (.aload_n 0, 1) := by decide +kernel
theorem dX6_rides_103 : decode cX6_rides 103 = .ok (.getfield 7, 3) := by decide +kernel
theorem dX6_rides_106 : decode cX6_rides 106 = .ok (.iload_n 3, 1) := by decide +kernel
theorem dX6_rides_107 : decode cX6_rides 107 = .ok (.iconst 1, 1) := by decide +kernel
theorem dX6_rides_108 : decode cX6_rides 108 = .ok (.invokestatic 31, 3) := by decide +kernel
theorem dX6_rides_111 : decode cX6_rides 111 = .ok (.iaload, 1) := by decide +kernel
theorem dX6_rides_112 : decode cX6_rides 112 = .ok (.aload_n 0, 1) := by decide +kernel
theorem dX6_rides_113 : decode cX6_rides 113 = .ok (.iload_n 1, 1) := by decide +kernel
theorem dX6_rides_114 : decode cX6_rides 114 = .ok (.invokevirtual 50, 3) := by decide +kernel
theorem dX6_rides_117 : decode cX6_rides 117 = .ok (.if_icmp .le 12, 3) := by decide +kernel
theorem dX6_rides_120 : decode cX6_rides 120 = .ok (.aload_n 0, 1) := by decide +kernel
theorem dX6_rides_121 : decode cX6_rides 121 = .ok (.iload_n 1, 1) := by decide +kernel
theorem dX6_rides_122 : decode cX6_rides 122 = .ok (.iload_n 3, 1) := by decide +kernel
theorem dX6_rides_123 : decode cX6_rides 123 = .ok (.invokevirtual 64, 3) := by decide +kernel
theorem dX6_rides_126 : decode cX6_rides 126 = .ok (.goto 8, 3) := by decide +kernel
theorem dX6_rides_129 : decode cX6_rides 129 = .ok (.aload_n 0, 1) := by decide +kernel
theorem dX6_rides_130 : decode cX6_rides 130 = .ok (.iload_n 1, 1) := by decide +kernel
theorem dX6_rides_131 : decode cX6_rides 131 = .ok (.invokevirtual 68, 3) := by decide +kernel
theorem dX6_rides_134 : decode cX6_rides 134 = .ok (.aload_n 0, 1) := by decide +kernel
theorem dX6_rides_135 : decode cX6_rides 135 = .ok (.getfield 7, 3) := by decide +kernel
theorem dX6_rides_138 : decode cX6_rides 138 = .ok (.iload_n 1, 1) := by decide +kernel
theorem dX6_rides_139 : decode cX6_rides 139 = .ok (.iconst 0, 1) := by decide +kernel
theorem dX6_rides_140 : decode cX6_rides 140 = .ok (.invokestatic 35, 3) := by decide +kernel
theorem dX6_rides_143 : decode cX6_rides 143 = .ok (.iaload, 1) := by decide +kernel
theorem dX6_rides_144 : decode cX6_rides 144 = .ok (.aload_n 0, 1) := by decide +kernel
theorem dX6_rides_145 : decode cX6_rides 145 = .ok (.getfield 7, 3) := by decide +kernel
theorem dX6_rides_148 : decode cX6_rides 148 = .ok (.sipush 189, 3) := by decide +kernel
theorem dX6_rides_151 : decode cX6_rides 151 = .ok (.iaload, 1) := by decide +kernel
theorem dX6_rides_152 : decode cX6_rides 152 = .ok (.iadd, 1) := by decide +kernel
theorem dX6_rides_153 : decode cX6_rides 153 = .ok (.aload_n 0, 1) := by decide +kernel
theorem dX6_rides_154 : decode cX6_rides 154 = .ok (.getfield 7, 3) := by decide +kernel
theorem dX6_rides_157 : decode cX6_rides 157 = .ok (.iload_n 3, 1) := by decide +kernel
theorem dX6_rides_158 : decode cX6_rides 158 = .ok (.iconst 0, 1) := by decide +kernel
theorem dX6_rides_159 : decode cX6_rides 159 = .ok (.invokestatic 31, 3) := by decide +kernel
theorem dX6_rides_162 : decode cX6_rides 162 = .ok (.iaload, 1) := by decide +kernel
theorem dX6_rides_163 : decode cX6_rides 163 = .ok (.if_icmp .le 8, 3) := by decide +kernel
theorem dX6_rides_166 : decode cX6_rides 166 = .ok (.aload_n 0, 1) := by decide +kernel
theorem dX6_rides_167 : decode cX6_rides 167 = .ok (.iload_n 3, 1) := by decide +kernel
theorem dX6_rides_168 : decode cX6_rides 168 = .ok (.invokevirtual 72, 3) := by decide +kernel
theorem dX6_rides_171 : decode cX6_rides 171 = .ok (.iconst 1, 1) := by decide +kernel
theorem dX6_rides_172 : decode cX6_rides 172 = .ok (.ireturn, 1) := by decide +kernel
theorem dX6_gives_0 : decode cX6_gives 0 = .ok (.iconst 0, 1) := by decide +kernel
theorem dX6_gives_1 : decode cX6_gives 1 = .ok (.istore_n 2, 1) := by decide +kernel
theorem dX6_gives_2 : decode cX6_gives 2 = .ok (.iconst 0, 1) := by decide +kernel
theorem dX6_gives_3 : decode cX6_gives 3 = .ok (.istore_n 3, 1) := by decide +kernel
theorem dX6_gives_4 : decode cX6_gives 4 = .ok (.aload_n 0, 1) := by decide +kernel
theorem dX6_gives_5 : decode cX6_gives 5 = .ok (.getfield 7, 3) := by decide +kernel
theorem dX6_gives_8 : decode cX6_gives 8 = .ok (.sipush 192, 3) := by decide +kernel
theorem dX6_gives_11 : decode cX6_gives 11 = .ok (.iaload, 1) := by decide +kernel
theorem dX6_gives_12 : decode cX6_gives 12 = .ok (.istore 4, 2) := by decide +kernel
theorem dX6_gives_14 : decode cX6_gives 14 = .ok (.iconst 0, 1) := by decide +kernel
theorem dX6_gives_15 : decode cX6_gives 15 = .ok (.istore 5, 2) := by decide +kernel
theorem dX6_gives_17 : decode cX6_gives 17 = .ok (.iload 5, 2) := by decide +kernel
theorem dX6_gives_19 : decode cX6_gives 19 = .ok (.iload 4, 2) := by decide +kernel
theorem dX6_gives_21 : decode cX6_gives 21 = .ok (.if_icmp .ge 100, 3) := by decide +kernel
theorem dX6_gives_24 : decode cX6_gives 24 = .ok (.aload_n 0, 1) := by decide +kernel
theorem dX6_gives_25 : decode cX6_gives 25 = .ok (.getfield 7, 3) := by decide +kernel
theorem dX6_gives_28 : decode cX6_gives 28 = .ok (.iload 5, 2) := by decide +kernel
theorem dX6_gives_30 : decode cX6_gives 30 = .ok (.iconst 0, 1) := by decide +kernel
theorem dX6_gives_31 : decode cX6_gives 31 = .ok (.invokestatic 75, 3) := by decide +kernel
theorem dX6_gives_34 : decode cX6_gives 34 = .ok (.iaload, 1) := by decide +kernel
theorem dX6_gives_35 : decode cX6_gives 35 = .ok (.aload_n 0, 1) := by decide +kernel
theorem dX6_gives_36 : decode cX6_gives 36 = .ok (.getfield 7, 3) := by decide +kernel
theorem dX6_gives_39 : decode cX6_gives 39 = .ok (.iconst 0, 1) := by decide +kernel
theorem dX6_gives_40 : decode cX6_gives 40 = .ok (.iaload, 1) := by decide +kernel
theorem dX6_gives_41 : decode cX6_gives 41 = .ok (.if_icmp .ne 33, 3) := by decide +kernel
theorem dX6_gives_44 : decode cX6_gives 44 = .ok (.iload_n 2, 1) := by decide +kernel
theorem dX6_gives_45 : decode cX6_gives 45 = .ok (.aload_n 0, 1) := by decide +kernel
theorem dX6_gives_46 : decode cX6_gives 46 = .ok (.aload_n 0, 1) := by decide +kernel
theorem dX6_gives_47 : decode cX6_gives 47 = .ok (.getfield 7, 3) := by decide +kernel
theorem dX6_gives_50 : decode cX6_gives 50 = .ok (.iload 5, 2) := by decide +kernel
theorem dX6_gives_52 : decode cX6_gives 52 = .ok (.iconst 2, 1) := by decide +kernel
theorem dX6_gives_53 : decode cX6_gives 53 = .ok (.invokestatic 75, 3) := by decide +kernel
theorem dX6_gives_56 : decode cX6_gives 56 = .ok (.iaload, 1) := by decide +kernel
theorem dX6_gives_57 : decode cX6_gives 57 = .ok (.iload_n 1, 1) := by decide +kernel
theorem dX6_gives_58 : decode cX6_gives 58 = .ok (.invokevirtual 78, 3) := by decide +kernel
theorem dX6_gives_61 : decode cX6_gives 61 = .ok (.ifCond .eq 7, 3) := by decide +kernel
theorem dX6_gives_64 : decode cX6_gives 64 = .ok (.iconst 1, 1) := by decide +kernel
theorem dX6_gives_65 : decode cX6_gives 65 = .ok (.goto 4, 3) := by decide +kernel
theorem dX6_gives_68 : decode cX6_gives 68 = .ok (.iconst 0, 1) := by decide +kernel
theorem dX6_gives_69 : decode cX6_gives 69 = .ok (.iadd, 1) := by decide +kernel
theorem dX6_gives_70 : decode cX6_gives 70 = .ok (.istore_n 2, 1) := by decide +kernel
theorem dX6_gives_71 : decode cX6_gives 71 = .ok (.goto 44, 3) := by decide +kernel
theorem dX6_gives_74 : decode cX6_gives 74 = .ok (.iconst 0, 1) := by decide +kernel
theorem dX6_gives_75 : decode cX6_gives 75 = .ok (.istore 6, 2) := by decide +kernel
theorem dX6_gives_77 : decode cX6_gives 77 = .ok (.iload 6, 2) := by decide +kernel
theorem dX6_gives_79 : decode cX6_gives 79 = .ok (.iconst 3, 1) := by decide +kernel
theorem dX6_gives_80 : decode cX6_gives 80 = .ok (.if_icmp .ge 32, 3) := by decide +kernel
theorem dX6_gives_83 : decode cX6_gives 83 = .ok (.aload_n 0, 1) := by decide +kernel
theorem dX6_gives_84 : decode cX6_gives 84 = .ok (.getfield 7, 3) := by decide +kernel
theorem dX6_gives_87 : decode cX6_gives 87 = .ok (.iload_n 3, 1) := by decide +kernel
theorem dX6_gives_88 : decode cX6_gives 88 = .ok (.iload 6, 2) := by decide +kernel
theorem dX6_gives_90 : decode cX6_gives 90 = .ok (.invokestatic 75, 3) := by decide +kernel
theorem dX6_gives_93 : decode cX6_gives 93 = .ok (.aload_n 0, 1) := by decide +kernel
theorem dX6_gives_94 : decode cX6_gives 94 = .ok (.getfield 7, 3) := by decide +kernel
theorem dX6_gives_97 : decode cX6_gives 97 = .ok (.iload 5, 2) := by decide +kernel
theorem dX6_gives_99 : decode cX6_gives 99 = .ok (.iload 6, 2) := by decide +kernel
theorem dX6_gives_101 : decode cX6_gives 101 = .ok (.invokestatic 75, 3) := by decide +kernel
theorem dX6_gives_104 : decode cX6_gives 104 = .ok (.iaload, 1) := by decide +kernel
theorem dX6_gives_105 : decode cX6_gives 105 = .ok (.iastore, 1) := by decide +kernel
theorem dX6_gives_106 : decode cX6_gives 106 = .ok (.iinc 6 1, 3) := by decide +kernel
theorem dX6_gives_109 : decode cX6_gives 109 = .ok (.goto (-32), 3) := by decide +kernel
theorem dX6_gives_112 : decode cX6_gives 112 = .ok (.iinc 3 1, 3) := by decide +kernel
theorem dX6_gives_115 : decode cX6_gives 115 = .ok (.iinc 5 1, 3) := by decide +kernel
theorem dX6_gives_118 : decode cX6_gives 118 = .ok (.goto (-101), 3) := by decide +kernel
theorem dX6_gives_121 : decode cX6_gives 121 = .ok (.aload_n 0, 1) := by decide +kernel
theorem dX6_gives_122 : decode cX6_gives 122 = .ok (.getfield 7, 3) := by decide +kernel
theorem dX6_gives_125 : decode cX6_gives 125 = .ok (.sipush 192, 3) := by decide +kernel
theorem dX6_gives_128 : decode cX6_gives 128 = .ok (.iload_n 3, 1) := by decide +kernel
theorem dX6_gives_129 : decode cX6_gives 129 = .ok (.iastore, 1) := by decide +kernel
theorem dX6_gives_130 : decode cX6_gives 130 = .ok (.iload_n 2, 1) := by decide +kernel
theorem dX6_gives_131 : decode cX6_gives 131 = .ok (.ireturn, 1) := by decide +kernel
theorem dX6_rests_0 : decode cX6_rests 0 = .ok (.aload_n 0, 1) := by decide +kernel
theorem dX6_rests_1 : decode cX6_rests 1 = .ok (.getfield 25, 3) := by decide +kernel
theorem dX6_rests_4 : decode cX6_rests 4 = .ok (.iload_n 1, 1) := by decide +kernel
theorem dX6_rests_5 : decode cX6_rests 5 = .ok (.iaload, 1) := by decide +kernel
theorem dX6_rests_6 : decode cX6_rests 6 = .ok (.iconst 1, 1) := by decide +kernel
theorem dX6_rests_7 : decode cX6_rests 7 = .ok (.if_icmp .ne 7, 3) := by decide +kernel
theorem dX6_rests_10 : decode cX6_rests 10 = .ok (.iconst 1, 1) := by decide +kernel
theorem dX6_rests_11 : decode cX6_rests 11 = .ok (.goto 4, 3) := by decide +kernel
theorem dX6_rests_14 : decode cX6_rests 14 = .ok (.iconst 0, 1) := by decide +kernel
theorem dX6_rests_15 : decode cX6_rests 15 = .ok (.istore_n 3, 1) := by decide +kernel
theorem dX6_rests_16 : decode cX6_rests 16 = .ok (.iload_n 3, 1) := by decide +kernel
theorem dX6_rests_17 : decode cX6_rests 17 = .ok (.ifCond .eq 7, 3) := by decide +kernel
theorem dX6_rests_20 : decode cX6_rests 20 = .ok (.iconst (-1), 1) := by decide +kernel
theorem dX6_rests_21 : decode cX6_rests 21 = .ok (.goto 4, 3) := by decide +kernel
theorem dX6_rests_24 : decode cX6_rests 24 = .ok (.iconst 1, 1) := by decide +kernel
theorem dX6_rests_25 : decode cX6_rests 25 = .ok (.aload_n 0, 1) := by decide +kernel
theorem dX6_rests_26 : decode cX6_rests 26 = .ok (.getfield 7, 3) := by decide +kernel
theorem dX6_rests_29 : decode cX6_rests 29 = .ok (.iconst 0, 1) := by decide +kernel
theorem dX6_rests_30 : decode cX6_rests 30 = .ok (.iaload, 1) := by decide +kernel
theorem dX6_rests_31 : decode cX6_rests 31 = .ok (.bipush 10, 2) := by decide +kernel
theorem dX6_rests_33 : decode cX6_rests 33 = .ok (.irem, 1) := by decide +kernel
theorem dX6_rests_34 : decode cX6_rests 34 = .ok (.bipush 9, 2) := by decide +kernel
theorem dX6_rests_36 : decode cX6_rests 36 = .ok (.if_icmp .ne 8, 3) := by decide +kernel
theorem dX6_rests_39 : decode cX6_rests 39 = .ok (.bipush 8, 2) := by decide +kernel
theorem dX6_rests_41 : decode cX6_rests 41 = .ok (.goto 4, 3) := by decide +kernel
theorem dX6_rests_44 : decode cX6_rests 44 = .ok (.iconst 0, 1) := by decide +kernel
theorem dX6_rests_45 : decode cX6_rests 45 = .ok (.iadd, 1) := by decide +kernel
theorem dX6_rests_46 : decode cX6_rests 46 = .ok (.istore 4, 2) := by decide +kernel
theorem dX6_rests_48 : decode cX6_rests 48 = .ok (.aload_n 0, 1) := by decide +kernel
theorem dX6_rests_49 : decode cX6_rests 49 = .ok (.getfield 7, 3) := by decide +kernel
theorem dX6_rests_52 : decode cX6_rests 52 = .ok (.iload_n 1, 1) := by decide +kernel
theorem dX6_rests_53 : decode cX6_rests 53 = .ok (.iconst 2, 1) := by decide +kernel
theorem dX6_rests_54 : decode cX6_rests 54 = .ok (.invokestatic 31, 3) := by decide +kernel
theorem dX6_rests_57 : decode cX6_rests 57 = .ok (.iaload, 1) := by decide +kernel
theorem dX6_rests_58 : decode cX6_rests 58 = .ok (.iload 4, 2) := by decide +kernel
theorem dX6_rests_60 : decode cX6_rests 60 = .ok (.isub, 1) := by decide +kernel
theorem dX6_rests_61 : decode cX6_rests 61 = .ok (.istore 5, 2) := by decide +kernel
theorem dX6_rests_63 : decode cX6_rests 63 = .ok (.aload_n 0, 1) := by decide +kernel
theorem dX6_rests_64 : decode cX6_rests 64 = .ok (.getfield 7, 3) := by decide +kernel
theorem dX6_rests_67 : decode cX6_rests 67 = .ok (.iload_n 1, 1) := by decide +kernel
theorem dX6_rests_68 : decode cX6_rests 68 = .ok (.iconst 2, 1) := by decide +kernel
theorem dX6_rests_69 : decode cX6_rests 69 = .ok (.invokestatic 31, 3) := by decide +kernel
theorem dX6_rests_72 : decode cX6_rests 72 = .ok (.iload 5, 2) := by decide +kernel
theorem dX6_rests_74 : decode cX6_rests 74 = .ok (.ifCond .ge 7, 3) := by decide +kernel
theorem dX6_rests_77 : decode cX6_rests 77 = .ok (.iconst 0, 1) := by decide +kernel
theorem dX6_rests_78 : decode cX6_rests 78 = .ok (.goto 5, 3) := by decide +kernel
theorem dX6_rests_81 : decode cX6_rests 81 = .ok (.iload 5, 2) := by decide +kernel
theorem dX6_rests_83 : decode cX6_rests 83 = .ok (.iastore, 1) := by decide +kernel
theorem dX6_rests_84 : decode cX6_rests 84 = .ok (.aload_n 0, 1) := by decide +kernel
theorem dX6_rests_85 : decode cX6_rests 85 = .ok (.getfield 7, 3) := by decide +kernel
theorem dX6_rests_88 : decode cX6_rests 88 = .ok (.iload_n 1, 1) := by decide +kernel
theorem dX6_rests_89 : decode cX6_rests 89 = .ok (.iconst 3, 1) := by decide +kernel
theorem dX6_rests_90 : decode cX6_rests 90 = .ok (.invokestatic 31, 3) := by decide +kernel
theorem dX6_rests_93 : decode cX6_rests 93 = .ok (.dup2, 1) := by decide +kernel
theorem dX6_rests_94 : decode cX6_rests 94 = .ok (.iaload, 1) := by decide +kernel
theorem dX6_rests_95 : decode cX6_rests 95 = .ok (.iload_n 3, 1) := by decide +kernel
theorem dX6_rests_96 : decode cX6_rests 96 = .ok (.ifCond .eq 7, 3) := by decide +kernel
theorem dX6_rests_99 : decode cX6_rests 99 = .ok (.iconst 1, 1) := by decide +kernel
theorem dX6_rests_100 : decode cX6_rests 100 = .ok (.goto 4, 3) := by decide +kernel
theorem dX6_rests_103 : decode cX6_rests 103 = .ok (.iconst 0, 1) := by decide +kernel
theorem dX6_rests_104 : decode cX6_rests 104 = .ok (.iadd, 1) := by decide +kernel
theorem dX6_rests_105 : decode cX6_rests 105 = .ok (.iastore, 1) := by decide +kernel
theorem dX6_rests_106 : decode cX6_rests 106 = .ok (.aload_n 0, 1) := by decide +kernel
theorem dX6_rests_107 : decode cX6_rests 107 = .ok (.getfield 7, 3) := by decide +kernel
theorem dX6_rests_110 : decode cX6_rests 110 = .ok (.iload_n 1, 1) := by decide +kernel
theorem dX6_rests_111 : decode cX6_rests 111 = .ok (.iconst 5, 1) := by decide +kernel
theorem dX6_rests_112 : decode cX6_rests 112 = .ok (.invokestatic 31, 3) := by decide +kernel
theorem dX6_rests_115 : decode cX6_rests 115 = .ok (.dup2, 1) := by decide +kernel
theorem dX6_rests_116 : decode cX6_rests 116 = .ok (.iaload, 1) := by decide +kernel
theorem dX6_rests_117 : decode cX6_rests 117 = .ok (.aload_n 0, 1) := by decide +kernel
theorem dX6_rests_118 : decode cX6_rests 118 = .ok (.getfield 28, 3) := by decide +kernel
theorem dX6_rests_121 : decode cX6_rests 121 = .ok (.iload_n 1, 1) := by decide +kernel
theorem dX6_rests_122 : decode cX6_rests 122 = .ok (.iaload, 1) := by decide +kernel
theorem dX6_rests_123 : decode cX6_rests 123 = .ok (.ifCond .le 7, 3) := by decide +kernel
theorem dX6_rests_126 : decode cX6_rests 126 = .ok (.iconst 1, 1) := by decide +kernel
theorem dX6_rests_127 : decode cX6_rests 127 = .ok (.goto 4, 3) := by decide +kernel
theorem dX6_rests_130 : decode cX6_rests 130 = .ok (.iconst 0, 1) := by decide +kernel
theorem dX6_rests_131 : decode cX6_rests 131 = .ok (.isub, 1) := by decide +kernel
theorem dX6_rests_132 : decode cX6_rests 132 = .ok (.iastore, 1) := by decide +kernel
theorem dX6_rests_133 : decode cX6_rests 133 = .ok (.iload_n 1, 1) := by decide +kernel
theorem dX6_rests_134 : decode cX6_rests 134 = .ok (.iload_n 2, 1) := by decide +kernel
theorem dX6_rests_135 : decode cX6_rests 135 = .ok (.if_icmp .ne 41, 3) := by decide +kernel
theorem dX6_rests_138 : decode cX6_rests 138 = .ok (.aload_n 0, 1) := by decide +kernel
theorem dX6_rests_139 : decode cX6_rests 139 = .ok (.getfield 7, 3) := by decide +kernel
theorem dX6_rests_142 : decode cX6_rests 142 = .ok (.iload_n 1, 1) := by decide +kernel
theorem dX6_rests_143 : decode cX6_rests 143 = .ok (.iconst 3, 1) := by decide +kernel
theorem dX6_rests_144 : decode cX6_rests 144 = .ok (.invokestatic 31, 3) := by decide +kernel
theorem dX6_rests_147 : decode cX6_rests 147 = .ok (.iconst 0, 1) := by decide +kernel
theorem dX6_rests_148 : decode cX6_rests 148 = .ok (.iastore, 1) := by decide +kernel
theorem dX6_rests_149 : decode cX6_rests 149 = .ok (.aload_n 0, 1) := by decide +kernel
theorem dX6_rests_150 : decode cX6_rests 150 = .ok (.getfield 7, 3) := by decide +kernel
theorem dX6_rests_153 : decode cX6_rests 153 = .ok (.iload_n 1, 1) := by decide +kernel
theorem dX6_rests_154 : decode cX6_rests 154 = .ok (.bipush 8, 2) := by decide +kernel
theorem dX6_rests_156 : decode cX6_rests 156 = .ok (.invokestatic 31, 3) := by decide +kernel
theorem dX6_rests_159 : decode cX6_rests 159 = .ok (.dup2, 1) := by decide +kernel
theorem dX6_rests_160 : decode cX6_rests 160 = .ok (.iaload, 1) := by decide +kernel
theorem dX6_rests_161 : decode cX6_rests 161 = .ok (.iconst 1, 1) := by decide +kernel
theorem dX6_rests_162 : decode cX6_rests 162 = .ok (.iadd, 1) := by decide +kernel
theorem dX6_rests_163 : decode cX6_rests 163 = .ok (.iastore, 1) := by decide +kernel
theorem dX6_rests_164 : decode cX6_rests 164 = .ok (.aload_n 0, 1) := by decide +kernel
theorem dX6_rests_165 : decode cX6_rests 165 = .ok (.getfield 7, 3) := by decide +kernel
theorem dX6_rests_168 : decode cX6_rests 168 = .ok (.sipush 316, 3) := by decide +kernel
theorem dX6_rests_171 : decode cX6_rests 171 = .ok (.dup2, 1) := by decide +kernel
theorem dX6_rests_172 : decode cX6_rests 172 = .ok (.iaload, 1) := by decide +kernel
theorem dX6_rests_173 : decode cX6_rests 173 = .ok (.iconst 1, 1) := by decide +kernel
theorem dX6_rests_174 : decode cX6_rests 174 = .ok (.iadd, 1) := by decide +kernel
theorem dX6_rests_175 : decode cX6_rests 175 = .ok (.iastore, 1) := by decide +kernel
theorem dX6_rests_176 : decode cX6_rests 176 = .ok (.return_, 1) := by decide +kernel
theorem dX6_hour_0 : decode cX6_hour 0 = .ok (.aload_n 0, 1) := by decide +kernel
theorem dX6_hour_1 : decode cX6_hour 1 = .ok (.invokevirtual 82, 3) := by decide +kernel
theorem dX6_hour_4 : decode cX6_hour 4 = .ok (.istore_n 2, 1) := by decide +kernel
theorem dX6_hour_5 : decode cX6_hour 5 = .ok (.aload_n 0, 1) := by decide +kernel
theorem dX6_hour_6 : decode cX6_hour 6 = .ok (.invokevirtual 86, 3) := by decide +kernel
theorem dX6_hour_9 : decode cX6_hour 9 = .ok (.iconst 0, 1) := by decide +kernel
theorem dX6_hour_10 : decode cX6_hour 10 = .ok (.istore_n 3, 1) := by decide +kernel
theorem dX6_hour_11 : decode cX6_hour 11 = .ok (.iload_n 3, 1) := by decide +kernel
theorem dX6_hour_12 : decode cX6_hour 12 = .ok (.bipush 10, 2) := by decide +kernel
theorem dX6_hour_14 : decode cX6_hour 14 = .ok (.if_icmp .ge 25, 3) := by decide +kernel
theorem dX6_hour_17 : decode cX6_hour 17 = .ok (.aload_n 0, 1) := by decide +kernel
theorem dX6_hour_18 : decode cX6_hour 18 = .ok (.getfield 28, 3) := by decide +kernel
theorem dX6_hour_21 : decode cX6_hour 21 = .ok (.iload_n 3, 1) := by decide +kernel
theorem dX6_hour_22 : decode cX6_hour 22 = .ok (.aload_n 0, 1) := by decide +kernel
theorem dX6_hour_23 : decode cX6_hour 23 = .ok (.getfield 7, 3) := by decide +kernel
theorem dX6_hour_26 : decode cX6_hour 26 = .ok (.iload_n 3, 1) := by decide +kernel
theorem dX6_hour_27 : decode cX6_hour 27 = .ok (.iconst 5, 1) := by decide +kernel
theorem dX6_hour_28 : decode cX6_hour 28 = .ok (.invokestatic 31, 3) := by decide +kernel
theorem dX6_hour_31 : decode cX6_hour 31 = .ok (.iaload, 1) := by decide +kernel
theorem dX6_hour_32 : decode cX6_hour 32 = .ok (.iastore, 1) := by decide +kernel
theorem dX6_hour_33 : decode cX6_hour 33 = .ok (.iinc 3 1, 3) := by decide +kernel
theorem dX6_hour_36 : decode cX6_hour 36 = .ok (.goto (-25), 3) := by decide +kernel
theorem dX6_hour_39 : decode cX6_hour 39 = .ok (.iload_n 1, 1) := by decide +kernel
theorem dX6_hour_40 : decode cX6_hour 40 = .ok (.ifCond .eq 11, 3) := by decide +kernel
theorem dX6_hour_43 : decode cX6_hour 43 = .ok (.aload_n 0, 1) := by decide +kernel
theorem dX6_hour_44 : decode cX6_hour 44 = .ok (.iload_n 2, 1) := by decide +kernel
theorem dX6_hour_45 : decode cX6_hour 45 = .ok (.invokevirtual 89, 3) := by decide +kernel
theorem dX6_hour_48 : decode cX6_hour 48 = .ok (.goto 4, 3) := by decide +kernel
theorem dX6_hour_51 : decode cX6_hour 51 = .ok (.iconst 0, 1) := by decide +kernel
theorem dX6_hour_52 : decode cX6_hour 52 = .ok (.istore_n 3, 1) := by decide +kernel
theorem dX6_hour_53 : decode cX6_hour 53 = .ok (.iconst 0, 1) := by decide +kernel
theorem dX6_hour_54 : decode cX6_hour 54 = .ok (.istore 4, 2) := by decide +kernel
theorem dX6_hour_56 : decode cX6_hour 56 = .ok (.iload 4, 2) := by decide +kernel
theorem dX6_hour_58 : decode cX6_hour 58 = .ok (.bipush 10, 2) := by decide +kernel
theorem dX6_hour_60 : decode cX6_hour 60 = .ok (.if_icmp .ge 16, 3) := by decide +kernel
theorem dX6_hour_63 : decode cX6_hour 63 = .ok (.aload_n 0, 1) := by decide +kernel
theorem dX6_hour_64 : decode cX6_hour 64 = .ok (.iload 4, 2) := by decide +kernel
theorem dX6_hour_66 : decode cX6_hour 66 = .ok (.iload_n 2, 1) := by decide +kernel
theorem dX6_hour_67 : decode cX6_hour 67 = .ok (.invokevirtual 92, 3) := by decide +kernel
theorem dX6_hour_70 : decode cX6_hour 70 = .ok (.iinc 4 1, 3) := by decide +kernel
theorem dX6_hour_73 : decode cX6_hour 73 = .ok (.goto (-17), 3) := by decide +kernel
theorem dX6_hour_76 : decode cX6_hour 76 = .ok (.aload_n 0, 1) := by decide +kernel
theorem dX6_hour_77 : decode cX6_hour 77 = .ok (.getfield 7, 3) := by decide +kernel
theorem dX6_hour_80 : decode cX6_hour 80 = .ok (.iconst 0, 1) := by decide +kernel
theorem dX6_hour_81 : decode cX6_hour 81 = .ok (.dup2, 1) := by decide +kernel
theorem dX6_hour_82 : decode cX6_hour 82 = .ok (.iaload, 1) := by decide +kernel
theorem dX6_hour_83 : decode cX6_hour 83 = .ok (.iconst 1, 1) := by decide +kernel
theorem dX6_hour_84 : decode cX6_hour 84 = .ok (.iadd, 1) := by decide +kernel
theorem dX6_hour_85 : decode cX6_hour 85 = .ok (.iastore, 1) := by decide +kernel
theorem dX6_hour_86 : decode cX6_hour 86 = .ok (.iload_n 3, 1) := by decide +kernel
theorem dX6_hour_87 : decode cX6_hour 87 = .ok (.ireturn, 1) := by decide +kernel
theorem dX6_setHorse_0 : decode cX6_setHorse 0 = .ok (.iload_n 1, 1) := by decide +kernel
theorem dX6_setHorse_1 : decode cX6_setHorse 1 = .ok (.invokestatic 95, 3) := by decide +kernel
theorem dX6_setHorse_4 : decode cX6_setHorse 4 = .ok (.ifCond .ne 5, 3) := by decide +kernel
theorem dX6_setHorse_7 : decode cX6_setHorse 7 = .ok (.iconst (-1), 1) := by decide +kernel
theorem dX6_setHorse_8 : decode cX6_setHorse 8 = .ok (.ireturn, 1) := by decide +kernel
theorem dX6_setHorse_9 : decode cX6_setHorse 9 = .ok (.iload_n 2, 1) := by decide +kernel
theorem dX6_setHorse_10 : decode cX6_setHorse 10 = .ok (.bipush 20, 2) := by decide +kernel
theorem dX6_setHorse_12 : decode cX6_setHorse 12 = .ok (.sipush 150, 3) := by decide +kernel
theorem dX6_setHorse_15 : decode cX6_setHorse 15 = .ok (.invokestatic 38, 3) := by decide +kernel
theorem dX6_setHorse_18 : decode cX6_setHorse 18 = .ok (.ifCond .eq 13, 3) := by decide +kernel
theorem dX6_setHorse_21 : decode cX6_setHorse 21 = .ok (.iload_n 3, 1) := by decide +kernel
theorem dX6_setHorse_22 : decode cX6_setHorse 22 = .ok (.iconst 0, 1) := by decide +kernel
theorem dX6_setHorse_23 : decode cX6_setHorse 23 = .ok (.bipush 9, 2) := by decide +kernel
theorem dX6_setHorse_25 : decode cX6_setHorse 25 = .ok (.invokestatic 38, 3) := by decide +kernel
theorem dX6_setHorse_28 : decode cX6_setHorse 28 = .ok (.ifCond .ne 6, 3) := by decide +kernel
theorem dX6_setHorse_31 : decode cX6_setHorse 31 = .ok (.bipush (-2), 2) := by decide +kernel
theorem dX6_setHorse_33 : decode cX6_setHorse 33 = .ok (.ireturn, 1) := by decide +kernel
theorem dX6_setHorse_34 : decode cX6_setHorse 34 = .ok (.aload_n 0, 1) := by decide +kernel
theorem dX6_setHorse_35 : decode cX6_setHorse 35 = .ok (.getfield 7, 3) := by decide +kernel
theorem dX6_setHorse_38 : decode cX6_setHorse 38 = .ok (.iload_n 1, 1) := by decide +kernel
theorem dX6_setHorse_39 : decode cX6_setHorse 39 = .ok (.iconst 0, 1) := by decide +kernel
theorem dX6_setHorse_40 : decode cX6_setHorse 40 = .ok (.invokestatic 31, 3) := by decide +kernel
theorem dX6_setHorse_43 : decode cX6_setHorse 43 = .ok (.iaload, 1) := by decide +kernel
theorem dX6_setHorse_44 : decode cX6_setHorse 44 = .ok (.istore 4, 2) := by decide +kernel
theorem dX6_setHorse_46 : decode cX6_setHorse 46 = .ok (.iload 4, 2) := by decide +kernel
theorem dX6_setHorse_48 : decode cX6_setHorse 48 = .ok (.iload_n 2, 1) := by decide +kernel
theorem dX6_setHorse_49 : decode cX6_setHorse 49 = .ok (.if_icmp .ne 20, 3) := by decide +kernel
theorem dX6_setHorse_52 : decode cX6_setHorse 52 = .ok (.aload_n 0, 1) := by decide +kernel
theorem dX6_setHorse_53 : decode cX6_setHorse 53 = .ok (.getfield 7, 3) := by decide +kernel
theorem dX6_setHorse_56 : decode cX6_setHorse 56 = .ok (.iload_n 1, 1) := by decide +kernel
theorem dX6_setHorse_57 : decode cX6_setHorse 57 = .ok (.iconst 1, 1) := by decide +kernel
theorem dX6_setHorse_58 : decode cX6_setHorse 58 = .ok (.invokestatic 31, 3) := by decide +kernel
theorem dX6_setHorse_61 : decode cX6_setHorse 61 = .ok (.iaload, 1) := by decide +kernel
theorem dX6_setHorse_62 : decode cX6_setHorse 62 = .ok (.iload_n 3, 1) := by decide +kernel
theorem dX6_setHorse_63 : decode cX6_setHorse 63 = .ok (.if_icmp .ne 6, 3) := by decide +kernel
theorem dX6_setHorse_66 : decode cX6_setHorse 66 = .ok (.bipush (-5), 2) := by decide +kernel
theorem dX6_setHorse_68 : decode cX6_setHorse 68 = .ok (.ireturn, 1) := by decide +kernel
theorem dX6_setHorse_69 : decode cX6_setHorse 69 = .ok (.aload_n 0, 1) := by decide +kernel
theorem dX6_setHorse_70 : decode cX6_setHorse 70 = .ok (.invokevirtual 99, 3) := by decide +kernel
theorem dX6_setHorse_73 : decode cX6_setHorse 73 = .ok (.aload_n 0, 1) := by decide +kernel
theorem dX6_setHorse_74 : decode cX6_setHorse 74 = .ok (.getfield 7, 3) := by decide +kernel
theorem dX6_setHorse_77 : decode cX6_setHorse 77 = .ok (.iload_n 1, 1) := by decide +kernel
theorem dX6_setHorse_78 : decode cX6_setHorse 78 = .ok (.iconst 0, 1) := by decide +kernel
theorem dX6_setHorse_79 : decode cX6_setHorse 79 = .ok (.invokestatic 31, 3) := by decide +kernel
theorem dX6_setHorse_82 : decode cX6_setHorse 82 = .ok (.iload_n 2, 1) := by decide +kernel
theorem dX6_setHorse_83 : decode cX6_setHorse 83 = .ok (.iastore, 1) := by decide +kernel
theorem dX6_setHorse_84 : decode cX6_setHorse 84 = .ok (.aload_n 0, 1) := by decide +kernel
theorem dX6_setHorse_85 : decode cX6_setHorse 85 = .ok (.getfield 7, 3) := by decide +kernel
theorem dX6_setHorse_88 : decode cX6_setHorse 88 = .ok (.iload_n 1, 1) := by decide +kernel
theorem dX6_setHorse_89 : decode cX6_setHorse 89 = .ok (.iconst 1, 1) := by decide +kernel
theorem dX6_setHorse_90 : decode cX6_setHorse 90 = .ok (.invokestatic 31, 3) := by decide +kernel
theorem dX6_setHorse_93 : decode cX6_setHorse 93 = .ok (.iload_n 3, 1) := by decide +kernel
theorem dX6_setHorse_94 : decode cX6_setHorse 94 = .ok (.iastore, 1) := by decide +kernel
theorem dX6_setHorse_95 : decode cX6_setHorse 95 = .ok (.iload 4, 2) := by decide +kernel
theorem dX6_setHorse_97 : decode cX6_setHorse 97 = .ok (.ireturn, 1) := by decide +kernel
theorem dX6_setRider_0 : decode cX6_setRider 0 = .ok (.iload_n 1, 1) := by decide +kernel
theorem dX6_setRider_1 : decode cX6_setRider 1 = .ok (.invokestatic 102, 3) := by decide +kernel
theorem dX6_setRider_4 : decode cX6_setRider 4 = .ok (.ifCond .ne 5, 3) := by decide +kernel
theorem dX6_setRider_7 : decode cX6_setRider 7 = .ok (.iconst (-1), 1) := by decide +kernel
theorem dX6_setRider_8 : decode cX6_setRider 8 = .ok (.ireturn, 1) := by decide +kernel
theorem dX6_setRider_9 : decode cX6_setRider 9 = .ok (.iload_n 2, 1) := by decide +kernel
theorem dX6_setRider_10 : decode cX6_setRider 10 = .ok (.bipush 20, 2) := by decide +kernel
theorem dX6_setRider_12 : decode cX6_setRider 12 = .ok (.sipush 150, 3) := by decide +kernel
theorem dX6_setRider_15 : decode cX6_setRider 15 = .ok (.invokestatic 38, 3) := by decide +kernel
theorem dX6_setRider_18 : decode cX6_setRider 18 = .ok (.ifCond .eq 13, 3) := by decide +kernel
theorem dX6_setRider_21 : decode cX6_setRider 21 = .ok (.iload_n 3, 1) := by decide +kernel
theorem dX6_setRider_22 : decode cX6_setRider 22 = .ok (.iconst 0, 1) := by decide +kernel
theorem dX6_setRider_23 : decode cX6_setRider 23 = .ok (.bipush 9, 2) := by decide +kernel
theorem dX6_setRider_25 : decode cX6_setRider 25 = .ok (.invokestatic 38, 3) := by decide +kernel
theorem dX6_setRider_28 : decode cX6_setRider 28 = .ok (.ifCond .ne 6, 3) := by decide +kernel
theorem dX6_setRider_31 : decode cX6_setRider 31 = .ok (.bipush (-2), 2) := by decide +kernel
theorem dX6_setRider_33 : decode cX6_setRider 33 = .ok (.ireturn, 1) := by decide +kernel
theorem dX6_setRider_34 : decode cX6_setRider 34 = .ok (.aload_n 0, 1) := by decide +kernel
theorem dX6_setRider_35 : decode cX6_setRider 35 = .ok (.invokevirtual 99, 3) := by decide +kernel
theorem dX6_setRider_38 : decode cX6_setRider 38 = .ok (.aload_n 0, 1) := by decide +kernel
theorem dX6_setRider_39 : decode cX6_setRider 39 = .ok (.getfield 7, 3) := by decide +kernel
theorem dX6_setRider_42 : decode cX6_setRider 42 = .ok (.iload_n 1, 1) := by decide +kernel
theorem dX6_setRider_43 : decode cX6_setRider 43 = .ok (.iconst 0, 1) := by decide +kernel
theorem dX6_setRider_44 : decode cX6_setRider 44 = .ok (.invokestatic 35, 3) := by decide +kernel
theorem dX6_setRider_47 : decode cX6_setRider 47 = .ok (.iaload, 1) := by decide +kernel
theorem dX6_setRider_48 : decode cX6_setRider 48 = .ok (.istore 4, 2) := by decide +kernel
theorem dX6_setRider_50 : decode cX6_setRider 50 = .ok (.aload_n 0, 1) := by decide +kernel
theorem dX6_setRider_51 : decode cX6_setRider 51 = .ok (.getfield 7, 3) := by decide +kernel
theorem dX6_setRider_54 : decode cX6_setRider 54 = .ok (.iload_n 1, 1) := by decide +kernel
theorem dX6_setRider_55 : decode cX6_setRider 55 = .ok (.iconst 0, 1) := by decide +kernel
theorem dX6_setRider_56 : decode cX6_setRider 56 = .ok (.invokestatic 35, 3) := by decide +kernel
theorem dX6_setRider_59 : decode cX6_setRider 59 = .ok (.iload_n 2, 1) := by decide +kernel
theorem dX6_setRider_60 : decode cX6_setRider 60 = .ok (.iastore, 1) := by decide +kernel
theorem dX6_setRider_61 : decode cX6_setRider 61 = .ok (.aload_n 0, 1) := by decide +kernel
theorem dX6_setRider_62 : decode cX6_setRider 62 = .ok (.getfield 7, 3) := by decide +kernel
end
section
theorem dX6_setRider_65 : decode cX6_setRider 65 = .ok (.iload_n 1, 1) := by decide +kernel
theorem dX6_setRider_66 : decode cX6_setRider 66 = .ok (.iconst 1, 1) := by decide +kernel
theorem dX6_setRider_67 : decode cX6_setRider 67 = .ok (.invokestatic 35, 3) := by decide +kernel
theorem dX6_setRider_70 : decode cX6_setRider 70 = .ok (.iload_n 3, 1) := by decide +kernel
theorem dX6_setRider_71 : decode cX6_setRider 71 = .ok (.iastore, 1) := by decide +kernel
theorem dX6_setRider_72 : decode cX6_setRider 72 = .ok (.aload_n 0, 1) := by decide +kernel
theorem dX6_setRider_73 : decode cX6_setRider 73 = .ok (.getfield 7, 3) := by decide +kernel
theorem dX6_setRider_76 : decode cX6_setRider 76 = .ok (.iload_n 1, 1) := by decide +kernel
theorem dX6_setRider_77 : decode cX6_setRider 77 = .ok (.iconst 2, 1) := by decide +kernel
theorem dX6_setRider_78 : decode cX6_setRider 78 = .ok (.invokestatic 35, 3) := by decide +kernel
theorem dX6_setRider_81 : decode cX6_setRider 81 = .ok (.iconst 0, 1) := by decide +kernel
theorem dX6_setRider_82 : decode cX6_setRider 82 = .ok (.iastore, 1) := by decide +kernel
theorem dX6_setRider_83 : decode cX6_setRider 83 = .ok (.aload_n 0, 1) := by decide +kernel
theorem dX6_setRider_84 : decode cX6_setRider 84 = .ok (.getfield 7, 3) := by decide +kernel
theorem dX6_setRider_87 : decode cX6_setRider 87 = .ok (.iload_n 1, 1) := by decide +kernel
theorem dX6_setRider_88 : decode cX6_setRider 88 = .ok (.iconst 3, 1) := by decide +kernel
theorem dX6_setRider_89 : decode cX6_setRider 89 = .ok (.invokestatic 35, 3) := by decide +kernel
theorem dX6_setRider_92 : decode cX6_setRider 92 = .ok (.iconst 0, 1) := by decide +kernel
theorem dX6_setRider_93 : decode cX6_setRider 93 = .ok (.iastore, 1) := by decide +kernel
theorem dX6_setRider_94 : decode cX6_setRider 94 = .ok (.iload 4, 2) := by decide +kernel
theorem dX6_setRider_96 : decode cX6_setRider 96 = .ok (.ireturn, 1) := by decide +kernel
theorem dX6_least_0 : decode cX6_least 0 = .ok (.iload_n 0, 1) := by decide +kernel
theorem dX6_least_1 : decode cX6_least 1 = .ok (.iconst 2, 1) := by decide +kernel
theorem dX6_least_2 : decode cX6_least 2 = .ok (.if_icmp .ne 7, 3) := by decide +kernel
theorem dX6_least_5 : decode cX6_least 5 = .ok (.iconst 0, 1) := by decide +kernel
theorem dX6_least_6 : decode cX6_least 6 = .ok (.goto 4, 3) := by decide +kernel
theorem dX6_least_9 : decode cX6_least 9 = .ok (.iconst 1, 1) := by decide +kernel
theorem dX6_least_10 : decode cX6_least 10 = .ok (.ireturn, 1) := by decide +kernel
theorem dX6_most_0 : decode cX6_most 0 = .ok (.iload_n 0, 1) := by decide +kernel
theorem dX6_most_1 : decode cX6_most 1 = .ok (.ifCond .eq 8, 3) := by decide +kernel
theorem dX6_most_4 : decode cX6_most 4 = .ok (.iload_n 0, 1) := by decide +kernel
theorem dX6_most_5 : decode cX6_most 5 = .ok (.iconst 4, 1) := by decide +kernel
theorem dX6_most_6 : decode cX6_most 6 = .ok (.if_icmp .ne 8, 3) := by decide +kernel
theorem dX6_most_9 : decode cX6_most 9 = .ok (.bipush 9, 2) := by decide +kernel
theorem dX6_most_11 : decode cX6_most 11 = .ok (.goto 15, 3) := by decide +kernel
theorem dX6_most_14 : decode cX6_most 14 = .ok (.iload_n 0, 1) := by decide +kernel
theorem dX6_most_15 : decode cX6_most 15 = .ok (.iconst 2, 1) := by decide +kernel
theorem dX6_most_16 : decode cX6_most 16 = .ok (.if_icmp .ne 8, 3) := by decide +kernel
theorem dX6_most_19 : decode cX6_most 19 = .ok (.bipush 50, 2) := by decide +kernel
theorem dX6_most_21 : decode cX6_most 21 = .ok (.goto 5, 3) := by decide +kernel
theorem dX6_most_24 : decode cX6_most 24 = .ok (.bipush 99, 2) := by decide +kernel
theorem dX6_most_26 : decode cX6_most 26 = .ok (.ireturn, 1) := by decide +kernel
theorem dX6_set_0 : decode cX6_set 0 = .ok (.iload_n 1, 1) := by decide +kernel
theorem dX6_set_1 : decode cX6_set 1 = .ok (.iconst 0, 1) := by decide +kernel
theorem dX6_set_2 : decode cX6_set 2 = .ok (.iconst 4, 1) := by decide +kernel
theorem dX6_set_3 : decode cX6_set 3 = .ok (.invokestatic 38, 3) := by decide +kernel
theorem dX6_set_6 : decode cX6_set 6 = .ok (.ifCond .ne 5, 3) := by decide +kernel
theorem dX6_set_9 : decode cX6_set 9 = .ok (.iconst (-1), 1) := by decide +kernel
theorem dX6_set_10 : decode cX6_set 10 = .ok (.ireturn, 1) := by decide +kernel
theorem dX6_set_11 : decode cX6_set 11 = .ok (.iload_n 2, 1) := by decide +kernel
theorem dX6_set_12 : decode cX6_set 12 = .ok (.iload_n 1, 1) := by decide +kernel
theorem dX6_set_13 : decode cX6_set 13 = .ok (.invokestatic 105, 3) := by decide +kernel
theorem dX6_set_16 : decode cX6_set 16 = .ok (.iload_n 1, 1) := by decide +kernel
theorem dX6_set_17 : decode cX6_set 17 = .ok (.invokestatic 108, 3) := by decide +kernel
theorem dX6_set_20 : decode cX6_set 20 = .ok (.invokestatic 38, 3) := by decide +kernel
theorem dX6_set_23 : decode cX6_set 23 = .ok (.ifCond .ne 6, 3) := by decide +kernel
theorem dX6_set_26 : decode cX6_set 26 = .ok (.bipush (-2), 2) := by decide +kernel
theorem dX6_set_28 : decode cX6_set 28 = .ok (.ireturn, 1) := by decide +kernel
theorem dX6_set_29 : decode cX6_set 29 = .ok (.aload_n 0, 1) := by decide +kernel
theorem dX6_set_30 : decode cX6_set 30 = .ok (.getfield 7, 3) := by decide +kernel
theorem dX6_set_33 : decode cX6_set 33 = .ok (.sipush 187, 3) := by decide +kernel
theorem dX6_set_36 : decode cX6_set 36 = .ok (.iload_n 1, 1) := by decide +kernel
theorem dX6_set_37 : decode cX6_set 37 = .ok (.iadd, 1) := by decide +kernel
theorem dX6_set_38 : decode cX6_set 38 = .ok (.iaload, 1) := by decide +kernel
theorem dX6_set_39 : decode cX6_set 39 = .ok (.istore_n 3, 1) := by decide +kernel
theorem dX6_set_40 : decode cX6_set 40 = .ok (.iload_n 3, 1) := by decide +kernel
theorem dX6_set_41 : decode cX6_set 41 = .ok (.iload_n 2, 1) := by decide +kernel
theorem dX6_set_42 : decode cX6_set 42 = .ok (.if_icmp .ne 6, 3) := by decide +kernel
theorem dX6_set_45 : decode cX6_set 45 = .ok (.bipush (-5), 2) := by decide +kernel
theorem dX6_set_47 : decode cX6_set 47 = .ok (.ireturn, 1) := by decide +kernel
theorem dX6_set_48 : decode cX6_set 48 = .ok (.aload_n 0, 1) := by decide +kernel
theorem dX6_set_49 : decode cX6_set 49 = .ok (.invokevirtual 99, 3) := by decide +kernel
theorem dX6_set_52 : decode cX6_set 52 = .ok (.aload_n 0, 1) := by decide +kernel
theorem dX6_set_53 : decode cX6_set 53 = .ok (.getfield 7, 3) := by decide +kernel
theorem dX6_set_56 : decode cX6_set 56 = .ok (.sipush 187, 3) := by decide +kernel
theorem dX6_set_59 : decode cX6_set 59 = .ok (.iload_n 1, 1) := by decide +kernel
theorem dX6_set_60 : decode cX6_set 60 = .ok (.iadd, 1) := by decide +kernel
theorem dX6_set_61 : decode cX6_set 61 = .ok (.iload_n 2, 1) := by decide +kernel
theorem dX6_set_62 : decode cX6_set 62 = .ok (.iastore, 1) := by decide +kernel
theorem dX6_set_63 : decode cX6_set 63 = .ok (.iload_n 3, 1) := by decide +kernel
theorem dX6_set_64 : decode cX6_set 64 = .ok (.ireturn, 1) := by decide +kernel
theorem dX6_bookingOf_0 : decode cX6_bookingOf 0 = .ok (.bipush (-5), 2) := by decide +kernel
theorem dX6_bookingOf_2 : decode cX6_bookingOf 2 = .ok (.istore_n 3, 1) := by decide +kernel
theorem dX6_bookingOf_3 : decode cX6_bookingOf 3 = .ok (.iconst 0, 1) := by decide +kernel
theorem dX6_bookingOf_4 : decode cX6_bookingOf 4 = .ok (.istore 4, 2) := by decide +kernel
theorem dX6_bookingOf_6 : decode cX6_bookingOf 6 = .ok (.iload 4, 2) := by decide +kernel
theorem dX6_bookingOf_8 : decode cX6_bookingOf 8 = .ok (.aload_n 0, 1) := by decide +kernel
theorem dX6_bookingOf_9 : decode cX6_bookingOf 9 = .ok (.getfield 7, 3) := by decide +kernel
theorem dX6_bookingOf_12 : decode cX6_bookingOf 12 = .ok (.sipush 192, 3) := by decide +kernel
theorem dX6_bookingOf_15 : decode cX6_bookingOf 15 = .ok (.iaload, 1) := by decide +kernel
theorem dX6_bookingOf_16 : decode cX6_bookingOf 16 = .ok (.if_icmp .ge 58, 3) := by decide +kernel
theorem dX6_bookingOf_19 : decode cX6_bookingOf 19 = .ok (.aload_n 0, 1) := by decide +kernel
theorem dX6_bookingOf_20 : decode cX6_bookingOf 20 = .ok (.getfield 7, 3) := by decide +kernel
theorem dX6_bookingOf_23 : decode cX6_bookingOf 23 = .ok (.iload 4, 2) := by decide +kernel
theorem dX6_bookingOf_25 : decode cX6_bookingOf 25 = .ok (.iconst 0, 1) := by decide +kernel
theorem dX6_bookingOf_26 : decode cX6_bookingOf 26 = .ok (.invokestatic 75, 3) := by decide +kernel
theorem dX6_bookingOf_29 : decode cX6_bookingOf 29 = .ok (.iaload, 1) := by decide +kernel
theorem dX6_bookingOf_30 : decode cX6_bookingOf 30 = .ok (.iload_n 1, 1) := by decide +kernel
theorem dX6_bookingOf_31 : decode cX6_bookingOf 31 = .ok (.if_icmp .ne 22, 3) := by decide +kernel
theorem dX6_bookingOf_34 : decode cX6_bookingOf 34 = .ok (.aload_n 0, 1) := by decide +kernel
theorem dX6_bookingOf_35 : decode cX6_bookingOf 35 = .ok (.getfield 7, 3) := by decide +kernel
theorem dX6_bookingOf_38 : decode cX6_bookingOf 38 = .ok (.iload 4, 2) := by decide +kernel
theorem dX6_bookingOf_40 : decode cX6_bookingOf 40 = .ok (.iconst 2, 1) := by decide +kernel
theorem dX6_bookingOf_41 : decode cX6_bookingOf 41 = .ok (.invokestatic 75, 3) := by decide +kernel
theorem dX6_bookingOf_44 : decode cX6_bookingOf 44 = .ok (.iaload, 1) := by decide +kernel
theorem dX6_bookingOf_45 : decode cX6_bookingOf 45 = .ok (.iload_n 2, 1) := by decide +kernel
theorem dX6_bookingOf_46 : decode cX6_bookingOf 46 = .ok (.if_icmp .ne 7, 3) := by decide +kernel
theorem dX6_bookingOf_49 : decode cX6_bookingOf 49 = .ok (.iconst 1, 1) := by decide +kernel
theorem dX6_bookingOf_50 : decode cX6_bookingOf 50 = .ok (.goto 4, 3) := by decide +kernel
theorem dX6_bookingOf_53 : decode cX6_bookingOf 53 = .ok (.iconst 0, 1) := by decide +kernel
theorem dX6_bookingOf_54 : decode cX6_bookingOf 54 = .ok (.istore 5, 2) := by decide +kernel
theorem dX6_bookingOf_56 : decode cX6_bookingOf 56 = .ok (.iload 5, 2) := by decide +kernel
theorem dX6_bookingOf_58 : decode cX6_bookingOf 58 = .ok (.ifCond .eq 8, 3) := by decide +kernel
theorem dX6_bookingOf_61 : decode cX6_bookingOf 61 = .ok (.iload 4, 2) := by decide +kernel
theorem dX6_bookingOf_63 : decode cX6_bookingOf 63 = .ok (.goto 4, 3) := by decide +kernel
theorem dX6_bookingOf_66 : decode cX6_bookingOf 66 = .ok (.iload_n 3, 1) := by decide +kernel
theorem dX6_bookingOf_67 : decode cX6_bookingOf 67 = .ok (.istore_n 3, 1) := by decide +kernel
theorem dX6_bookingOf_68 : decode cX6_bookingOf 68 = .ok (.iinc 4 1, 3) := by decide +kernel
theorem dX6_bookingOf_71 : decode cX6_bookingOf 71 = .ok (.goto (-65), 3) := by decide +kernel
theorem dX6_bookingOf_74 : decode cX6_bookingOf 74 = .ok (.iload_n 3, 1) := by decide +kernel
theorem dX6_bookingOf_75 : decode cX6_bookingOf 75 = .ok (.ireturn, 1) := by decide +kernel
theorem dX6_bookedFor_0 : decode cX6_bookedFor 0 = .ok (.iconst 0, 1) := by decide +kernel
theorem dX6_bookedFor_1 : decode cX6_bookedFor 1 = .ok (.istore_n 3, 1) := by decide +kernel
theorem dX6_bookedFor_2 : decode cX6_bookedFor 2 = .ok (.iconst 0, 1) := by decide +kernel
theorem dX6_bookedFor_3 : decode cX6_bookedFor 3 = .ok (.istore 4, 2) := by decide +kernel
theorem dX6_bookedFor_5 : decode cX6_bookedFor 5 = .ok (.iload 4, 2) := by decide +kernel
theorem dX6_bookedFor_7 : decode cX6_bookedFor 7 = .ok (.aload_n 0, 1) := by decide +kernel
theorem dX6_bookedFor_8 : decode cX6_bookedFor 8 = .ok (.getfield 7, 3) := by decide +kernel
theorem dX6_bookedFor_11 : decode cX6_bookedFor 11 = .ok (.sipush 192, 3) := by decide +kernel
theorem dX6_bookedFor_14 : decode cX6_bookedFor 14 = .ok (.iaload, 1) := by decide +kernel
theorem dX6_bookedFor_15 : decode cX6_bookedFor 15 = .ok (.if_icmp .ge 47, 3) := by decide +kernel
theorem dX6_bookedFor_18 : decode cX6_bookedFor 18 = .ok (.iload_n 3, 1) := by decide +kernel
theorem dX6_bookedFor_19 : decode cX6_bookedFor 19 = .ok (.aload_n 0, 1) := by decide +kernel
theorem dX6_bookedFor_20 : decode cX6_bookedFor 20 = .ok (.getfield 7, 3) := by decide +kernel
theorem dX6_bookedFor_23 : decode cX6_bookedFor 23 = .ok (.iload 4, 2) := by decide +kernel
theorem dX6_bookedFor_25 : decode cX6_bookedFor 25 = .ok (.iconst 0, 1) := by decide +kernel
theorem dX6_bookedFor_26 : decode cX6_bookedFor 26 = .ok (.invokestatic 75, 3) := by decide +kernel
theorem dX6_bookedFor_29 : decode cX6_bookedFor 29 = .ok (.iaload, 1) := by decide +kernel
theorem dX6_bookedFor_30 : decode cX6_bookedFor 30 = .ok (.iload_n 1, 1) := by decide +kernel
theorem dX6_bookedFor_31 : decode cX6_bookedFor 31 = .ok (.if_icmp .ne 22, 3) := by decide +kernel
theorem dX6_bookedFor_34 : decode cX6_bookedFor 34 = .ok (.aload_n 0, 1) := by decide +kernel
theorem dX6_bookedFor_35 : decode cX6_bookedFor 35 = .ok (.getfield 7, 3) := by decide +kernel
theorem dX6_bookedFor_38 : decode cX6_bookedFor 38 = .ok (.iload 4, 2) := by decide +kernel
theorem dX6_bookedFor_40 : decode cX6_bookedFor 40 = .ok (.iconst 1, 1) := by decide +kernel
theorem dX6_bookedFor_41 : decode cX6_bookedFor 41 = .ok (.invokestatic 75, 3) := by decide +kernel
theorem dX6_bookedFor_44 : decode cX6_bookedFor 44 = .ok (.iaload, 1) := by decide +kernel
theorem dX6_bookedFor_45 : decode cX6_bookedFor 45 = .ok (.iload_n 2, 1) := by decide +kernel
theorem dX6_bookedFor_46 : decode cX6_bookedFor 46 = .ok (.if_icmp .ne 7, 3) := by decide +kernel
theorem dX6_bookedFor_49 : decode cX6_bookedFor 49 = .ok (.iconst 1, 1) := by decide +kernel
theorem dX6_bookedFor_50 : decode cX6_bookedFor 50 = .ok (.goto 4, 3) := by decide +kernel
theorem dX6_bookedFor_53 : decode cX6_bookedFor 53 = .ok (.iconst 0, 1) := by decide +kernel
theorem dX6_bookedFor_54 : decode cX6_bookedFor 54 = .ok (.iadd, 1) := by decide +kernel
theorem dX6_bookedFor_55 : decode cX6_bookedFor 55 = .ok (.istore_n 3, 1) := by decide +kernel
theorem dX6_bookedFor_56 : decode cX6_bookedFor 56 = .ok (.iinc 4 1, 3) := by decide +kernel
theorem dX6_bookedFor_59 : decode cX6_bookedFor 59 = .ok (.goto (-54), 3) := by decide +kernel
theorem dX6_bookedFor_62 : decode cX6_bookedFor 62 = .ok (.iload_n 3, 1) := by decide +kernel
theorem dX6_bookedFor_63 : decode cX6_bookedFor 63 = .ok (.ireturn, 1) := by decide +kernel
theorem dX6_books_0 : decode cX6_books 0 = .ok (.iload_n 2, 1) := by decide +kernel
theorem dX6_books_1 : decode cX6_books 1 = .ok (.invokestatic 111, 3) := by decide +kernel
theorem dX6_books_4 : decode cX6_books 4 = .ok (.ifCond .eq 10, 3) := by decide +kernel
theorem dX6_books_7 : decode cX6_books 7 = .ok (.iload_n 3, 1) := by decide +kernel
theorem dX6_books_8 : decode cX6_books 8 = .ok (.invokestatic 102, 3) := by decide +kernel
theorem dX6_books_11 : decode cX6_books 11 = .ok (.ifCond .ne 5, 3) := by decide +kernel
theorem dX6_books_14 : decode cX6_books 14 = .ok (.iconst (-1), 1) := by decide +kernel
theorem dX6_books_15 : decode cX6_books 15 = .ok (.ireturn, 1) := by decide +kernel
theorem dX6_books_16 : decode cX6_books 16 = .ok (.iload_n 1, 1) := by decide +kernel
theorem dX6_books_17 : decode cX6_books 17 = .ok (.invokestatic 114, 3) := by decide +kernel
theorem dX6_books_20 : decode cX6_books 20 = .ok (.ifCond .ne 6, 3) := by decide +kernel
theorem dX6_books_23 : decode cX6_books 23 = .ok (.bipush (-2), 2) := by decide +kernel
theorem dX6_books_25 : decode cX6_books 25 = .ok (.ireturn, 1) := by decide +kernel
theorem dX6_books_26 : decode cX6_books 26 = .ok (.aload_n 0, 1) := by decide +kernel
theorem dX6_books_27 : decode cX6_books 27 = .ok (.getfield 7, 3) := by decide +kernel
theorem dX6_books_30 : decode cX6_books 30 = .ok (.iconst 0, 1) := by decide +kernel
theorem dX6_books_31 : decode cX6_books 31 = .ok (.iaload, 1) := by decide +kernel
theorem dX6_books_32 : decode cX6_books 32 = .ok (.iload_n 1, 1) := by decide +kernel
theorem dX6_books_33 : decode cX6_books 33 = .ok (.iadd, 1) := by decide +kernel
theorem dX6_books_34 : decode cX6_books 34 = .ok (.istore 4, 2) := by decide +kernel
theorem dX6_books_36 : decode cX6_books 36 = .ok (.aload_n 0, 1) := by decide +kernel
theorem dX6_books_37 : decode cX6_books 37 = .ok (.iload 4, 2) := by decide +kernel
theorem dX6_books_39 : decode cX6_books 39 = .ok (.iload_n 3, 1) := by decide +kernel
theorem dX6_books_40 : decode cX6_books 40 = .ok (.invokevirtual 117, 3) := by decide +kernel
theorem dX6_books_43 : decode cX6_books 43 = .ok (.bipush (-5), 2) := by decide +kernel
theorem dX6_books_45 : decode cX6_books 45 = .ok (.if_icmp .eq 6, 3) := by decide +kernel
theorem dX6_books_48 : decode cX6_books 48 = .ok (.bipush (-4), 2) := by decide +kernel
theorem dX6_books_50 : decode cX6_books 50 = .ok (.ireturn, 1) := by decide +kernel
theorem dX6_books_51 : decode cX6_books 51 = .ok (.aload_n 0, 1) := by decide +kernel
theorem dX6_books_52 : decode cX6_books 52 = .ok (.iload 4, 2) := by decide +kernel
theorem dX6_books_54 : decode cX6_books 54 = .ok (.iload_n 2, 1) := by decide +kernel
theorem dX6_books_55 : decode cX6_books 55 = .ok (.invokevirtual 120, 3) := by decide +kernel
theorem dX6_books_58 : decode cX6_books 58 = .ok (.istore 5, 2) := by decide +kernel
theorem dX6_books_60 : decode cX6_books 60 = .ok (.iload 5, 2) := by decide +kernel
theorem dX6_books_62 : decode cX6_books 62 = .ok (.iconst 4, 1) := by decide +kernel
theorem dX6_books_63 : decode cX6_books 63 = .ok (.iload_n 2, 1) := by decide +kernel
theorem dX6_books_64 : decode cX6_books 64 = .ok (.isub, 1) := by decide +kernel
theorem dX6_books_65 : decode cX6_books 65 = .ok (.if_icmp .eq 16, 3) := by decide +kernel
theorem dX6_books_68 : decode cX6_books 68 = .ok (.aload_n 0, 1) := by decide +kernel
theorem dX6_books_69 : decode cX6_books 69 = .ok (.getfield 7, 3) := by decide +kernel
theorem dX6_books_72 : decode cX6_books 72 = .ok (.sipush 192, 3) := by decide +kernel
theorem dX6_books_75 : decode cX6_books 75 = .ok (.iaload, 1) := by decide +kernel
theorem dX6_books_76 : decode cX6_books 76 = .ok (.bipush 40, 2) := by decide +kernel
theorem dX6_books_78 : decode cX6_books 78 = .ok (.if_icmp .ne 6, 3) := by decide +kernel
theorem dX6_books_81 : decode cX6_books 81 = .ok (.bipush (-3), 2) := by decide +kernel
theorem dX6_books_83 : decode cX6_books 83 = .ok (.ireturn, 1) := by decide +kernel
theorem dX6_books_84 : decode cX6_books 84 = .ok (.aload_n 0, 1) := by decide +kernel
theorem dX6_books_85 : decode cX6_books 85 = .ok (.getfield 7, 3) := by decide +kernel
theorem dX6_books_88 : decode cX6_books 88 = .ok (.aload_n 0, 1) := by decide +kernel
theorem dX6_books_89 : decode cX6_books 89 = .ok (.getfield 7, 3) := by decide +kernel
theorem dX6_books_92 : decode cX6_books 92 = .ok (.sipush 192, 3) := by decide +kernel
theorem dX6_books_95 : decode cX6_books 95 = .ok (.iaload, 1) := by decide +kernel
theorem dX6_books_96 : decode cX6_books 96 = .ok (.iconst 0, 1) := by decide +kernel
theorem dX6_books_97 : decode cX6_books 97 = .ok (.invokestatic 75, 3) := by decide +kernel
theorem dX6_books_100 : decode cX6_books 100 = .ok (.iload 4, 2) := by decide +kernel
theorem dX6_books_102 : decode cX6_books 102 = .ok (.iastore, 1) := by decide +kernel
theorem dX6_books_103 : decode cX6_books 103 = .ok (.aload_n 0, 1) := by decide +kernel
theorem dX6_books_104 : decode cX6_books 104 = .ok (.getfield 7, 3) := by decide +kernel
theorem dX6_books_107 : decode cX6_books 107 = .ok (.aload_n 0, 1) := by decide +kernel
theorem dX6_books_108 : decode cX6_books 108 = .ok (.getfield 7, 3) := by decide +kernel
theorem dX6_books_111 : decode cX6_books 111 = .ok (.sipush 192, 3) := by decide +kernel
theorem dX6_books_114 : decode cX6_books 114 = .ok (.iaload, 1) := by decide +kernel
theorem dX6_books_115 : decode cX6_books 115 = .ok (.iconst 1, 1) := by decide +kernel
theorem dX6_books_116 : decode cX6_books 116 = .ok (.invokestatic 75, 3) := by decide +kernel
theorem dX6_books_119 : decode cX6_books 119 = .ok (.iload_n 2, 1) := by decide +kernel
theorem dX6_books_120 : decode cX6_books 120 = .ok (.iastore, 1) := by decide +kernel
theorem dX6_books_121 : decode cX6_books 121 = .ok (.aload_n 0, 1) := by decide +kernel
theorem dX6_books_122 : decode cX6_books 122 = .ok (.getfield 7, 3) := by decide +kernel
theorem dX6_books_125 : decode cX6_books 125 = .ok (.aload_n 0, 1) := by decide +kernel
theorem dX6_books_126 : decode cX6_books 126 = .ok (.getfield 7, 3) := by decide +kernel
theorem dX6_books_129 : decode cX6_books 129 = .ok (.sipush 192, 3) := by decide +kernel
theorem dX6_books_132 : decode cX6_books 132 = .ok (.iaload, 1) := by decide +kernel
theorem dX6_books_133 : decode cX6_books 133 = .ok (.iconst 2, 1) := by decide +kernel
theorem dX6_books_134 : decode cX6_books 134 = .ok (.invokestatic 75, 3) := by decide +kernel
theorem dX6_books_137 : decode cX6_books 137 = .ok (.iload_n 3, 1) := by decide +kernel
theorem dX6_books_138 : decode cX6_books 138 = .ok (.iastore, 1) := by decide +kernel
theorem dX6_books_139 : decode cX6_books 139 = .ok (.aload_n 0, 1) := by decide +kernel
theorem dX6_books_140 : decode cX6_books 140 = .ok (.getfield 7, 3) := by decide +kernel
theorem dX6_books_143 : decode cX6_books 143 = .ok (.sipush 192, 3) := by decide +kernel
theorem dX6_books_146 : decode cX6_books 146 = .ok (.dup2, 1) := by decide +kernel
theorem dX6_books_147 : decode cX6_books 147 = .ok (.iaload, 1) := by decide +kernel
theorem dX6_books_148 : decode cX6_books 148 = .ok (.iconst 1, 1) := by decide +kernel
theorem dX6_books_149 : decode cX6_books 149 = .ok (.iadd, 1) := by decide +kernel
theorem dX6_books_150 : decode cX6_books 150 = .ok (.iastore, 1) := by decide +kernel
theorem dX6_books_151 : decode cX6_books 151 = .ok (.iload 5, 2) := by decide +kernel
theorem dX6_books_153 : decode cX6_books 153 = .ok (.iconst 1, 1) := by decide +kernel
theorem dX6_books_154 : decode cX6_books 154 = .ok (.iadd, 1) := by decide +kernel
theorem dX6_books_155 : decode cX6_books 155 = .ok (.ireturn, 1) := by decide +kernel
theorem dX6_book_0 : decode cX6_book 0 = .ok (.aload_n 0, 1) := by decide +kernel
theorem dX6_book_1 : decode cX6_book 1 = .ok (.invokevirtual 123, 3) := by decide +kernel
theorem dX6_book_4 : decode cX6_book 4 = .ok (.aload_n 0, 1) := by decide +kernel
theorem dX6_book_5 : decode cX6_book 5 = .ok (.iload_n 1, 1) := by decide +kernel
theorem dX6_book_6 : decode cX6_book 6 = .ok (.iload_n 2, 1) := by decide +kernel
theorem dX6_book_7 : decode cX6_book 7 = .ok (.iload_n 3, 1) := by decide +kernel
theorem dX6_book_8 : decode cX6_book 8 = .ok (.invokevirtual 126, 3) := by decide +kernel
theorem dX6_book_11 : decode cX6_book 11 = .ok (.istore 4, 2) := by decide +kernel
theorem dX6_book_13 : decode cX6_book 13 = .ok (.iload 4, 2) := by decide +kernel
theorem dX6_book_15 : decode cX6_book 15 = .ok (.ifCond .le 7, 3) := by decide +kernel
theorem dX6_book_18 : decode cX6_book 18 = .ok (.aload_n 0, 1) := by decide +kernel
theorem dX6_book_19 : decode cX6_book 19 = .ok (.invokevirtual 129, 3) := by decide +kernel
theorem dX6_book_22 : decode cX6_book 22 = .ok (.iload 4, 2) := by decide +kernel
theorem dX6_book_24 : decode cX6_book 24 = .ok (.ireturn, 1) := by decide +kernel
theorem dX6_recordAside_0 : decode cX6_recordAside 0 = .ok (.aload_n 0, 1) := by decide +kernel
theorem dX6_recordAside_1 : decode cX6_recordAside 1 = .ok (.invokevirtual 99, 3) := by decide +kernel
theorem dX6_recordAside_4 : decode cX6_recordAside 4 = .ok (.iconst 0, 1) := by decide +kernel
theorem dX6_recordAside_5 : decode cX6_recordAside 5 = .ok (.istore_n 1, 1) := by decide +kernel
theorem dX6_recordAside_6 : decode cX6_recordAside 6 = .ok (.iload_n 1, 1) := by decide +kernel
theorem dX6_recordAside_7 : decode cX6_recordAside 7 = .ok (.sipush 378, 3) := by decide +kernel
theorem dX6_recordAside_10 : decode cX6_recordAside 10 = .ok (.if_icmp .ge 32, 3) := by decide +kernel
theorem dX6_recordAside_13 : decode cX6_recordAside 13 = .ok (.aload_n 0, 1) := by decide +kernel
theorem dX6_recordAside_14 : decode cX6_recordAside 14 = .ok (.getfield 16, 3) := by decide +kernel
theorem dX6_recordAside_17 : decode cX6_recordAside 17 = .ok (.sipush 378, 3) := by decide +kernel
theorem dX6_recordAside_20 : decode cX6_recordAside 20 = .ok (.aload_n 0, 1) := by decide +kernel
theorem dX6_recordAside_21 : decode cX6_recordAside 21 = .ok (.getfield 42, 3) := by decide +kernel
theorem dX6_recordAside_24 : decode cX6_recordAside 24 = .ok (.iconst 1, 1) := by decide +kernel
theorem dX6_recordAside_25 : decode cX6_recordAside 25 = .ok (.isub, 1) := by decide +kernel
theorem dX6_recordAside_26 : decode cX6_recordAside 26 = .ok (.imul, 1) := by decide +kernel
theorem dX6_recordAside_27 : decode cX6_recordAside 27 = .ok (.iload_n 1, 1) := by decide +kernel
theorem dX6_recordAside_28 : decode cX6_recordAside 28 = .ok (.iadd, 1) := by decide +kernel
theorem dX6_recordAside_29 : decode cX6_recordAside 29 = .ok (.aload_n 0, 1) := by decide +kernel
theorem dX6_recordAside_30 : decode cX6_recordAside 30 = .ok (.getfield 13, 3) := by decide +kernel
theorem dX6_recordAside_33 : decode cX6_recordAside 33 = .ok (.iload_n 1, 1) := by decide +kernel
theorem dX6_recordAside_34 : decode cX6_recordAside 34 = .ok (.iaload, 1) := by decide +kernel
theorem dX6_recordAside_35 : decode cX6_recordAside 35 = .ok (.iastore, 1) := by decide +kernel
theorem dX6_recordAside_36 : decode cX6_recordAside 36 = .ok (.iinc 1 1, 3) := by decide +kernel
theorem dX6_recordAside_39 : decode cX6_recordAside 39 = .ok (.goto (-33), 3) := by decide +kernel
theorem dX6_recordAside_42 : decode cX6_recordAside 42 = .ok (.return_, 1) := by decide +kernel
theorem dX6_cancel_0 : decode cX6_cancel 0 = .ok (.iload_n 2, 1) := by decide +kernel
theorem dX6_cancel_1 : decode cX6_cancel 1 = .ok (.invokestatic 102, 3) := by decide +kernel
theorem dX6_cancel_4 : decode cX6_cancel 4 = .ok (.ifCond .ne 5, 3) := by decide +kernel
theorem dX6_cancel_7 : decode cX6_cancel 7 = .ok (.iconst (-1), 1) := by decide +kernel
theorem dX6_cancel_8 : decode cX6_cancel 8 = .ok (.ireturn, 1) := by decide +kernel
theorem dX6_cancel_9 : decode cX6_cancel 9 = .ok (.iload_n 1, 1) := by decide +kernel
theorem dX6_cancel_10 : decode cX6_cancel 10 = .ok (.invokestatic 114, 3) := by decide +kernel
theorem dX6_cancel_13 : decode cX6_cancel 13 = .ok (.ifCond .ne 6, 3) := by decide +kernel
theorem dX6_cancel_16 : decode cX6_cancel 16 = .ok (.bipush (-2), 2) := by decide +kernel
theorem dX6_cancel_18 : decode cX6_cancel 18 = .ok (.ireturn, 1) := by decide +kernel
theorem dX6_cancel_19 : decode cX6_cancel 19 = .ok (.aload_n 0, 1) := by decide +kernel
theorem dX6_cancel_20 : decode cX6_cancel 20 = .ok (.aload_n 0, 1) := by decide +kernel
theorem dX6_cancel_21 : decode cX6_cancel 21 = .ok (.getfield 7, 3) := by decide +kernel
theorem dX6_cancel_24 : decode cX6_cancel 24 = .ok (.iconst 0, 1) := by decide +kernel
theorem dX6_cancel_25 : decode cX6_cancel 25 = .ok (.iaload, 1) := by decide +kernel
theorem dX6_cancel_26 : decode cX6_cancel 26 = .ok (.iload_n 1, 1) := by decide +kernel
theorem dX6_cancel_27 : decode cX6_cancel 27 = .ok (.iadd, 1) := by decide +kernel
theorem dX6_cancel_28 : decode cX6_cancel 28 = .ok (.iload_n 2, 1) := by decide +kernel
theorem dX6_cancel_29 : decode cX6_cancel 29 = .ok (.invokevirtual 117, 3) := by decide +kernel
theorem dX6_cancel_32 : decode cX6_cancel 32 = .ok (.istore_n 3, 1) := by decide +kernel
theorem dX6_cancel_33 : decode cX6_cancel 33 = .ok (.iload_n 3, 1) := by decide +kernel
theorem dX6_cancel_34 : decode cX6_cancel 34 = .ok (.bipush (-5), 2) := by decide +kernel
theorem dX6_cancel_36 : decode cX6_cancel 36 = .ok (.if_icmp .ne 6, 3) := by decide +kernel
theorem dX6_cancel_39 : decode cX6_cancel 39 = .ok (.bipush (-5), 2) := by decide +kernel
theorem dX6_cancel_41 : decode cX6_cancel 41 = .ok (.ireturn, 1) := by decide +kernel
theorem dX6_cancel_42 : decode cX6_cancel 42 = .ok (.aload_n 0, 1) := by decide +kernel
theorem dX6_cancel_43 : decode cX6_cancel 43 = .ok (.invokevirtual 99, 3) := by decide +kernel
theorem dX6_cancel_46 : decode cX6_cancel 46 = .ok (.aload_n 0, 1) := by decide +kernel
theorem dX6_cancel_47 : decode cX6_cancel 47 = .ok (.getfield 7, 3) := by decide +kernel
theorem dX6_cancel_50 : decode cX6_cancel 50 = .ok (.iload_n 3, 1) := by decide +kernel
theorem dX6_cancel_51 : decode cX6_cancel 51 = .ok (.iconst 1, 1) := by decide +kernel
theorem dX6_cancel_52 : decode cX6_cancel 52 = .ok (.invokestatic 75, 3) := by decide +kernel
theorem dX6_cancel_55 : decode cX6_cancel 55 = .ok (.iaload, 1) := by decide +kernel
theorem dX6_cancel_56 : decode cX6_cancel 56 = .ok (.istore 4, 2) := by decide +kernel
theorem dX6_cancel_58 : decode cX6_cancel 58 = .ok (.iload_n 3, 1) := by decide +kernel
theorem dX6_cancel_59 : decode cX6_cancel 59 = .ok (.iconst 0, 1) := by decide +kernel
theorem dX6_cancel_60 : decode cX6_cancel 60 = .ok (.invokestatic 75, 3) := by decide +kernel
theorem dX6_cancel_63 : decode cX6_cancel 63 = .ok (.istore 5, 2) := by decide +kernel
theorem dX6_cancel_65 : decode cX6_cancel 65 = .ok (.iload 5, 2) := by decide +kernel
theorem dX6_cancel_67 : decode cX6_cancel 67 = .ok (.bipush 39, 2) := by decide +kernel
theorem dX6_cancel_69 : decode cX6_cancel 69 = .ok (.iconst 0, 1) := by decide +kernel
theorem dX6_cancel_70 : decode cX6_cancel 70 = .ok (.invokestatic 75, 3) := by decide +kernel
theorem dX6_cancel_73 : decode cX6_cancel 73 = .ok (.if_icmp .ge 25, 3) := by decide +kernel
theorem dX6_cancel_76 : decode cX6_cancel 76 = .ok (.aload_n 0, 1) := by decide +kernel
theorem dX6_cancel_77 : decode cX6_cancel 77 = .ok (.getfield 7, 3) := by decide +kernel
theorem dX6_cancel_80 : decode cX6_cancel 80 = .ok (.iload 5, 2) := by decide +kernel
theorem dX6_cancel_82 : decode cX6_cancel 82 = .ok (.aload_n 0, 1) := by decide +kernel
theorem dX6_cancel_83 : decode cX6_cancel 83 = .ok (.getfield 7, 3) := by decide +kernel
theorem dX6_cancel_86 : decode cX6_cancel 86 = .ok (.iload 5, 2) := by decide +kernel
theorem dX6_cancel_88 : decode cX6_cancel 88 = .ok (.iconst 3, 1) := by decide +kernel
theorem dX6_cancel_89 : decode cX6_cancel 89 = .ok (.iadd, 1) := by decide +kernel
theorem dX6_cancel_90 : decode cX6_cancel 90 = .ok (.iaload, 1) := by decide +kernel
theorem dX6_cancel_91 : decode cX6_cancel 91 = .ok (.iastore, 1) := by decide +kernel
theorem dX6_cancel_92 : decode cX6_cancel 92 = .ok (.iinc 5 1, 3) := by decide +kernel
theorem dX6_cancel_95 : decode cX6_cancel 95 = .ok (.goto (-30), 3) := by decide +kernel
theorem dX6_cancel_98 : decode cX6_cancel 98 = .ok (.aload_n 0, 1) := by decide +kernel
theorem dX6_cancel_99 : decode cX6_cancel 99 = .ok (.getfield 7, 3) := by decide +kernel
theorem dX6_cancel_102 : decode cX6_cancel 102 = .ok (.sipush 192, 3) := by decide +kernel
theorem dX6_cancel_105 : decode cX6_cancel 105 = .ok (.dup2, 1) := by decide +kernel
theorem dX6_cancel_106 : decode cX6_cancel 106 = .ok (.iaload, 1) := by decide +kernel
theorem dX6_cancel_107 : decode cX6_cancel 107 = .ok (.iconst 1, 1) := by decide +kernel
theorem dX6_cancel_108 : decode cX6_cancel 108 = .ok (.isub, 1) := by decide +kernel
theorem dX6_cancel_109 : decode cX6_cancel 109 = .ok (.iastore, 1) := by decide +kernel
theorem dX6_cancel_110 : decode cX6_cancel 110 = .ok (.iload 4, 2) := by decide +kernel
theorem dX6_cancel_112 : decode cX6_cancel 112 = .ok (.ireturn, 1) := by decide +kernel
theorem dX6_pass_0 : decode cX6_pass 0 = .ok (.iload_n 1, 1) := by decide +kernel
theorem dX6_pass_1 : decode cX6_pass 1 = .ok (.iconst 1, 1) := by decide +kernel
theorem dX6_pass_2 : decode cX6_pass 2 = .ok (.bipush 99, 2) := by decide +kernel
theorem dX6_pass_4 : decode cX6_pass 4 = .ok (.invokestatic 38, 3) := by decide +kernel
theorem dX6_pass_7 : decode cX6_pass 7 = .ok (.ifCond .ne 6, 3) := by decide +kernel
theorem dX6_pass_10 : decode cX6_pass 10 = .ok (.bipush (-2), 2) := by decide +kernel
theorem dX6_pass_12 : decode cX6_pass 12 = .ok (.ireturn, 1) := by decide +kernel
theorem dX6_pass_13 : decode cX6_pass 13 = .ok (.aload_n 0, 1) := by decide +kernel
theorem dX6_pass_14 : decode cX6_pass 14 = .ok (.getfield 7, 3) := by decide +kernel
theorem dX6_pass_17 : decode cX6_pass 17 = .ok (.iconst 0, 1) := by decide +kernel
theorem dX6_pass_18 : decode cX6_pass 18 = .ok (.iaload, 1) := by decide +kernel
theorem dX6_pass_19 : decode cX6_pass 19 = .ok (.iload_n 1, 1) := by decide +kernel
theorem dX6_pass_20 : decode cX6_pass 20 = .ok (.iadd, 1) := by decide +kernel
theorem dX6_pass_21 : decode cX6_pass 21 = .ok (.sipush 9999, 3) := by decide +kernel
theorem dX6_pass_24 : decode cX6_pass 24 = .ok (.if_icmp .le 6, 3) := by decide +kernel
theorem dX6_pass_27 : decode cX6_pass 27 = .ok (.bipush (-3), 2) := by decide +kernel
theorem dX6_pass_29 : decode cX6_pass 29 = .ok (.ireturn, 1) := by decide +kernel
theorem dX6_pass_30 : decode cX6_pass 30 = .ok (.aload_n 0, 1) := by decide +kernel
theorem dX6_pass_31 : decode cX6_pass 31 = .ok (.invokevirtual 99, 3) := by decide +kernel
theorem dX6_pass_34 : decode cX6_pass 34 = .ok (.iconst 0, 1) := by decide +kernel
theorem dX6_pass_35 : decode cX6_pass 35 = .ok (.istore_n 2, 1) := by decide +kernel
theorem dX6_pass_36 : decode cX6_pass 36 = .ok (.iconst 0, 1) := by decide +kernel
theorem dX6_pass_37 : decode cX6_pass 37 = .ok (.istore_n 3, 1) := by decide +kernel
theorem dX6_pass_38 : decode cX6_pass 38 = .ok (.iload_n 3, 1) := by decide +kernel
theorem dX6_pass_39 : decode cX6_pass 39 = .ok (.iload_n 1, 1) := by decide +kernel
theorem dX6_pass_40 : decode cX6_pass 40 = .ok (.if_icmp .ge 17, 3) := by decide +kernel
theorem dX6_pass_43 : decode cX6_pass 43 = .ok (.iload_n 2, 1) := by decide +kernel
theorem dX6_pass_44 : decode cX6_pass 44 = .ok (.aload_n 0, 1) := by decide +kernel
theorem dX6_pass_45 : decode cX6_pass 45 = .ok (.iconst 1, 1) := by decide +kernel
theorem dX6_pass_46 : decode cX6_pass 46 = .ok (.invokevirtual 132, 3) := by decide +kernel
theorem dX6_pass_49 : decode cX6_pass 49 = .ok (.iadd, 1) := by decide +kernel
theorem dX6_pass_50 : decode cX6_pass 50 = .ok (.istore_n 2, 1) := by decide +kernel
theorem dX6_pass_51 : decode cX6_pass 51 = .ok (.iinc 3 1, 3) := by decide +kernel
theorem dX6_pass_54 : decode cX6_pass 54 = .ok (.goto (-16), 3) := by decide +kernel
theorem dX6_pass_57 : decode cX6_pass 57 = .ok (.iload_n 2, 1) := by decide +kernel
theorem dX6_pass_58 : decode cX6_pass 58 = .ok (.ireturn, 1) := by decide +kernel
theorem dX6_type_0 : decode cX6_type 0 = .ok (.aload_n 0, 1) := by decide +kernel
theorem dX6_type_1 : decode cX6_type 1 = .ok (.getfield 136, 3) := by decide +kernel
theorem dX6_type_4 : decode cX6_type 4 = .ok (.bipush 60, 2) := by decide +kernel
theorem dX6_type_6 : decode cX6_type 6 = .ok (.if_icmp .ne 6, 3) := by decide +kernel
theorem dX6_type_9 : decode cX6_type 9 = .ok (.bipush (-3), 2) := by decide +kernel
theorem dX6_type_11 : decode cX6_type 11 = .ok (.ireturn, 1) := by decide +kernel
theorem dX6_type_12 : decode cX6_type 12 = .ok (.aload_n 0, 1) := by decide +kernel
theorem dX6_type_13 : decode cX6_type 13 = .ok (.getfield 22, 3) := by decide +kernel
theorem dX6_type_16 : decode cX6_type 16 = .ok (.aload_n 0, 1) := by decide +kernel
theorem dX6_type_17 : decode cX6_type 17 = .ok (.getfield 136, 3) := by decide +kernel
theorem dX6_type_20 : decode cX6_type 20 = .ok (.iload_n 1, 1) := by decide +kernel
theorem dX6_type_21 : decode cX6_type 21 = .ok (.iastore, 1) := by decide +kernel
theorem dX6_type_22 : decode cX6_type 22 = .ok (.aload_n 0, 1) := by decide +kernel
theorem dX6_type_23 : decode cX6_type 23 = .ok (.dup, 1) := by decide +kernel
theorem dX6_type_24 : decode cX6_type 24 = .ok (.getfield 136, 3) := by decide +kernel
theorem dX6_type_27 : decode cX6_type 27 = .ok (.iconst 1, 1) := by decide +kernel
theorem dX6_type_28 : decode cX6_type 28 = .ok (.iadd, 1) := by decide +kernel
theorem dX6_type_29 : decode cX6_type 29 = .ok (.putfield 136, 3) := by decide +kernel
theorem dX6_type_32 : decode cX6_type 32 = .ok (.aload_n 0, 1) := by decide +kernel
theorem dX6_type_33 : decode cX6_type 33 = .ok (.getfield 136, 3) := by decide +kernel
theorem dX6_type_36 : decode cX6_type 36 = .ok (.ireturn, 1) := by decide +kernel
theorem dX6_clearText_0 : decode cX6_clearText 0 = .ok (.aload_n 0, 1) := by decide +kernel
theorem dX6_clearText_1 : decode cX6_clearText 1 = .ok (.getfield 136, 3) := by decide +kernel
theorem dX6_clearText_4 : decode cX6_clearText 4 = .ok (.istore_n 1, 1) := by decide +kernel
theorem dX6_clearText_5 : decode cX6_clearText 5 = .ok (.aload_n 0, 1) := by decide +kernel
theorem dX6_clearText_6 : decode cX6_clearText 6 = .ok (.iconst 0, 1) := by decide +kernel
theorem dX6_clearText_7 : decode cX6_clearText 7 = .ok (.putfield 136, 3) := by decide +kernel
theorem dX6_clearText_10 : decode cX6_clearText 10 = .ok (.iload_n 1, 1) := by decide +kernel
theorem dX6_clearText_11 : decode cX6_clearText 11 = .ok (.ireturn, 1) := by decide +kernel
theorem dX6_isNext_0 : decode cX6_isNext 0 = .ok (.aload_n 0, 1) := by decide +kernel
theorem dX6_isNext_1 : decode cX6_isNext 1 = .ok (.getfield 139, 3) := by decide +kernel
theorem dX6_isNext_4 : decode cX6_isNext 4 = .ok (.ifCond .ne 35, 3) := by decide +kernel
theorem dX6_isNext_7 : decode cX6_isNext 7 = .ok (.aload_n 0, 1) := by decide +kernel
theorem dX6_isNext_8 : decode cX6_isNext 8 = .ok (.getfield 143, 3) := by decide +kernel
theorem dX6_isNext_11 : decode cX6_isNext 11 = .ok (.aload_n 0, 1) := by decide +kernel
theorem dX6_isNext_12 : decode cX6_isNext 12 = .ok (.getfield 136, 3) := by decide +kernel
theorem dX6_isNext_15 : decode cX6_isNext 15 = .ok (.if_icmp .ge 24, 3) := by decide +kernel
theorem dX6_isNext_18 : decode cX6_isNext 18 = .ok (.aload_n 0, 1) := by decide +kernel
theorem dX6_isNext_19 : decode cX6_isNext 19 = .ok (.getfield 22, 3) := by decide +kernel
theorem dX6_isNext_22 : decode cX6_isNext 22 = .ok (.aload_n 0, 1) := by decide +kernel
theorem dX6_isNext_23 : decode cX6_isNext 23 = .ok (.getfield 143, 3) := by decide +kernel
theorem dX6_isNext_26 : decode cX6_isNext 26 = .ok (.iaload, 1) := by decide +kernel
theorem dX6_isNext_27 : decode cX6_isNext 27 = .ok (.iload_n 1, 1) := by decide +kernel
theorem dX6_isNext_28 : decode cX6_isNext 28 = .ok (.iload_n 2, 1) := by decide +kernel
theorem dX6_isNext_29 : decode cX6_isNext 29 = .ok (.invokestatic 38, 3) := by decide +kernel
theorem dX6_isNext_32 : decode cX6_isNext 32 = .ok (.ifCond .eq 7, 3) := by decide +kernel
theorem dX6_isNext_35 : decode cX6_isNext 35 = .ok (.iconst 1, 1) := by decide +kernel
theorem dX6_isNext_36 : decode cX6_isNext 36 = .ok (.goto 4, 3) := by decide +kernel
theorem dX6_isNext_39 : decode cX6_isNext 39 = .ok (.iconst 0, 1) := by decide +kernel
theorem dX6_isNext_40 : decode cX6_isNext 40 = .ok (.ireturn, 1) := by decide +kernel
theorem dX6_needs_0 : decode cX6_needs 0 = .ok (.aload_n 0, 1) := by decide +kernel
theorem dX6_needs_1 : decode cX6_needs 1 = .ok (.iload_n 1, 1) := by decide +kernel
theorem dX6_needs_2 : decode cX6_needs 2 = .ok (.iload_n 1, 1) := by decide +kernel
theorem dX6_needs_3 : decode cX6_needs 3 = .ok (.invokevirtual 146, 3) := by decide +kernel
theorem dX6_needs_6 : decode cX6_needs 6 = .ok (.istore_n 2, 1) := by decide +kernel
theorem dX6_needs_7 : decode cX6_needs 7 = .ok (.aload_n 0, 1) := by decide +kernel
theorem dX6_needs_8 : decode cX6_needs 8 = .ok (.dup, 1) := by decide +kernel
theorem dX6_needs_9 : decode cX6_needs 9 = .ok (.getfield 143, 3) := by decide +kernel
theorem dX6_needs_12 : decode cX6_needs 12 = .ok (.iload_n 2, 1) := by decide +kernel
theorem dX6_needs_13 : decode cX6_needs 13 = .ok (.ifCond .eq 7, 3) := by decide +kernel
theorem dX6_needs_16 : decode cX6_needs 16 = .ok (.iconst 1, 1) := by decide +kernel
theorem dX6_needs_17 : decode cX6_needs 17 = .ok (.goto 4, 3) := by decide +kernel
theorem dX6_needs_20 : decode cX6_needs 20 = .ok (.iconst 0, 1) := by decide +kernel
theorem dX6_needs_21 : decode cX6_needs 21 = .ok (.iadd, 1) := by decide +kernel
theorem dX6_needs_22 : decode cX6_needs 22 = .ok (.putfield 143, 3) := by decide +kernel
theorem dX6_needs_25 : decode cX6_needs 25 = .ok (.aload_n 0, 1) := by decide +kernel
theorem dX6_needs_26 : decode cX6_needs 26 = .ok (.aload_n 0, 1) := by decide +kernel
theorem dX6_needs_27 : decode cX6_needs 27 = .ok (.getfield 139, 3) := by decide +kernel
theorem dX6_needs_30 : decode cX6_needs 30 = .ok (.ifCond .ne 7, 3) := by decide +kernel
theorem dX6_needs_33 : decode cX6_needs 33 = .ok (.iload_n 2, 1) := by decide +kernel
theorem dX6_needs_34 : decode cX6_needs 34 = .ok (.ifCond .ne 7, 3) := by decide +kernel
theorem dX6_needs_37 : decode cX6_needs 37 = .ok (.iconst 1, 1) := by decide +kernel
theorem dX6_needs_38 : decode cX6_needs 38 = .ok (.goto 4, 3) := by decide +kernel
theorem dX6_needs_41 : decode cX6_needs 41 = .ok (.iconst 0, 1) := by decide +kernel
theorem dX6_needs_42 : decode cX6_needs 42 = .ok (.putfield 139, 3) := by decide +kernel
theorem dX6_needs_45 : decode cX6_needs 45 = .ok (.return_, 1) := by decide +kernel
theorem dX6_number_0 : decode cX6_number 0 = .ok (.aload_n 0, 1) := by decide +kernel
theorem dX6_number_1 : decode cX6_number 1 = .ok (.aload_n 0, 1) := by decide +kernel
theorem dX6_number_2 : decode cX6_number 2 = .ok (.getfield 139, 3) := by decide +kernel
theorem dX6_number_5 : decode cX6_number 5 = .ok (.ifCond .ne 14, 3) := by decide +kernel
theorem dX6_number_8 : decode cX6_number 8 = .ok (.aload_n 0, 1) := by decide +kernel
theorem dX6_number_9 : decode cX6_number 9 = .ok (.bipush 48, 2) := by decide +kernel
theorem dX6_number_11 : decode cX6_number 11 = .ok (.bipush 57, 2) := by decide +kernel
theorem dX6_number_13 : decode cX6_number 13 = .ok (.invokevirtual 146, 3) := by decide +kernel
theorem dX6_number_16 : decode cX6_number 16 = .ok (.ifCond .ne 7, 3) := by decide +kernel
theorem dX6_number_19 : decode cX6_number 19 = .ok (.iconst 1, 1) := by decide +kernel
theorem dX6_number_20 : decode cX6_number 20 = .ok (.goto 4, 3) := by decide +kernel
theorem dX6_number_23 : decode cX6_number 23 = .ok (.iconst 0, 1) := by decide +kernel
theorem dX6_number_24 : decode cX6_number 24 = .ok (.putfield 139, 3) := by decide +kernel
theorem dX6_number_27 : decode cX6_number 27 = .ok (.aload_n 0, 1) := by decide +kernel
theorem dX6_number_28 : decode cX6_number 28 = .ok (.getfield 139, 3) := by decide +kernel
theorem dX6_number_31 : decode cX6_number 31 = .ok (.ifCond .eq 7, 3) := by decide +kernel
theorem dX6_number_34 : decode cX6_number 34 = .ok (.iconst 0, 1) := by decide +kernel
theorem dX6_number_35 : decode cX6_number 35 = .ok (.goto 15, 3) := by decide +kernel
theorem dX6_number_38 : decode cX6_number 38 = .ok (.aload_n 0, 1) := by decide +kernel
theorem dX6_number_39 : decode cX6_number 39 = .ok (.getfield 22, 3) := by decide +kernel
theorem dX6_number_42 : decode cX6_number 42 = .ok (.aload_n 0, 1) := by decide +kernel
theorem dX6_number_43 : decode cX6_number 43 = .ok (.getfield 143, 3) := by decide +kernel
theorem dX6_number_46 : decode cX6_number 46 = .ok (.iaload, 1) := by decide +kernel
theorem dX6_number_47 : decode cX6_number 47 = .ok (.bipush 48, 2) := by decide +kernel
theorem dX6_number_49 : decode cX6_number 49 = .ok (.isub, 1) := by decide +kernel
theorem dX6_number_50 : decode cX6_number 50 = .ok (.istore_n 2, 1) := by decide +kernel
theorem dX6_number_51 : decode cX6_number 51 = .ok (.aload_n 0, 1) := by decide +kernel
theorem dX6_number_52 : decode cX6_number 52 = .ok (.aload_n 0, 1) := by decide +kernel
theorem dX6_number_53 : decode cX6_number 53 = .ok (.getfield 139, 3) := by decide +kernel
theorem dX6_number_56 : decode cX6_number 56 = .ok (.ifCond .ne 8, 3) := by decide +kernel
theorem dX6_number_59 : decode cX6_number 59 = .ok (.iload_n 2, 1) := by decide +kernel
theorem dX6_number_60 : decode cX6_number 60 = .ok (.iload_n 1, 1) := by decide +kernel
theorem dX6_number_61 : decode cX6_number 61 = .ok (.if_icmp .le 7, 3) := by decide +kernel
theorem dX6_number_64 : decode cX6_number 64 = .ok (.iconst 1, 1) := by decide +kernel
theorem dX6_number_65 : decode cX6_number 65 = .ok (.goto 4, 3) := by decide +kernel
theorem dX6_number_68 : decode cX6_number 68 = .ok (.iconst 0, 1) := by decide +kernel
theorem dX6_number_69 : decode cX6_number 69 = .ok (.putfield 139, 3) := by decide +kernel
theorem dX6_number_72 : decode cX6_number 72 = .ok (.aload_n 0, 1) := by decide +kernel
theorem dX6_number_73 : decode cX6_number 73 = .ok (.dup, 1) := by decide +kernel
theorem dX6_number_74 : decode cX6_number 74 = .ok (.getfield 143, 3) := by decide +kernel
theorem dX6_number_77 : decode cX6_number 77 = .ok (.aload_n 0, 1) := by decide +kernel
theorem dX6_number_78 : decode cX6_number 78 = .ok (.getfield 139, 3) := by decide +kernel
theorem dX6_number_81 : decode cX6_number 81 = .ok (.ifCond .eq 7, 3) := by decide +kernel
theorem dX6_number_84 : decode cX6_number 84 = .ok (.iconst 0, 1) := by decide +kernel
theorem dX6_number_85 : decode cX6_number 85 = .ok (.goto 4, 3) := by decide +kernel
theorem dX6_number_88 : decode cX6_number 88 = .ok (.iconst 1, 1) := by decide +kernel
theorem dX6_number_89 : decode cX6_number 89 = .ok (.iadd, 1) := by decide +kernel
theorem dX6_number_90 : decode cX6_number 90 = .ok (.putfield 143, 3) := by decide +kernel
theorem dX6_number_93 : decode cX6_number 93 = .ok (.iload_n 2, 1) := by decide +kernel
theorem dX6_number_94 : decode cX6_number 94 = .ok (.ifCond .le 66, 3) := by decide +kernel
theorem dX6_number_97 : decode cX6_number 97 = .ok (.aload_n 0, 1) := by decide +kernel
theorem dX6_number_98 : decode cX6_number 98 = .ok (.bipush 48, 2) := by decide +kernel
theorem dX6_number_100 : decode cX6_number 100 = .ok (.bipush 57, 2) := by decide +kernel
theorem dX6_number_102 : decode cX6_number 102 = .ok (.invokevirtual 146, 3) := by decide +kernel
theorem dX6_number_105 : decode cX6_number 105 = .ok (.ifCond .eq 55, 3) := by decide +kernel
theorem dX6_number_108 : decode cX6_number 108 = .ok (.bipush 10, 2) := by decide +kernel
theorem dX6_number_110 : decode cX6_number 110 = .ok (.iload_n 2, 1) := by decide +kernel
theorem dX6_number_111 : decode cX6_number 111 = .ok (.imul, 1) := by decide +kernel
theorem dX6_number_112 : decode cX6_number 112 = .ok (.aload_n 0, 1) := by decide +kernel
theorem dX6_number_113 : decode cX6_number 113 = .ok (.getfield 22, 3) := by decide +kernel
theorem dX6_number_116 : decode cX6_number 116 = .ok (.aload_n 0, 1) := by decide +kernel
theorem dX6_number_117 : decode cX6_number 117 = .ok (.getfield 143, 3) := by decide +kernel
theorem dX6_number_120 : decode cX6_number 120 = .ok (.iaload, 1) := by decide +kernel
theorem dX6_number_121 : decode cX6_number 121 = .ok (.iadd, 1) := by decide +kernel
theorem dX6_number_122 : decode cX6_number 122 = .ok (.bipush 48, 2) := by decide +kernel
theorem dX6_number_124 : decode cX6_number 124 = .ok (.isub, 1) := by decide +kernel
theorem dX6_number_125 : decode cX6_number 125 = .ok (.iload_n 1, 1) := by decide +kernel
theorem dX6_number_126 : decode cX6_number 126 = .ok (.if_icmp .gt 34, 3) := by decide +kernel
theorem dX6_number_129 : decode cX6_number 129 = .ok (.bipush 10, 2) := by decide +kernel
theorem dX6_number_131 : decode cX6_number 131 = .ok (.iload_n 2, 1) := by decide +kernel
theorem dX6_number_132 : decode cX6_number 132 = .ok (.imul, 1) := by decide +kernel
theorem dX6_number_133 : decode cX6_number 133 = .ok (.aload_n 0, 1) := by decide +kernel
theorem dX6_number_134 : decode cX6_number 134 = .ok (.getfield 22, 3) := by decide +kernel
theorem dX6_number_137 : decode cX6_number 137 = .ok (.aload_n 0, 1) := by decide +kernel
theorem dX6_number_138 : decode cX6_number 138 = .ok (.getfield 143, 3) := by decide +kernel
theorem dX6_number_141 : decode cX6_number 141 = .ok (.iaload, 1) := by decide +kernel
theorem dX6_number_142 : decode cX6_number 142 = .ok (.iadd, 1) := by decide +kernel
theorem dX6_number_143 : decode cX6_number 143 = .ok (.bipush 48, 2) := by decide +kernel
theorem dX6_number_145 : decode cX6_number 145 = .ok (.isub, 1) := by decide +kernel
theorem dX6_number_146 : decode cX6_number 146 = .ok (.istore_n 2, 1) := by decide +kernel
theorem dX6_number_147 : decode cX6_number 147 = .ok (.aload_n 0, 1) := by decide +kernel
theorem dX6_number_148 : decode cX6_number 148 = .ok (.dup, 1) := by decide +kernel
theorem dX6_number_149 : decode cX6_number 149 = .ok (.getfield 143, 3) := by decide +kernel
theorem dX6_number_152 : decode cX6_number 152 = .ok (.iconst 1, 1) := by decide +kernel
theorem dX6_number_153 : decode cX6_number 153 = .ok (.iadd, 1) := by decide +kernel
theorem dX6_number_154 : decode cX6_number 154 = .ok (.putfield 143, 3) := by decide +kernel
theorem dX6_number_157 : decode cX6_number 157 = .ok (.goto (-64), 3) := by decide +kernel
theorem dX6_number_160 : decode cX6_number 160 = .ok (.iload_n 2, 1) := by decide +kernel
theorem dX6_number_161 : decode cX6_number 161 = .ok (.ireturn, 1) := by decide +kernel
theorem dX6_reads_0 : decode cX6_reads 0 = .ok (.aload_n 0, 1) := by decide +kernel
theorem dX6_reads_1 : decode cX6_reads 1 = .ok (.bipush 11, 2) := by decide +kernel
theorem dX6_reads_3 : decode cX6_reads 3 = .ok (.invokevirtual 149, 3) := by decide +kernel
theorem dX6_reads_6 : decode cX6_reads 6 = .ok (.istore 4, 2) := by decide +kernel
theorem dX6_reads_8 : decode cX6_reads 8 = .ok (.aload_n 0, 1) := by decide +kernel
theorem dX6_reads_9 : decode cX6_reads 9 = .ok (.dup, 1) := by decide +kernel
theorem dX6_reads_10 : decode cX6_reads 10 = .ok (.getfield 152, 3) := by decide +kernel
theorem dX6_reads_13 : decode cX6_reads 13 = .ok (.iconst 1, 1) := by decide +kernel
theorem dX6_reads_14 : decode cX6_reads 14 = .ok (.iadd, 1) := by decide +kernel
theorem dX6_reads_15 : decode cX6_reads 15 = .ok (.putfield 152, 3) := by decide +kernel
theorem dX6_reads_18 : decode cX6_reads 18 = .ok (.iload_n 1, 1) := by decide +kernel
theorem dX6_reads_19 : decode cX6_reads 19 = .ok (.ifCond .eq 35, 3) := by decide +kernel
theorem dX6_reads_22 : decode cX6_reads 22 = .ok (.aload_n 0, 1) := by decide +kernel
theorem dX6_reads_23 : decode cX6_reads 23 = .ok (.getfield 155, 3) := by decide +kernel
theorem dX6_reads_26 : decode cX6_reads 26 = .ok (.ifCond .ne 28, 3) := by decide +kernel
theorem dX6_reads_29 : decode cX6_reads 29 = .ok (.aload_n 0, 1) := by decide +kernel
theorem dX6_reads_30 : decode cX6_reads 30 = .ok (.iload_n 2, 1) := by decide +kernel
theorem dX6_reads_31 : decode cX6_reads 31 = .ok (.iload_n 3, 1) := by decide +kernel
theorem dX6_reads_32 : decode cX6_reads 32 = .ok (.iload 4, 2) := by decide +kernel
theorem dX6_reads_34 : decode cX6_reads 34 = .ok (.invokevirtual 126, 3) := by decide +kernel
theorem dX6_reads_37 : decode cX6_reads 37 = .ok (.istore 5, 2) := by decide +kernel
theorem dX6_reads_39 : decode cX6_reads 39 = .ok (.aload_n 0, 1) := by decide +kernel
theorem dX6_reads_40 : decode cX6_reads 40 = .ok (.iload 5, 2) := by decide +kernel
theorem dX6_reads_42 : decode cX6_reads 42 = .ok (.ifCond .ge 8, 3) := by decide +kernel
theorem dX6_reads_45 : decode cX6_reads 45 = .ok (.iload 5, 2) := by decide +kernel
theorem dX6_reads_47 : decode cX6_reads 47 = .ok (.goto 4, 3) := by decide +kernel
theorem dX6_reads_50 : decode cX6_reads 50 = .ok (.iconst 0, 1) := by decide +kernel
theorem dX6_reads_51 : decode cX6_reads 51 = .ok (.putfield 155, 3) := by decide +kernel
theorem dX6_reads_54 : decode cX6_reads 54 = .ok (.return_, 1) := by decide +kernel
theorem dX6_readsBooking_0 : decode cX6_readsBooking 0 = .ok (.aload_n 0, 1) := by decide +kernel
theorem dX6_readsBooking_1 : decode cX6_readsBooking 1 = .ok (.bipush 43, 2) := by decide +kernel
theorem dX6_readsBooking_3 : decode cX6_readsBooking 3 = .ok (.invokevirtual 158, 3) := by decide +kernel
theorem dX6_readsBooking_6 : decode cX6_readsBooking 6 = .ok (.aload_n 0, 1) := by decide +kernel
theorem dX6_readsBooking_7 : decode cX6_readsBooking 7 = .ok (.bipush 99, 2) := by decide +kernel
theorem dX6_readsBooking_9 : decode cX6_readsBooking 9 = .ok (.invokevirtual 149, 3) := by decide +kernel
theorem dX6_readsBooking_12 : decode cX6_readsBooking 12 = .ok (.istore_n 2, 1) := by decide +kernel
theorem dX6_readsBooking_13 : decode cX6_readsBooking 13 = .ok (.aload_n 0, 1) := by decide +kernel
theorem dX6_readsBooking_14 : decode cX6_readsBooking 14 = .ok (.bipush 47, 2) := by decide +kernel
theorem dX6_readsBooking_16 : decode cX6_readsBooking 16 = .ok (.invokevirtual 158, 3) := by decide +kernel
theorem dX6_readsBooking_19 : decode cX6_readsBooking 19 = .ok (.aload_n 0, 1) := by decide +kernel
theorem dX6_readsBooking_20 : decode cX6_readsBooking 20 = .ok (.iconst 2, 1) := by decide +kernel
theorem dX6_readsBooking_21 : decode cX6_readsBooking 21 = .ok (.invokevirtual 149, 3) := by decide +kernel
theorem dX6_readsBooking_24 : decode cX6_readsBooking 24 = .ok (.istore_n 3, 1) := by decide +kernel
theorem dX6_readsBooking_25 : decode cX6_readsBooking 25 = .ok (.aload_n 0, 1) := by decide +kernel
theorem dX6_readsBooking_26 : decode cX6_readsBooking 26 = .ok (.bipush 58, 2) := by decide +kernel
theorem dX6_readsBooking_28 : decode cX6_readsBooking 28 = .ok (.invokevirtual 158, 3) := by decide +kernel
theorem dX6_readsBooking_31 : decode cX6_readsBooking 31 = .ok (.aload_n 0, 1) := by decide +kernel
theorem dX6_readsBooking_32 : decode cX6_readsBooking 32 = .ok (.iload_n 1, 1) := by decide +kernel
theorem dX6_readsBooking_33 : decode cX6_readsBooking 33 = .ok (.iload_n 2, 1) := by decide +kernel
theorem dX6_readsBooking_34 : decode cX6_readsBooking 34 = .ok (.iload_n 3, 1) := by decide +kernel
theorem dX6_readsBooking_35 : decode cX6_readsBooking 35 = .ok (.invokevirtual 161, 3) := by decide +kernel
theorem dX6_readsBooking_38 : decode cX6_readsBooking 38 = .ok (.aload_n 0, 1) := by decide +kernel
theorem dX6_readsBooking_39 : decode cX6_readsBooking 39 = .ok (.bipush 44, 2) := by decide +kernel
theorem dX6_readsBooking_41 : decode cX6_readsBooking 41 = .ok (.bipush 44, 2) := by decide +kernel
theorem dX6_readsBooking_43 : decode cX6_readsBooking 43 = .ok (.invokevirtual 146, 3) := by decide +kernel
theorem dX6_readsBooking_46 : decode cX6_readsBooking 46 = .ok (.ifCond .eq 23, 3) := by decide +kernel
theorem dX6_readsBooking_49 : decode cX6_readsBooking 49 = .ok (.aload_n 0, 1) := by decide +kernel
theorem dX6_readsBooking_50 : decode cX6_readsBooking 50 = .ok (.dup, 1) := by decide +kernel
theorem dX6_readsBooking_51 : decode cX6_readsBooking 51 = .ok (.getfield 143, 3) := by decide +kernel
theorem dX6_readsBooking_54 : decode cX6_readsBooking 54 = .ok (.iconst 1, 1) := by decide +kernel
theorem dX6_readsBooking_55 : decode cX6_readsBooking 55 = .ok (.iadd, 1) := by decide +kernel
theorem dX6_readsBooking_56 : decode cX6_readsBooking 56 = .ok (.putfield 143, 3) := by decide +kernel
theorem dX6_readsBooking_59 : decode cX6_readsBooking 59 = .ok (.aload_n 0, 1) := by decide +kernel
theorem dX6_readsBooking_60 : decode cX6_readsBooking 60 = .ok (.iload_n 1, 1) := by decide +kernel
theorem dX6_readsBooking_61 : decode cX6_readsBooking 61 = .ok (.iload_n 2, 1) := by decide +kernel
theorem dX6_readsBooking_62 : decode cX6_readsBooking 62 = .ok (.iload_n 3, 1) := by decide +kernel
theorem dX6_readsBooking_63 : decode cX6_readsBooking 63 = .ok (.invokevirtual 161, 3) := by decide +kernel
theorem dX6_readsBooking_66 : decode cX6_readsBooking 66 = .ok (.goto (-28), 3) := by decide +kernel
theorem dX6_readsBooking_69 : decode cX6_readsBooking 69 = .ok (.return_, 1) := by decide +kernel
theorem dX6_readsPlan_0 : decode cX6_readsPlan 0 = .ok (.aload_n 0, 1) := by decide +kernel
theorem dX6_readsPlan_1 : decode cX6_readsPlan 1 = .ok (.iconst 0, 1) := by decide +kernel
theorem dX6_readsPlan_2 : decode cX6_readsPlan 2 = .ok (.putfield 143, 3) := by decide +kernel
theorem dX6_readsPlan_5 : decode cX6_readsPlan 5 = .ok (.aload_n 0, 1) := by decide +kernel
theorem dX6_readsPlan_6 : decode cX6_readsPlan 6 = .ok (.iconst 0, 1) := by decide +kernel
theorem dX6_readsPlan_7 : decode cX6_readsPlan 7 = .ok (.putfield 139, 3) := by decide +kernel
theorem dX6_readsPlan_10 : decode cX6_readsPlan 10 = .ok (.aload_n 0, 1) := by decide +kernel
theorem dX6_readsPlan_11 : decode cX6_readsPlan 11 = .ok (.iconst 0, 1) := by decide +kernel
theorem dX6_readsPlan_12 : decode cX6_readsPlan 12 = .ok (.putfield 152, 3) := by decide +kernel
theorem dX6_readsPlan_15 : decode cX6_readsPlan 15 = .ok (.aload_n 0, 1) := by decide +kernel
theorem dX6_readsPlan_16 : decode cX6_readsPlan 16 = .ok (.iconst 0, 1) := by decide +kernel
theorem dX6_readsPlan_17 : decode cX6_readsPlan 17 = .ok (.putfield 155, 3) := by decide +kernel
theorem dX6_readsPlan_20 : decode cX6_readsPlan 20 = .ok (.iconst 1, 1) := by decide +kernel
theorem dX6_readsPlan_21 : decode cX6_readsPlan 21 = .ok (.istore_n 2, 1) := by decide +kernel
theorem dX6_readsPlan_22 : decode cX6_readsPlan 22 = .ok (.iload_n 2, 1) := by decide +kernel
theorem dX6_readsPlan_23 : decode cX6_readsPlan 23 = .ok (.ifCond .eq 58, 3) := by decide +kernel
theorem dX6_readsPlan_26 : decode cX6_readsPlan 26 = .ok (.aload_n 0, 1) := by decide +kernel
theorem dX6_readsPlan_27 : decode cX6_readsPlan 27 = .ok (.iload_n 1, 1) := by decide +kernel
theorem dX6_readsPlan_28 : decode cX6_readsPlan 28 = .ok (.invokevirtual 165, 3) := by decide +kernel
theorem dX6_readsPlan_31 : decode cX6_readsPlan 31 = .ok (.aload_n 0, 1) := by decide +kernel
theorem dX6_readsPlan_32 : decode cX6_readsPlan 32 = .ok (.getfield 139, 3) := by decide +kernel
theorem dX6_readsPlan_35 : decode cX6_readsPlan 35 = .ok (.ifCond .ne 18, 3) := by decide +kernel
theorem dX6_readsPlan_38 : decode cX6_readsPlan 38 = .ok (.aload_n 0, 1) := by decide +kernel
theorem dX6_readsPlan_39 : decode cX6_readsPlan 39 = .ok (.getfield 143, 3) := by decide +kernel
theorem dX6_readsPlan_42 : decode cX6_readsPlan 42 = .ok (.aload_n 0, 1) := by decide +kernel
theorem dX6_readsPlan_43 : decode cX6_readsPlan 43 = .ok (.getfield 136, 3) := by decide +kernel
theorem dX6_readsPlan_46 : decode cX6_readsPlan 46 = .ok (.if_icmp .ge 7, 3) := by decide +kernel
theorem dX6_readsPlan_49 : decode cX6_readsPlan 49 = .ok (.iconst 1, 1) := by decide +kernel
theorem dX6_readsPlan_50 : decode cX6_readsPlan 50 = .ok (.goto 4, 3) := by decide +kernel
theorem dX6_readsPlan_53 : decode cX6_readsPlan 53 = .ok (.iconst 0, 1) := by decide +kernel
theorem dX6_readsPlan_54 : decode cX6_readsPlan 54 = .ok (.istore_n 2, 1) := by decide +kernel
theorem dX6_readsPlan_55 : decode cX6_readsPlan 55 = .ok (.iload_n 2, 1) := by decide +kernel
theorem dX6_readsPlan_56 : decode cX6_readsPlan 56 = .ok (.ifCond .eq (-34), 3) := by decide +kernel
theorem dX6_readsPlan_59 : decode cX6_readsPlan 59 = .ok (.aload_n 0, 1) := by decide +kernel
theorem dX6_readsPlan_60 : decode cX6_readsPlan 60 = .ok (.bipush 59, 2) := by decide +kernel
theorem dX6_readsPlan_62 : decode cX6_readsPlan 62 = .ok (.invokevirtual 158, 3) := by decide +kernel
theorem dX6_readsPlan_65 : decode cX6_readsPlan 65 = .ok (.aload_n 0, 1) := by decide +kernel
theorem dX6_readsPlan_66 : decode cX6_readsPlan 66 = .ok (.getfield 139, 3) := by decide +kernel
theorem dX6_readsPlan_69 : decode cX6_readsPlan 69 = .ok (.ifCond .ne 7, 3) := by decide +kernel
theorem dX6_readsPlan_72 : decode cX6_readsPlan 72 = .ok (.iconst 1, 1) := by decide +kernel
theorem dX6_readsPlan_73 : decode cX6_readsPlan 73 = .ok (.goto 4, 3) := by decide +kernel
theorem dX6_readsPlan_76 : decode cX6_readsPlan 76 = .ok (.iconst 0, 1) := by decide +kernel
theorem dX6_readsPlan_77 : decode cX6_readsPlan 77 = .ok (.istore_n 2, 1) := by decide +kernel
theorem dX6_readsPlan_78 : decode cX6_readsPlan 78 = .ok (.goto (-56), 3) := by decide +kernel
theorem dX6_readsPlan_81 : decode cX6_readsPlan 81 = .ok (.aload_n 0, 1) := by decide +kernel
theorem dX6_readsPlan_82 : decode cX6_readsPlan 82 = .ok (.getfield 139, 3) := by decide +kernel
theorem dX6_readsPlan_85 : decode cX6_readsPlan 85 = .ok (.ifCond .eq 10, 3) := by decide +kernel
theorem dX6_readsPlan_88 : decode cX6_readsPlan 88 = .ok (.aload_n 0, 1) := by decide +kernel
theorem dX6_readsPlan_89 : decode cX6_readsPlan 89 = .ok (.getfield 143, 3) := by decide +kernel
theorem dX6_readsPlan_92 : decode cX6_readsPlan 92 = .ok (.goto 5, 3) := by decide +kernel
theorem dX6_readsPlan_95 : decode cX6_readsPlan 95 = .ok (.bipush (-5), 2) := by decide +kernel
theorem dX6_readsPlan_97 : decode cX6_readsPlan 97 = .ok (.ireturn, 1) := by decide +kernel
theorem dX6_bookPlan_0 : decode cX6_bookPlan 0 = .ok (.aload_n 0, 1) := by decide +kernel
theorem dX6_bookPlan_1 : decode cX6_bookPlan 1 = .ok (.iconst 0, 1) := by decide +kernel
theorem dX6_bookPlan_2 : decode cX6_bookPlan 2 = .ok (.invokevirtual 169, 3) := by decide +kernel
theorem dX6_bookPlan_5 : decode cX6_bookPlan 5 = .ok (.istore_n 1, 1) := by decide +kernel
theorem dX6_bookPlan_6 : decode cX6_bookPlan 6 = .ok (.iload_n 1, 1) := by decide +kernel
theorem dX6_bookPlan_7 : decode cX6_bookPlan 7 = .ok (.bipush (-5), 2) := by decide +kernel
theorem dX6_bookPlan_9 : decode cX6_bookPlan 9 = .ok (.if_icmp .eq 8, 3) := by decide +kernel
theorem dX6_bookPlan_12 : decode cX6_bookPlan 12 = .ok (.bipush (-100), 2) := by decide +kernel
theorem dX6_bookPlan_14 : decode cX6_bookPlan 14 = .ok (.iload_n 1, 1) := by decide +kernel
theorem dX6_bookPlan_15 : decode cX6_bookPlan 15 = .ok (.isub, 1) := by decide +kernel
theorem dX6_bookPlan_16 : decode cX6_bookPlan 16 = .ok (.ireturn, 1) := by decide +kernel
theorem dX6_bookPlan_17 : decode cX6_bookPlan 17 = .ok (.aload_n 0, 1) := by decide +kernel
theorem dX6_bookPlan_18 : decode cX6_bookPlan 18 = .ok (.invokevirtual 123, 3) := by decide +kernel
theorem dX6_bookPlan_21 : decode cX6_bookPlan 21 = .ok (.aload_n 0, 1) := by decide +kernel
theorem dX6_bookPlan_22 : decode cX6_bookPlan 22 = .ok (.iconst 1, 1) := by decide +kernel
theorem dX6_bookPlan_23 : decode cX6_bookPlan 23 = .ok (.invokevirtual 169, 3) := by decide +kernel
theorem dX6_bookPlan_26 : decode cX6_bookPlan 26 = .ok (.istore_n 1, 1) := by decide +kernel
theorem dX6_bookPlan_27 : decode cX6_bookPlan 27 = .ok (.aload_n 0, 1) := by decide +kernel
theorem dX6_bookPlan_28 : decode cX6_bookPlan 28 = .ok (.getfield 155, 3) := by decide +kernel
theorem dX6_bookPlan_31 : decode cX6_bookPlan 31 = .ok (.ifCond .ge 12, 3) := by decide +kernel
theorem dX6_bookPlan_34 : decode cX6_bookPlan 34 = .ok (.aload_n 0, 1) := by decide +kernel
theorem dX6_bookPlan_35 : decode cX6_bookPlan 35 = .ok (.invokevirtual 172, 3) := by decide +kernel
theorem dX6_bookPlan_38 : decode cX6_bookPlan 38 = .ok (.aload_n 0, 1) := by decide +kernel
theorem dX6_bookPlan_39 : decode cX6_bookPlan 39 = .ok (.getfield 155, 3) := by decide +kernel
theorem dX6_bookPlan_42 : decode cX6_bookPlan 42 = .ok (.ireturn, 1) := by decide +kernel
theorem dX6_bookPlan_43 : decode cX6_bookPlan 43 = .ok (.aload_n 0, 1) := by decide +kernel
theorem dX6_bookPlan_44 : decode cX6_bookPlan 44 = .ok (.invokevirtual 129, 3) := by decide +kernel
theorem dX6_bookPlan_47 : decode cX6_bookPlan 47 = .ok (.aload_n 0, 1) := by decide +kernel
theorem dX6_bookPlan_48 : decode cX6_bookPlan 48 = .ok (.getfield 152, 3) := by decide +kernel
theorem dX6_bookPlan_51 : decode cX6_bookPlan 51 = .ok (.ireturn, 1) := by decide +kernel
theorem dX6_undo_0 : decode cX6_undo 0 = .ok (.aload_n 0, 1) := by decide +kernel
theorem dX6_undo_1 : decode cX6_undo 1 = .ok (.getfield 42, 3) := by decide +kernel
theorem dX6_undo_4 : decode cX6_undo 4 = .ok (.ifCond .ne 6, 3) := by decide +kernel
theorem dX6_undo_7 : decode cX6_undo 7 = .ok (.bipush (-5), 2) := by decide +kernel
theorem dX6_undo_9 : decode cX6_undo 9 = .ok (.ireturn, 1) := by decide +kernel
theorem dX6_undo_10 : decode cX6_undo 10 = .ok (.aload_n 0, 1) := by decide +kernel
theorem dX6_undo_11 : decode cX6_undo 11 = .ok (.dup, 1) := by decide +kernel
theorem dX6_undo_12 : decode cX6_undo 12 = .ok (.getfield 42, 3) := by decide +kernel
theorem dX6_undo_15 : decode cX6_undo 15 = .ok (.iconst 1, 1) := by decide +kernel
theorem dX6_undo_16 : decode cX6_undo 16 = .ok (.isub, 1) := by decide +kernel
theorem dX6_undo_17 : decode cX6_undo 17 = .ok (.putfield 42, 3) := by decide +kernel
theorem dX6_undo_20 : decode cX6_undo 20 = .ok (.iconst 0, 1) := by decide +kernel
theorem dX6_undo_21 : decode cX6_undo 21 = .ok (.istore_n 1, 1) := by decide +kernel
theorem dX6_undo_22 : decode cX6_undo 22 = .ok (.iload_n 1, 1) := by decide +kernel
theorem dX6_undo_23 : decode cX6_undo 23 = .ok (.sipush 378, 3) := by decide +kernel
theorem dX6_undo_26 : decode cX6_undo 26 = .ok (.if_icmp .ge 30, 3) := by decide +kernel
theorem dX6_undo_29 : decode cX6_undo 29 = .ok (.aload_n 0, 1) := by decide +kernel
theorem dX6_undo_30 : decode cX6_undo 30 = .ok (.getfield 7, 3) := by decide +kernel
theorem dX6_undo_33 : decode cX6_undo 33 = .ok (.iload_n 1, 1) := by decide +kernel
theorem dX6_undo_34 : decode cX6_undo 34 = .ok (.aload_n 0, 1) := by decide +kernel
theorem dX6_undo_35 : decode cX6_undo 35 = .ok (.getfield 16, 3) := by decide +kernel
theorem dX6_undo_38 : decode cX6_undo 38 = .ok (.sipush 378, 3) := by decide +kernel
theorem dX6_undo_41 : decode cX6_undo 41 = .ok (.aload_n 0, 1) := by decide +kernel
theorem dX6_undo_42 : decode cX6_undo 42 = .ok (.getfield 42, 3) := by decide +kernel
theorem dX6_undo_45 : decode cX6_undo 45 = .ok (.imul, 1) := by decide +kernel
theorem dX6_undo_46 : decode cX6_undo 46 = .ok (.iload_n 1, 1) := by decide +kernel
theorem dX6_undo_47 : decode cX6_undo 47 = .ok (.iadd, 1) := by decide +kernel
theorem dX6_undo_48 : decode cX6_undo 48 = .ok (.iaload, 1) := by decide +kernel
theorem dX6_undo_49 : decode cX6_undo 49 = .ok (.iastore, 1) := by decide +kernel
theorem dX6_undo_50 : decode cX6_undo 50 = .ok (.iinc 1 1, 3) := by decide +kernel
theorem dX6_undo_53 : decode cX6_undo 53 = .ok (.goto (-31), 3) := by decide +kernel
theorem dX6_undo_56 : decode cX6_undo 56 = .ok (.aload_n 0, 1) := by decide +kernel
theorem dX6_undo_57 : decode cX6_undo 57 = .ok (.getfield 42, 3) := by decide +kernel
theorem dX6_undo_60 : decode cX6_undo 60 = .ok (.ireturn, 1) := by decide +kernel
theorem dX6_keep_0 : decode cX6_keep 0 = .ok (.iconst 0, 1) := by decide +kernel
theorem dX6_keep_1 : decode cX6_keep 1 = .ok (.istore_n 1, 1) := by decide +kernel
theorem dX6_keep_2 : decode cX6_keep 2 = .ok (.iload_n 1, 1) := by decide +kernel
theorem dX6_keep_3 : decode cX6_keep 3 = .ok (.sipush 378, 3) := by decide +kernel
theorem dX6_keep_6 : decode cX6_keep 6 = .ok (.if_icmp .ge 21, 3) := by decide +kernel
theorem dX6_keep_9 : decode cX6_keep 9 = .ok (.aload_n 0, 1) := by decide +kernel
theorem dX6_keep_10 : decode cX6_keep 10 = .ok (.getfield 19, 3) := by decide +kernel
theorem dX6_keep_13 : decode cX6_keep 13 = .ok (.iload_n 1, 1) := by decide +kernel
theorem dX6_keep_14 : decode cX6_keep 14 = .ok (.aload_n 0, 1) := by decide +kernel
theorem dX6_keep_15 : decode cX6_keep 15 = .ok (.getfield 7, 3) := by decide +kernel
theorem dX6_keep_18 : decode cX6_keep 18 = .ok (.iload_n 1, 1) := by decide +kernel
theorem dX6_keep_19 : decode cX6_keep 19 = .ok (.iaload, 1) := by decide +kernel
theorem dX6_keep_20 : decode cX6_keep 20 = .ok (.iastore, 1) := by decide +kernel
theorem dX6_keep_21 : decode cX6_keep 21 = .ok (.iinc 1 1, 3) := by decide +kernel
theorem dX6_keep_24 : decode cX6_keep 24 = .ok (.goto (-22), 3) := by decide +kernel
theorem dX6_keep_27 : decode cX6_keep 27 = .ok (.aload_n 0, 1) := by decide +kernel
theorem dX6_keep_28 : decode cX6_keep 28 = .ok (.iconst 1, 1) := by decide +kernel
theorem dX6_keep_29 : decode cX6_keep 29 = .ok (.putfield 175, 3) := by decide +kernel
theorem dX6_keep_32 : decode cX6_keep 32 = .ok (.aload_n 0, 1) := by decide +kernel
theorem dX6_keep_33 : decode cX6_keep 33 = .ok (.getfield 7, 3) := by decide +kernel
theorem dX6_keep_36 : decode cX6_keep 36 = .ok (.iconst 0, 1) := by decide +kernel
theorem dX6_keep_37 : decode cX6_keep 37 = .ok (.iaload, 1) := by decide +kernel
theorem dX6_keep_38 : decode cX6_keep 38 = .ok (.ireturn, 1) := by decide +kernel
theorem dX6_restore_0 : decode cX6_restore 0 = .ok (.aload_n 0, 1) := by decide +kernel
theorem dX6_restore_1 : decode cX6_restore 1 = .ok (.getfield 175, 3) := by decide +kernel
theorem dX6_restore_4 : decode cX6_restore 4 = .ok (.ifCond .ne 6, 3) := by decide +kernel
theorem dX6_restore_7 : decode cX6_restore 7 = .ok (.bipush (-5), 2) := by decide +kernel
theorem dX6_restore_9 : decode cX6_restore 9 = .ok (.ireturn, 1) := by decide +kernel
theorem dX6_restore_10 : decode cX6_restore 10 = .ok (.aload_n 0, 1) := by decide +kernel
theorem dX6_restore_11 : decode cX6_restore 11 = .ok (.invokevirtual 99, 3) := by decide +kernel
theorem dX6_restore_14 : decode cX6_restore 14 = .ok (.iconst 0, 1) := by decide +kernel
theorem dX6_restore_15 : decode cX6_restore 15 = .ok (.istore_n 1, 1) := by decide +kernel
theorem dX6_restore_16 : decode cX6_restore 16 = .ok (.iload_n 1, 1) := by decide +kernel
theorem dX6_restore_17 : decode cX6_restore 17 = .ok (.sipush 378, 3) := by decide +kernel
theorem dX6_restore_20 : decode cX6_restore 20 = .ok (.if_icmp .ge 21, 3) := by decide +kernel
theorem dX6_restore_23 : decode cX6_restore 23 = .ok (.aload_n 0, 1) := by decide +kernel
theorem dX6_restore_24 : decode cX6_restore 24 = .ok (.getfield 7, 3) := by decide +kernel
theorem dX6_restore_27 : decode cX6_restore 27 = .ok (.iload_n 1, 1) := by decide +kernel
theorem dX6_restore_28 : decode cX6_restore 28 = .ok (.aload_n 0, 1) := by decide +kernel
theorem dX6_restore_29 : decode cX6_restore 29 = .ok (.getfield 19, 3) := by decide +kernel
theorem dX6_restore_32 : decode cX6_restore 32 = .ok (.iload_n 1, 1) := by decide +kernel
theorem dX6_restore_33 : decode cX6_restore 33 = .ok (.iaload, 1) := by decide +kernel
theorem dX6_restore_34 : decode cX6_restore 34 = .ok (.iastore, 1) := by decide +kernel
theorem dX6_restore_35 : decode cX6_restore 35 = .ok (.iinc 1 1, 3) := by decide +kernel
theorem dX6_restore_38 : decode cX6_restore 38 = .ok (.goto (-22), 3) := by decide +kernel
theorem dX6_restore_41 : decode cX6_restore 41 = .ok (.aload_n 0, 1) := by decide +kernel
theorem dX6_restore_42 : decode cX6_restore 42 = .ok (.getfield 7, 3) := by decide +kernel
theorem dX6_restore_45 : decode cX6_restore 45 = .ok (.iconst 0, 1) := by decide +kernel
theorem dX6_restore_46 : decode cX6_restore 46 = .ok (.iaload, 1) := by decide +kernel
theorem dX6_restore_47 : decode cX6_restore 47 = .ok (.ireturn, 1) := by decide +kernel
theorem dX6_horse_0 : decode cX6_horse 0 = .ok (.iload_n 1, 1) := by decide +kernel
theorem dX6_horse_1 : decode cX6_horse 1 = .ok (.invokestatic 95, 3) := by decide +kernel
theorem dX6_horse_4 : decode cX6_horse 4 = .ok (.ifCond .ne 5, 3) := by decide +kernel
theorem dX6_horse_7 : decode cX6_horse 7 = .ok (.iconst (-1), 1) := by decide +kernel
theorem dX6_horse_8 : decode cX6_horse 8 = .ok (.ireturn, 1) := by decide +kernel
theorem dX6_horse_9 : decode cX6_horse 9 = .ok (.iload_n 2, 1) := by decide +kernel
theorem dX6_horse_10 : decode cX6_horse 10 = .ok (.iconst 0, 1) := by decide +kernel
theorem dX6_horse_11 : decode cX6_horse 11 = .ok (.bipush 8, 2) := by decide +kernel
theorem dX6_horse_13 : decode cX6_horse 13 = .ok (.invokestatic 38, 3) := by decide +kernel
theorem dX6_horse_16 : decode cX6_horse 16 = .ok (.ifCond .eq 16, 3) := by decide +kernel
theorem dX6_horse_19 : decode cX6_horse 19 = .ok (.aload_n 0, 1) := by decide +kernel
theorem dX6_horse_20 : decode cX6_horse 20 = .ok (.getfield 7, 3) := by decide +kernel
theorem dX6_horse_23 : decode cX6_horse 23 = .ok (.iload_n 1, 1) := by decide +kernel
theorem dX6_horse_24 : decode cX6_horse 24 = .ok (.iload_n 2, 1) := by decide +kernel
theorem dX6_horse_25 : decode cX6_horse 25 = .ok (.invokestatic 31, 3) := by decide +kernel
theorem dX6_horse_28 : decode cX6_horse 28 = .ok (.iaload, 1) := by decide +kernel
theorem dX6_horse_29 : decode cX6_horse 29 = .ok (.goto 5, 3) := by decide +kernel
theorem dX6_horse_32 : decode cX6_horse 32 = .ok (.bipush (-2), 2) := by decide +kernel
theorem dX6_horse_34 : decode cX6_horse 34 = .ok (.ireturn, 1) := by decide +kernel
theorem dX6_bookingsOf_0 : decode cX6_bookingsOf 0 = .ok (.iconst 0, 1) := by decide +kernel
theorem dX6_bookingsOf_1 : decode cX6_bookingsOf 1 = .ok (.istore_n 2, 1) := by decide +kernel
theorem dX6_bookingsOf_2 : decode cX6_bookingsOf 2 = .ok (.iconst 0, 1) := by decide +kernel
theorem dX6_bookingsOf_3 : decode cX6_bookingsOf 3 = .ok (.istore_n 3, 1) := by decide +kernel
theorem dX6_bookingsOf_4 : decode cX6_bookingsOf 4 = .ok (.iload_n 3, 1) := by decide +kernel
theorem dX6_bookingsOf_5 : decode cX6_bookingsOf 5 = .ok (.aload_n 0, 1) := by decide +kernel
theorem dX6_bookingsOf_6 : decode cX6_bookingsOf 6 = .ok (.getfield 7, 3) := by decide +kernel
theorem dX6_bookingsOf_9 : decode cX6_bookingsOf 9 = .ok (.sipush 192, 3) := by decide +kernel
theorem dX6_bookingsOf_12 : decode cX6_bookingsOf 12 = .ok (.iaload, 1) := by decide +kernel
theorem dX6_bookingsOf_13 : decode cX6_bookingsOf 13 = .ok (.if_icmp .ge 31, 3) := by decide +kernel
theorem dX6_bookingsOf_16 : decode cX6_bookingsOf 16 = .ok (.iload_n 2, 1) := by decide +kernel
theorem dX6_bookingsOf_17 : decode cX6_bookingsOf 17 = .ok (.aload_n 0, 1) := by decide +kernel
theorem dX6_bookingsOf_18 : decode cX6_bookingsOf 18 = .ok (.getfield 7, 3) := by decide +kernel
theorem dX6_bookingsOf_21 : decode cX6_bookingsOf 21 = .ok (.iload_n 3, 1) := by decide +kernel
theorem dX6_bookingsOf_22 : decode cX6_bookingsOf 22 = .ok (.iconst 2, 1) := by decide +kernel
theorem dX6_bookingsOf_23 : decode cX6_bookingsOf 23 = .ok (.invokestatic 75, 3) := by decide +kernel
theorem dX6_bookingsOf_26 : decode cX6_bookingsOf 26 = .ok (.iaload, 1) := by decide +kernel
theorem dX6_bookingsOf_27 : decode cX6_bookingsOf 27 = .ok (.iload_n 1, 1) := by decide +kernel
theorem dX6_bookingsOf_28 : decode cX6_bookingsOf 28 = .ok (.if_icmp .ne 7, 3) := by decide +kernel
theorem dX6_bookingsOf_31 : decode cX6_bookingsOf 31 = .ok (.iconst 1, 1) := by decide +kernel
theorem dX6_bookingsOf_32 : decode cX6_bookingsOf 32 = .ok (.goto 4, 3) := by decide +kernel
theorem dX6_bookingsOf_35 : decode cX6_bookingsOf 35 = .ok (.iconst 0, 1) := by decide +kernel
theorem dX6_bookingsOf_36 : decode cX6_bookingsOf 36 = .ok (.iadd, 1) := by decide +kernel
theorem dX6_bookingsOf_37 : decode cX6_bookingsOf 37 = .ok (.istore_n 2, 1) := by decide +kernel
theorem dX6_bookingsOf_38 : decode cX6_bookingsOf 38 = .ok (.iinc 3 1, 3) := by decide +kernel
theorem dX6_bookingsOf_41 : decode cX6_bookingsOf 41 = .ok (.goto (-37), 3) := by decide +kernel
theorem dX6_bookingsOf_44 : decode cX6_bookingsOf 44 = .ok (.iload_n 2, 1) := by decide +kernel
theorem dX6_bookingsOf_45 : decode cX6_bookingsOf 45 = .ok (.ireturn, 1) := by decide +kernel
theorem dX6_rider_0 : decode cX6_rider 0 = .ok (.iload_n 1, 1) := by decide +kernel
theorem dX6_rider_1 : decode cX6_rider 1 = .ok (.invokestatic 102, 3) := by decide +kernel
theorem dX6_rider_4 : decode cX6_rider 4 = .ok (.ifCond .ne 5, 3) := by decide +kernel
theorem dX6_rider_7 : decode cX6_rider 7 = .ok (.iconst (-1), 1) := by decide +kernel
theorem dX6_rider_8 : decode cX6_rider 8 = .ok (.ireturn, 1) := by decide +kernel
theorem dX6_rider_9 : decode cX6_rider 9 = .ok (.iload_n 2, 1) := by decide +kernel
theorem dX6_rider_10 : decode cX6_rider 10 = .ok (.tableswitch 102 0 9 #[54, 54, 54, 65, 71, 71, 71, 71, 84, 90], 54) := by decide +kernel
theorem dX6_rider_64 : decode cX6_rider 64 = .ok (.aload_n 0, 1) := by decide +kernel
theorem dX6_rider_65 : decode cX6_rider 65 = .ok (.getfield 7, 3) := by decide +kernel
theorem dX6_rider_68 : decode cX6_rider 68 = .ok (.iload_n 1, 1) := by decide +kernel
theorem dX6_rider_69 : decode cX6_rider 69 = .ok (.iload_n 2, 1) := by decide +kernel
theorem dX6_rider_70 : decode cX6_rider 70 = .ok (.invokestatic 35, 3) := by decide +kernel
theorem dX6_rider_73 : decode cX6_rider 73 = .ok (.iaload, 1) := by decide +kernel
theorem dX6_rider_74 : decode cX6_rider 74 = .ok (.ireturn, 1) := by decide +kernel
theorem dX6_rider_75 : decode cX6_rider 75 = .ok (.aload_n 0, 1) := by decide +kernel
theorem dX6_rider_76 : decode cX6_rider 76 = .ok (.iload_n 1, 1) := by decide +kernel
theorem dX6_rider_77 : decode cX6_rider 77 = .ok (.invokevirtual 50, 3) := by decide +kernel
theorem dX6_rider_80 : decode cX6_rider 80 = .ok (.ireturn, 1) := by decide +kernel
theorem dX6_rider_81 : decode cX6_rider 81 = .ok (.aload_n 0, 1) := by decide +kernel
theorem dX6_rider_82 : decode cX6_rider 82 = .ok (.getfield 7, 3) := by decide +kernel
theorem dX6_rider_85 : decode cX6_rider 85 = .ok (.iload_n 1, 1) := by decide +kernel
theorem dX6_rider_86 : decode cX6_rider 86 = .ok (.iload_n 2, 1) := by decide +kernel
theorem dX6_rider_87 : decode cX6_rider 87 = .ok (.iconst 1, 1) := by decide +kernel
theorem dX6_rider_88 : decode cX6_rider 88 = .ok (.isub, 1) := by decide +kernel
theorem dX6_rider_89 : decode cX6_rider 89 = .ok (.invokestatic 35, 3) := by decide +kernel
theorem dX6_rider_92 : decode cX6_rider 92 = .ok (.iaload, 1) := by decide +kernel
theorem dX6_rider_93 : decode cX6_rider 93 = .ok (.ireturn, 1) := by decide +kernel
theorem dX6_rider_94 : decode cX6_rider 94 = .ok (.aload_n 0, 1) := by decide +kernel
theorem dX6_rider_95 : decode cX6_rider 95 = .ok (.iload_n 1, 1) := by decide +kernel
theorem dX6_rider_96 : decode cX6_rider 96 = .ok (.invokevirtual 178, 3) := by decide +kernel
theorem dX6_rider_99 : decode cX6_rider 99 = .ok (.ireturn, 1) := by decide +kernel
theorem dX6_rider_100 : decode cX6_rider 100 = .ok (.aload_n 0, 1) := by decide +kernel
theorem dX6_rider_101 : decode cX6_rider 101 = .ok (.getfield 7, 3) := by decide +kernel
theorem dX6_rider_104 : decode cX6_rider 104 = .ok (.iload_n 1, 1) := by decide +kernel
theorem dX6_rider_105 : decode cX6_rider 105 = .ok (.bipush 7, 2) := by decide +kernel
theorem dX6_rider_107 : decode cX6_rider 107 = .ok (.invokestatic 35, 3) := by decide +kernel
theorem dX6_rider_110 : decode cX6_rider 110 = .ok (.iaload, 1) := by decide +kernel
theorem dX6_rider_111 : decode cX6_rider 111 = .ok (.ireturn, 1) := by decide +kernel
theorem dX6_rider_112 : decode cX6_rider 112 = .ok (.bipush (-2), 2) := by decide +kernel
theorem dX6_rider_114 : decode cX6_rider 114 = .ok (.ireturn, 1) := by decide +kernel
theorem dX6_ridersFor_0 : decode cX6_ridersFor 0 = .ok (.iconst 0, 1) := by decide +kernel
theorem dX6_ridersFor_1 : decode cX6_ridersFor 1 = .ok (.istore_n 3, 1) := by decide +kernel
theorem dX6_ridersFor_2 : decode cX6_ridersFor 2 = .ok (.iconst 0, 1) := by decide +kernel
theorem dX6_ridersFor_3 : decode cX6_ridersFor 3 = .ok (.istore 4, 2) := by decide +kernel
theorem dX6_ridersFor_5 : decode cX6_ridersFor 5 = .ok (.iload 4, 2) := by decide +kernel
theorem dX6_ridersFor_7 : decode cX6_ridersFor 7 = .ok (.aload_n 0, 1) := by decide +kernel
theorem dX6_ridersFor_8 : decode cX6_ridersFor 8 = .ok (.getfield 7, 3) := by decide +kernel
theorem dX6_ridersFor_11 : decode cX6_ridersFor 11 = .ok (.sipush 192, 3) := by decide +kernel
theorem dX6_ridersFor_14 : decode cX6_ridersFor 14 = .ok (.iaload, 1) := by decide +kernel
theorem dX6_ridersFor_15 : decode cX6_ridersFor 15 = .ok (.if_icmp .ge 71, 3) := by decide +kernel
theorem dX6_ridersFor_18 : decode cX6_ridersFor 18 = .ok (.aload_n 0, 1) := by decide +kernel
theorem dX6_ridersFor_19 : decode cX6_ridersFor 19 = .ok (.getfield 7, 3) := by decide +kernel
theorem dX6_ridersFor_22 : decode cX6_ridersFor 22 = .ok (.iload 4, 2) := by decide +kernel
theorem dX6_ridersFor_24 : decode cX6_ridersFor 24 = .ok (.iconst 0, 1) := by decide +kernel
theorem dX6_ridersFor_25 : decode cX6_ridersFor 25 = .ok (.invokestatic 75, 3) := by decide +kernel
theorem dX6_ridersFor_28 : decode cX6_ridersFor 28 = .ok (.iaload, 1) := by decide +kernel
theorem dX6_ridersFor_29 : decode cX6_ridersFor 29 = .ok (.iload_n 1, 1) := by decide +kernel
theorem dX6_ridersFor_30 : decode cX6_ridersFor 30 = .ok (.if_icmp .ne 22, 3) := by decide +kernel
theorem dX6_ridersFor_33 : decode cX6_ridersFor 33 = .ok (.aload_n 0, 1) := by decide +kernel
theorem dX6_ridersFor_34 : decode cX6_ridersFor 34 = .ok (.getfield 7, 3) := by decide +kernel
theorem dX6_ridersFor_37 : decode cX6_ridersFor 37 = .ok (.iload 4, 2) := by decide +kernel
theorem dX6_ridersFor_39 : decode cX6_ridersFor 39 = .ok (.iconst 1, 1) := by decide +kernel
theorem dX6_ridersFor_40 : decode cX6_ridersFor 40 = .ok (.invokestatic 75, 3) := by decide +kernel
theorem dX6_ridersFor_43 : decode cX6_ridersFor 43 = .ok (.iaload, 1) := by decide +kernel
theorem dX6_ridersFor_44 : decode cX6_ridersFor 44 = .ok (.iload_n 2, 1) := by decide +kernel
theorem dX6_ridersFor_45 : decode cX6_ridersFor 45 = .ok (.if_icmp .ne 7, 3) := by decide +kernel
theorem dX6_ridersFor_48 : decode cX6_ridersFor 48 = .ok (.iconst 1, 1) := by decide +kernel
theorem dX6_ridersFor_49 : decode cX6_ridersFor 49 = .ok (.goto 4, 3) := by decide +kernel
end
section
theorem dX6_ridersFor_52 : decode cX6_ridersFor 52 = .ok (.iconst 0, 1) := by decide +kernel
theorem dX6_ridersFor_53 : decode cX6_ridersFor 53 = .ok (.istore 5, 2) := by decide +kernel
theorem dX6_ridersFor_55 : decode cX6_ridersFor 55 = .ok (.iload_n 3, 1) := by decide +kernel
theorem dX6_ridersFor_56 : decode cX6_ridersFor 56 = .ok (.iload 5, 2) := by decide +kernel
theorem dX6_ridersFor_58 : decode cX6_ridersFor 58 = .ok (.ifCond .eq 19, 3) := by decide +kernel
theorem dX6_ridersFor_61 : decode cX6_ridersFor 61 = .ok (.iconst 1, 1) := by decide +kernel
theorem dX6_ridersFor_62 : decode cX6_ridersFor 62 = .ok (.aload_n 0, 1) := by decide +kernel
theorem dX6_ridersFor_63 : decode cX6_ridersFor 63 = .ok (.getfield 7, 3) := by decide +kernel
theorem dX6_ridersFor_66 : decode cX6_ridersFor 66 = .ok (.iload 4, 2) := by decide +kernel
theorem dX6_ridersFor_68 : decode cX6_ridersFor 68 = .ok (.iconst 2, 1) := by decide +kernel
theorem dX6_ridersFor_69 : decode cX6_ridersFor 69 = .ok (.invokestatic 75, 3) := by decide +kernel
theorem dX6_ridersFor_72 : decode cX6_ridersFor 72 = .ok (.iaload, 1) := by decide +kernel
theorem dX6_ridersFor_73 : decode cX6_ridersFor 73 = .ok (.ishl, 1) := by decide +kernel
theorem dX6_ridersFor_74 : decode cX6_ridersFor 74 = .ok (.goto 4, 3) := by decide +kernel
theorem dX6_ridersFor_77 : decode cX6_ridersFor 77 = .ok (.iconst 0, 1) := by decide +kernel
theorem dX6_ridersFor_78 : decode cX6_ridersFor 78 = .ok (.ior, 1) := by decide +kernel
theorem dX6_ridersFor_79 : decode cX6_ridersFor 79 = .ok (.istore_n 3, 1) := by decide +kernel
theorem dX6_ridersFor_80 : decode cX6_ridersFor 80 = .ok (.iinc 4 1, 3) := by decide +kernel
theorem dX6_ridersFor_83 : decode cX6_ridersFor 83 = .ok (.goto (-78), 3) := by decide +kernel
theorem dX6_ridersFor_86 : decode cX6_ridersFor 86 = .ok (.iload_n 3, 1) := by decide +kernel
theorem dX6_ridersFor_87 : decode cX6_ridersFor 87 = .ok (.ireturn, 1) := by decide +kernel
theorem dX6_lesson_0 : decode cX6_lesson 0 = .ok (.iload_n 2, 1) := by decide +kernel
theorem dX6_lesson_1 : decode cX6_lesson 1 = .ok (.invokestatic 111, 3) := by decide +kernel
theorem dX6_lesson_4 : decode cX6_lesson 4 = .ok (.ifCond .ne 5, 3) := by decide +kernel
theorem dX6_lesson_7 : decode cX6_lesson 7 = .ok (.iconst (-1), 1) := by decide +kernel
theorem dX6_lesson_8 : decode cX6_lesson 8 = .ok (.ireturn, 1) := by decide +kernel
theorem dX6_lesson_9 : decode cX6_lesson 9 = .ok (.iload_n 1, 1) := by decide +kernel
theorem dX6_lesson_10 : decode cX6_lesson 10 = .ok (.invokestatic 114, 3) := by decide +kernel
theorem dX6_lesson_13 : decode cX6_lesson 13 = .ok (.ifCond .eq 12, 3) := by decide +kernel
theorem dX6_lesson_16 : decode cX6_lesson 16 = .ok (.iload_n 3, 1) := by decide +kernel
theorem dX6_lesson_17 : decode cX6_lesson 17 = .ok (.iconst 0, 1) := by decide +kernel
theorem dX6_lesson_18 : decode cX6_lesson 18 = .ok (.iconst 2, 1) := by decide +kernel
theorem dX6_lesson_19 : decode cX6_lesson 19 = .ok (.invokestatic 38, 3) := by decide +kernel
theorem dX6_lesson_22 : decode cX6_lesson 22 = .ok (.ifCond .ne 6, 3) := by decide +kernel
theorem dX6_lesson_25 : decode cX6_lesson 25 = .ok (.bipush (-2), 2) := by decide +kernel
theorem dX6_lesson_27 : decode cX6_lesson 27 = .ok (.ireturn, 1) := by decide +kernel
theorem dX6_lesson_28 : decode cX6_lesson 28 = .ok (.aload_n 0, 1) := by decide +kernel
theorem dX6_lesson_29 : decode cX6_lesson 29 = .ok (.getfield 7, 3) := by decide +kernel
theorem dX6_lesson_32 : decode cX6_lesson 32 = .ok (.iconst 0, 1) := by decide +kernel
theorem dX6_lesson_33 : decode cX6_lesson 33 = .ok (.iaload, 1) := by decide +kernel
theorem dX6_lesson_34 : decode cX6_lesson 34 = .ok (.iload_n 1, 1) := by decide +kernel
theorem dX6_lesson_35 : decode cX6_lesson 35 = .ok (.iadd, 1) := by decide +kernel
theorem dX6_lesson_36 : decode cX6_lesson 36 = .ok (.istore 4, 2) := by decide +kernel
theorem dX6_lesson_38 : decode cX6_lesson 38 = .ok (.aload_n 0, 1) := by decide +kernel
theorem dX6_lesson_39 : decode cX6_lesson 39 = .ok (.iload 4, 2) := by decide +kernel
theorem dX6_lesson_41 : decode cX6_lesson 41 = .ok (.iload_n 2, 1) := by decide +kernel
theorem dX6_lesson_42 : decode cX6_lesson 42 = .ok (.invokevirtual 120, 3) := by decide +kernel
theorem dX6_lesson_45 : decode cX6_lesson 45 = .ok (.istore 5, 2) := by decide +kernel
theorem dX6_lesson_47 : decode cX6_lesson 47 = .ok (.iload_n 3, 1) := by decide +kernel
theorem dX6_lesson_48 : decode cX6_lesson 48 = .ok (.ifCond .ne 8, 3) := by decide +kernel
theorem dX6_lesson_51 : decode cX6_lesson 51 = .ok (.iload 5, 2) := by decide +kernel
theorem dX6_lesson_53 : decode cX6_lesson 53 = .ok (.goto 24, 3) := by decide +kernel
theorem dX6_lesson_56 : decode cX6_lesson 56 = .ok (.iload_n 3, 1) := by decide +kernel
theorem dX6_lesson_57 : decode cX6_lesson 57 = .ok (.iconst 1, 1) := by decide +kernel
theorem dX6_lesson_58 : decode cX6_lesson 58 = .ok (.if_icmp .ne 12, 3) := by decide +kernel
theorem dX6_lesson_61 : decode cX6_lesson 61 = .ok (.iconst 4, 1) := by decide +kernel
theorem dX6_lesson_62 : decode cX6_lesson 62 = .ok (.iload_n 2, 1) := by decide +kernel
theorem dX6_lesson_63 : decode cX6_lesson 63 = .ok (.isub, 1) := by decide +kernel
theorem dX6_lesson_64 : decode cX6_lesson 64 = .ok (.iload 5, 2) := by decide +kernel
theorem dX6_lesson_66 : decode cX6_lesson 66 = .ok (.isub, 1) := by decide +kernel
theorem dX6_lesson_67 : decode cX6_lesson 67 = .ok (.goto 10, 3) := by decide +kernel
theorem dX6_lesson_70 : decode cX6_lesson 70 = .ok (.aload_n 0, 1) := by decide +kernel
theorem dX6_lesson_71 : decode cX6_lesson 71 = .ok (.iload 4, 2) := by decide +kernel
theorem dX6_lesson_73 : decode cX6_lesson 73 = .ok (.iload_n 2, 1) := by decide +kernel
theorem dX6_lesson_74 : decode cX6_lesson 74 = .ok (.invokevirtual 181, 3) := by decide +kernel
theorem dX6_lesson_77 : decode cX6_lesson 77 = .ok (.ireturn, 1) := by decide +kernel
theorem dX6_fall_0 : decode cX6_fall 0 = .ok (.iload_n 1, 1) := by decide +kernel
theorem dX6_fall_1 : decode cX6_fall 1 = .ok (.ifCond .lt 12, 3) := by decide +kernel
theorem dX6_fall_4 : decode cX6_fall 4 = .ok (.iload_n 2, 1) := by decide +kernel
theorem dX6_fall_5 : decode cX6_fall 5 = .ok (.iconst 0, 1) := by decide +kernel
theorem dX6_fall_6 : decode cX6_fall 6 = .ok (.iconst 2, 1) := by decide +kernel
theorem dX6_fall_7 : decode cX6_fall 7 = .ok (.invokestatic 38, 3) := by decide +kernel
theorem dX6_fall_10 : decode cX6_fall 10 = .ok (.ifCond .ne 6, 3) := by decide +kernel
theorem dX6_fall_13 : decode cX6_fall 13 = .ok (.bipush (-2), 2) := by decide +kernel
theorem dX6_fall_15 : decode cX6_fall 15 = .ok (.ireturn, 1) := by decide +kernel
theorem dX6_fall_16 : decode cX6_fall 16 = .ok (.iload_n 1, 1) := by decide +kernel
theorem dX6_fall_17 : decode cX6_fall 17 = .ok (.aload_n 0, 1) := by decide +kernel
theorem dX6_fall_18 : decode cX6_fall 18 = .ok (.getfield 7, 3) := by decide +kernel
theorem dX6_fall_21 : decode cX6_fall 21 = .ok (.sipush 317, 3) := by decide +kernel
theorem dX6_fall_24 : decode cX6_fall 24 = .ok (.iaload, 1) := by decide +kernel
theorem dX6_fall_25 : decode cX6_fall 25 = .ok (.if_icmp .ge 20, 3) := by decide +kernel
theorem dX6_fall_28 : decode cX6_fall 28 = .ok (.aload_n 0, 1) := by decide +kernel
theorem dX6_fall_29 : decode cX6_fall 29 = .ok (.getfield 7, 3) := by decide +kernel
theorem dX6_fall_32 : decode cX6_fall 32 = .ok (.sipush 318, 3) := by decide +kernel
theorem dX6_fall_35 : decode cX6_fall 35 = .ok (.iconst 3, 1) := by decide +kernel
theorem dX6_fall_36 : decode cX6_fall 36 = .ok (.iload_n 1, 1) := by decide +kernel
theorem dX6_fall_37 : decode cX6_fall 37 = .ok (.imul, 1) := by decide +kernel
theorem dX6_fall_38 : decode cX6_fall 38 = .ok (.iadd, 1) := by decide +kernel
theorem dX6_fall_39 : decode cX6_fall 39 = .ok (.iload_n 2, 1) := by decide +kernel
theorem dX6_fall_40 : decode cX6_fall 40 = .ok (.iadd, 1) := by decide +kernel
theorem dX6_fall_41 : decode cX6_fall 41 = .ok (.iaload, 1) := by decide +kernel
theorem dX6_fall_42 : decode cX6_fall 42 = .ok (.goto 5, 3) := by decide +kernel
theorem dX6_fall_45 : decode cX6_fall 45 = .ok (.bipush (-5), 2) := by decide +kernel
theorem dX6_fall_47 : decode cX6_fall 47 = .ok (.ireturn, 1) := by decide +kernel
theorem dX6_reason_0 : decode cX6_reason 0 = .ok (.iload_n 1, 1) := by decide +kernel
theorem dX6_reason_1 : decode cX6_reason 1 = .ok (.invokestatic 95, 3) := by decide +kernel
theorem dX6_reason_4 : decode cX6_reason 4 = .ok (.ifCond .eq 23, 3) := by decide +kernel
theorem dX6_reason_7 : decode cX6_reason 7 = .ok (.iload_n 2, 1) := by decide +kernel
theorem dX6_reason_8 : decode cX6_reason 8 = .ok (.invokestatic 102, 3) := by decide +kernel
theorem dX6_reason_11 : decode cX6_reason 11 = .ok (.ifCond .eq 16, 3) := by decide +kernel
theorem dX6_reason_14 : decode cX6_reason 14 = .ok (.aload_n 0, 1) := by decide +kernel
theorem dX6_reason_15 : decode cX6_reason 15 = .ok (.iload_n 1, 1) := by decide +kernel
theorem dX6_reason_16 : decode cX6_reason 16 = .ok (.iload_n 2, 1) := by decide +kernel
theorem dX6_reason_17 : decode cX6_reason 17 = .ok (.aload_n 0, 1) := by decide +kernel
theorem dX6_reason_18 : decode cX6_reason 18 = .ok (.invokevirtual 82, 3) := by decide +kernel
theorem dX6_reason_21 : decode cX6_reason 21 = .ok (.invokevirtual 54, 3) := by decide +kernel
theorem dX6_reason_24 : decode cX6_reason 24 = .ok (.goto 4, 3) := by decide +kernel
theorem dX6_reason_27 : decode cX6_reason 27 = .ok (.iconst (-1), 1) := by decide +kernel
theorem dX6_reason_28 : decode cX6_reason 28 = .ok (.ireturn, 1) := by decide +kernel
theorem dX6_best_0 : decode cX6_best 0 = .ok (.iload_n 1, 1) := by decide +kernel
theorem dX6_best_1 : decode cX6_best 1 = .ok (.invokestatic 102, 3) := by decide +kernel
theorem dX6_best_4 : decode cX6_best 4 = .ok (.ifCond .ne 5, 3) := by decide +kernel
theorem dX6_best_7 : decode cX6_best 7 = .ok (.iconst (-1), 1) := by decide +kernel
theorem dX6_best_8 : decode cX6_best 8 = .ok (.ireturn, 1) := by decide +kernel
theorem dX6_best_9 : decode cX6_best 9 = .ok (.aload_n 0, 1) := by decide +kernel
theorem dX6_best_10 : decode cX6_best 10 = .ok (.invokevirtual 86, 3) := by decide +kernel
theorem dX6_best_13 : decode cX6_best 13 = .ok (.aload_n 0, 1) := by decide +kernel
theorem dX6_best_14 : decode cX6_best 14 = .ok (.iload_n 1, 1) := by decide +kernel
theorem dX6_best_15 : decode cX6_best 15 = .ok (.aload_n 0, 1) := by decide +kernel
theorem dX6_best_16 : decode cX6_best 16 = .ok (.invokevirtual 82, 3) := by decide +kernel
theorem dX6_best_19 : decode cX6_best 19 = .ok (.invokevirtual 61, 3) := by decide +kernel
theorem dX6_best_22 : decode cX6_best 22 = .ok (.ireturn, 1) := by decide +kernel
theorem dX6_takenIn_0 : decode cX6_takenIn 0 = .ok (.iload_n 1, 1) := by decide +kernel
theorem dX6_takenIn_1 : decode cX6_takenIn 1 = .ok (.invokestatic 95, 3) := by decide +kernel
theorem dX6_takenIn_4 : decode cX6_takenIn 4 = .ok (.ifCond .eq 10, 3) := by decide +kernel
theorem dX6_takenIn_7 : decode cX6_takenIn 7 = .ok (.iload_n 2, 1) := by decide +kernel
theorem dX6_takenIn_8 : decode cX6_takenIn 8 = .ok (.invokestatic 102, 3) := by decide +kernel
theorem dX6_takenIn_11 : decode cX6_takenIn 11 = .ok (.ifCond .ne 5, 3) := by decide +kernel
theorem dX6_takenIn_14 : decode cX6_takenIn 14 = .ok (.iconst (-1), 1) := by decide +kernel
theorem dX6_takenIn_15 : decode cX6_takenIn 15 = .ok (.ireturn, 1) := by decide +kernel
theorem dX6_takenIn_16 : decode cX6_takenIn 16 = .ok (.aload_n 0, 1) := by decide +kernel
theorem dX6_takenIn_17 : decode cX6_takenIn 17 = .ok (.invokevirtual 123, 3) := by decide +kernel
theorem dX6_takenIn_20 : decode cX6_takenIn 20 = .ok (.iconst 0, 1) := by decide +kernel
theorem dX6_takenIn_21 : decode cX6_takenIn 21 = .ok (.istore_n 3, 1) := by decide +kernel
theorem dX6_takenIn_22 : decode cX6_takenIn 22 = .ok (.iconst 0, 1) := by decide +kernel
theorem dX6_takenIn_23 : decode cX6_takenIn 23 = .ok (.istore 4, 2) := by decide +kernel
theorem dX6_takenIn_25 : decode cX6_takenIn 25 = .ok (.iload_n 3, 1) := by decide +kernel
theorem dX6_takenIn_26 : decode cX6_takenIn 26 = .ok (.sipush 200, 3) := by decide +kernel
theorem dX6_takenIn_29 : decode cX6_takenIn 29 = .ok (.if_icmp .gt 32, 3) := by decide +kernel
theorem dX6_takenIn_32 : decode cX6_takenIn 32 = .ok (.aload_n 0, 1) := by decide +kernel
theorem dX6_takenIn_33 : decode cX6_takenIn 33 = .ok (.iload_n 1, 1) := by decide +kernel
theorem dX6_takenIn_34 : decode cX6_takenIn 34 = .ok (.iload_n 2, 1) := by decide +kernel
theorem dX6_takenIn_35 : decode cX6_takenIn 35 = .ok (.aload_n 0, 1) := by decide +kernel
theorem dX6_takenIn_36 : decode cX6_takenIn 36 = .ok (.invokevirtual 82, 3) := by decide +kernel
theorem dX6_takenIn_39 : decode cX6_takenIn 39 = .ok (.invokevirtual 54, 3) := by decide +kernel
theorem dX6_takenIn_42 : decode cX6_takenIn 42 = .ok (.ifCond .eq 19, 3) := by decide +kernel
theorem dX6_takenIn_45 : decode cX6_takenIn 45 = .ok (.iload 4, 2) := by decide +kernel
theorem dX6_takenIn_47 : decode cX6_takenIn 47 = .ok (.aload_n 0, 1) := by decide +kernel
theorem dX6_takenIn_48 : decode cX6_takenIn 48 = .ok (.iconst 0, 1) := by decide +kernel
theorem dX6_takenIn_49 : decode cX6_takenIn 49 = .ok (.invokevirtual 132, 3) := by decide +kernel
theorem dX6_takenIn_52 : decode cX6_takenIn 52 = .ok (.iadd, 1) := by decide +kernel
theorem dX6_takenIn_53 : decode cX6_takenIn 53 = .ok (.istore 4, 2) := by decide +kernel
theorem dX6_takenIn_55 : decode cX6_takenIn 55 = .ok (.iinc 3 1, 3) := by decide +kernel
theorem dX6_takenIn_58 : decode cX6_takenIn 58 = .ok (.goto (-33), 3) := by decide +kernel
theorem dX6_takenIn_61 : decode cX6_takenIn 61 = .ok (.aload_n 0, 1) := by decide +kernel
theorem dX6_takenIn_62 : decode cX6_takenIn 62 = .ok (.invokevirtual 172, 3) := by decide +kernel
theorem dX6_takenIn_65 : decode cX6_takenIn 65 = .ok (.iload_n 3, 1) := by decide +kernel
theorem dX6_takenIn_66 : decode cX6_takenIn 66 = .ok (.sipush 200, 3) := by decide +kernel
theorem dX6_takenIn_69 : decode cX6_takenIn 69 = .ok (.if_icmp .le 8, 3) := by decide +kernel
theorem dX6_takenIn_72 : decode cX6_takenIn 72 = .ok (.bipush (-5), 2) := by decide +kernel
theorem dX6_takenIn_74 : decode cX6_takenIn 74 = .ok (.goto 4, 3) := by decide +kernel
theorem dX6_takenIn_77 : decode cX6_takenIn 77 = .ok (.iload_n 3, 1) := by decide +kernel
theorem dX6_takenIn_78 : decode cX6_takenIn 78 = .ok (.ireturn, 1) := by decide +kernel
theorem dX6_lameHorses_0 : decode cX6_lameHorses 0 = .ok (.iconst 0, 1) := by decide +kernel
theorem dX6_lameHorses_1 : decode cX6_lameHorses 1 = .ok (.istore_n 1, 1) := by decide +kernel
theorem dX6_lameHorses_2 : decode cX6_lameHorses 2 = .ok (.iconst 0, 1) := by decide +kernel
theorem dX6_lameHorses_3 : decode cX6_lameHorses 3 = .ok (.istore_n 2, 1) := by decide +kernel
theorem dX6_lameHorses_4 : decode cX6_lameHorses 4 = .ok (.iload_n 2, 1) := by decide +kernel
theorem dX6_lameHorses_5 : decode cX6_lameHorses 5 = .ok (.bipush 10, 2) := by decide +kernel
theorem dX6_lameHorses_7 : decode cX6_lameHorses 7 = .ok (.if_icmp .ge 30, 3) := by decide +kernel
theorem dX6_lameHorses_10 : decode cX6_lameHorses 10 = .ok (.iload_n 1, 1) := by decide +kernel
theorem dX6_lameHorses_11 : decode cX6_lameHorses 11 = .ok (.aload_n 0, 1) := by decide +kernel
theorem dX6_lameHorses_12 : decode cX6_lameHorses 12 = .ok (.getfield 7, 3) := by decide +kernel
theorem dX6_lameHorses_15 : decode cX6_lameHorses 15 = .ok (.iload_n 2, 1) := by decide +kernel
theorem dX6_lameHorses_16 : decode cX6_lameHorses 16 = .ok (.iconst 5, 1) := by decide +kernel
theorem dX6_lameHorses_17 : decode cX6_lameHorses 17 = .ok (.invokestatic 31, 3) := by decide +kernel
theorem dX6_lameHorses_20 : decode cX6_lameHorses 20 = .ok (.iaload, 1) := by decide +kernel
theorem dX6_lameHorses_21 : decode cX6_lameHorses 21 = .ok (.ifCond .le 7, 3) := by decide +kernel
theorem dX6_lameHorses_24 : decode cX6_lameHorses 24 = .ok (.iconst 1, 1) := by decide +kernel
theorem dX6_lameHorses_25 : decode cX6_lameHorses 25 = .ok (.goto 4, 3) := by decide +kernel
theorem dX6_lameHorses_28 : decode cX6_lameHorses 28 = .ok (.iconst 0, 1) := by decide +kernel
theorem dX6_lameHorses_29 : decode cX6_lameHorses 29 = .ok (.iadd, 1) := by decide +kernel
theorem dX6_lameHorses_30 : decode cX6_lameHorses 30 = .ok (.istore_n 1, 1) := by decide +kernel
theorem dX6_lameHorses_31 : decode cX6_lameHorses 31 = .ok (.iinc 2 1, 3) := by decide +kernel
theorem dX6_lameHorses_34 : decode cX6_lameHorses 34 = .ok (.goto (-30), 3) := by decide +kernel
theorem dX6_lameHorses_37 : decode cX6_lameHorses 37 = .ok (.iload_n 1, 1) := by decide +kernel
theorem dX6_lameHorses_38 : decode cX6_lameHorses 38 = .ok (.ireturn, 1) := by decide +kernel
theorem dX6_ifPassed_0 : decode cX6_ifPassed 0 = .ok (.iload_n 1, 1) := by decide +kernel
theorem dX6_ifPassed_1 : decode cX6_ifPassed 1 = .ok (.iconst 1, 1) := by decide +kernel
theorem dX6_ifPassed_2 : decode cX6_ifPassed 2 = .ok (.bipush 99, 2) := by decide +kernel
theorem dX6_ifPassed_4 : decode cX6_ifPassed 4 = .ok (.invokestatic 38, 3) := by decide +kernel
theorem dX6_ifPassed_7 : decode cX6_ifPassed 7 = .ok (.ifCond .eq 12, 3) := by decide +kernel
theorem dX6_ifPassed_10 : decode cX6_ifPassed 10 = .ok (.iload_n 2, 1) := by decide +kernel
theorem dX6_ifPassed_11 : decode cX6_ifPassed 11 = .ok (.iconst 0, 1) := by decide +kernel
theorem dX6_ifPassed_12 : decode cX6_ifPassed 12 = .ok (.iconst 3, 1) := by decide +kernel
theorem dX6_ifPassed_13 : decode cX6_ifPassed 13 = .ok (.invokestatic 38, 3) := by decide +kernel
theorem dX6_ifPassed_16 : decode cX6_ifPassed 16 = .ok (.ifCond .ne 6, 3) := by decide +kernel
theorem dX6_ifPassed_19 : decode cX6_ifPassed 19 = .ok (.bipush (-2), 2) := by decide +kernel
theorem dX6_ifPassed_21 : decode cX6_ifPassed 21 = .ok (.ireturn, 1) := by decide +kernel
theorem dX6_ifPassed_22 : decode cX6_ifPassed 22 = .ok (.aload_n 0, 1) := by decide +kernel
theorem dX6_ifPassed_23 : decode cX6_ifPassed 23 = .ok (.invokevirtual 123, 3) := by decide +kernel
theorem dX6_ifPassed_26 : decode cX6_ifPassed 26 = .ok (.iconst 0, 1) := by decide +kernel
theorem dX6_ifPassed_27 : decode cX6_ifPassed 27 = .ok (.istore_n 3, 1) := by decide +kernel
theorem dX6_ifPassed_28 : decode cX6_ifPassed 28 = .ok (.iconst 0, 1) := by decide +kernel
theorem dX6_ifPassed_29 : decode cX6_ifPassed 29 = .ok (.istore 4, 2) := by decide +kernel
theorem dX6_ifPassed_31 : decode cX6_ifPassed 31 = .ok (.iload 4, 2) := by decide +kernel
theorem dX6_ifPassed_33 : decode cX6_ifPassed 33 = .ok (.iload_n 1, 1) := by decide +kernel
theorem dX6_ifPassed_34 : decode cX6_ifPassed 34 = .ok (.if_icmp .ge 17, 3) := by decide +kernel
theorem dX6_ifPassed_37 : decode cX6_ifPassed 37 = .ok (.iload_n 3, 1) := by decide +kernel
theorem dX6_ifPassed_38 : decode cX6_ifPassed 38 = .ok (.aload_n 0, 1) := by decide +kernel
theorem dX6_ifPassed_39 : decode cX6_ifPassed 39 = .ok (.iconst 1, 1) := by decide +kernel
theorem dX6_ifPassed_40 : decode cX6_ifPassed 40 = .ok (.invokevirtual 132, 3) := by decide +kernel
theorem dX6_ifPassed_43 : decode cX6_ifPassed 43 = .ok (.iadd, 1) := by decide +kernel
theorem dX6_ifPassed_44 : decode cX6_ifPassed 44 = .ok (.istore_n 3, 1) := by decide +kernel
theorem dX6_ifPassed_45 : decode cX6_ifPassed 45 = .ok (.iinc 4 1, 3) := by decide +kernel
theorem dX6_ifPassed_48 : decode cX6_ifPassed 48 = .ok (.goto (-17), 3) := by decide +kernel
theorem dX6_ifPassed_51 : decode cX6_ifPassed 51 = .ok (.aload_n 0, 1) := by decide +kernel
theorem dX6_ifPassed_52 : decode cX6_ifPassed 52 = .ok (.getfield 7, 3) := by decide +kernel
theorem dX6_ifPassed_55 : decode cX6_ifPassed 55 = .ok (.sipush 315, 3) := by decide +kernel
theorem dX6_ifPassed_58 : decode cX6_ifPassed 58 = .ok (.iaload, 1) := by decide +kernel
theorem dX6_ifPassed_59 : decode cX6_ifPassed 59 = .ok (.aload_n 0, 1) := by decide +kernel
theorem dX6_ifPassed_60 : decode cX6_ifPassed 60 = .ok (.getfield 13, 3) := by decide +kernel
theorem dX6_ifPassed_63 : decode cX6_ifPassed 63 = .ok (.sipush 315, 3) := by decide +kernel
theorem dX6_ifPassed_66 : decode cX6_ifPassed 66 = .ok (.iaload, 1) := by decide +kernel
theorem dX6_ifPassed_67 : decode cX6_ifPassed 67 = .ok (.isub, 1) := by decide +kernel
theorem dX6_ifPassed_68 : decode cX6_ifPassed 68 = .ok (.istore 4, 2) := by decide +kernel
theorem dX6_ifPassed_70 : decode cX6_ifPassed 70 = .ok (.aload_n 0, 1) := by decide +kernel
theorem dX6_ifPassed_71 : decode cX6_ifPassed 71 = .ok (.getfield 7, 3) := by decide +kernel
theorem dX6_ifPassed_74 : decode cX6_ifPassed 74 = .ok (.sipush 314, 3) := by decide +kernel
theorem dX6_ifPassed_77 : decode cX6_ifPassed 77 = .ok (.iaload, 1) := by decide +kernel
theorem dX6_ifPassed_78 : decode cX6_ifPassed 78 = .ok (.aload_n 0, 1) := by decide +kernel
theorem dX6_ifPassed_79 : decode cX6_ifPassed 79 = .ok (.getfield 13, 3) := by decide +kernel
theorem dX6_ifPassed_82 : decode cX6_ifPassed 82 = .ok (.sipush 314, 3) := by decide +kernel
theorem dX6_ifPassed_85 : decode cX6_ifPassed 85 = .ok (.iaload, 1) := by decide +kernel
theorem dX6_ifPassed_86 : decode cX6_ifPassed 86 = .ok (.isub, 1) := by decide +kernel
theorem dX6_ifPassed_87 : decode cX6_ifPassed 87 = .ok (.istore 5, 2) := by decide +kernel
theorem dX6_ifPassed_89 : decode cX6_ifPassed 89 = .ok (.aload_n 0, 1) := by decide +kernel
theorem dX6_ifPassed_90 : decode cX6_ifPassed 90 = .ok (.invokevirtual 184, 3) := by decide +kernel
theorem dX6_ifPassed_93 : decode cX6_ifPassed 93 = .ok (.istore 6, 2) := by decide +kernel
theorem dX6_ifPassed_95 : decode cX6_ifPassed 95 = .ok (.aload_n 0, 1) := by decide +kernel
theorem dX6_ifPassed_96 : decode cX6_ifPassed 96 = .ok (.invokevirtual 172, 3) := by decide +kernel
theorem dX6_ifPassed_99 : decode cX6_ifPassed 99 = .ok (.iload_n 2, 1) := by decide +kernel
theorem dX6_ifPassed_100 : decode cX6_ifPassed 100 = .ok (.ifCond .ne 7, 3) := by decide +kernel
theorem dX6_ifPassed_103 : decode cX6_ifPassed 103 = .ok (.iload_n 3, 1) := by decide +kernel
theorem dX6_ifPassed_104 : decode cX6_ifPassed 104 = .ok (.goto 25, 3) := by decide +kernel
theorem dX6_ifPassed_107 : decode cX6_ifPassed 107 = .ok (.iload_n 2, 1) := by decide +kernel
theorem dX6_ifPassed_108 : decode cX6_ifPassed 108 = .ok (.iconst 1, 1) := by decide +kernel
theorem dX6_ifPassed_109 : decode cX6_ifPassed 109 = .ok (.if_icmp .ne 8, 3) := by decide +kernel
theorem dX6_ifPassed_112 : decode cX6_ifPassed 112 = .ok (.iload 4, 2) := by decide +kernel
theorem dX6_ifPassed_114 : decode cX6_ifPassed 114 = .ok (.goto 15, 3) := by decide +kernel
theorem dX6_ifPassed_117 : decode cX6_ifPassed 117 = .ok (.iload_n 2, 1) := by decide +kernel
theorem dX6_ifPassed_118 : decode cX6_ifPassed 118 = .ok (.iconst 2, 1) := by decide +kernel
theorem dX6_ifPassed_119 : decode cX6_ifPassed 119 = .ok (.if_icmp .ne 8, 3) := by decide +kernel
theorem dX6_ifPassed_122 : decode cX6_ifPassed 122 = .ok (.iload 5, 2) := by decide +kernel
theorem dX6_ifPassed_124 : decode cX6_ifPassed 124 = .ok (.goto 5, 3) := by decide +kernel
theorem dX6_ifPassed_127 : decode cX6_ifPassed 127 = .ok (.iload 6, 2) := by decide +kernel
theorem dX6_ifPassed_129 : decode cX6_ifPassed 129 = .ok (.ireturn, 1) := by decide +kernel
theorem dX6_busiest_0 : decode cX6_busiest 0 = .ok (.bipush (-5), 2) := by decide +kernel
theorem dX6_busiest_2 : decode cX6_busiest 2 = .ok (.istore_n 1, 1) := by decide +kernel
theorem dX6_busiest_3 : decode cX6_busiest 3 = .ok (.iconst 0, 1) := by decide +kernel
theorem dX6_busiest_4 : decode cX6_busiest 4 = .ok (.istore_n 2, 1) := by decide +kernel
theorem dX6_busiest_5 : decode cX6_busiest 5 = .ok (.iconst 0, 1) := by decide +kernel
theorem dX6_busiest_6 : decode cX6_busiest 6 = .ok (.istore_n 3, 1) := by decide +kernel
theorem dX6_busiest_7 : decode cX6_busiest 7 = .ok (.iload_n 3, 1) := by decide +kernel
theorem dX6_busiest_8 : decode cX6_busiest 8 = .ok (.bipush 100, 2) := by decide +kernel
theorem dX6_busiest_10 : decode cX6_busiest 10 = .ok (.if_icmp .ge 69, 3) := by decide +kernel
theorem dX6_busiest_13 : decode cX6_busiest 13 = .ok (.aload_n 0, 1) := by decide +kernel
theorem dX6_busiest_14 : decode cX6_busiest 14 = .ok (.getfield 7, 3) := by decide +kernel
theorem dX6_busiest_17 : decode cX6_busiest 17 = .ok (.iconst 0, 1) := by decide +kernel
theorem dX6_busiest_18 : decode cX6_busiest 18 = .ok (.iaload, 1) := by decide +kernel
theorem dX6_busiest_19 : decode cX6_busiest 19 = .ok (.iload_n 3, 1) := by decide +kernel
theorem dX6_busiest_20 : decode cX6_busiest 20 = .ok (.iadd, 1) := by decide +kernel
theorem dX6_busiest_21 : decode cX6_busiest 21 = .ok (.istore 4, 2) := by decide +kernel
theorem dX6_busiest_23 : decode cX6_busiest 23 = .ok (.aload_n 0, 1) := by decide +kernel
theorem dX6_busiest_24 : decode cX6_busiest 24 = .ok (.iload 4, 2) := by decide +kernel
theorem dX6_busiest_26 : decode cX6_busiest 26 = .ok (.iconst 0, 1) := by decide +kernel
theorem dX6_busiest_27 : decode cX6_busiest 27 = .ok (.invokevirtual 120, 3) := by decide +kernel
theorem dX6_busiest_30 : decode cX6_busiest 30 = .ok (.aload_n 0, 1) := by decide +kernel
theorem dX6_busiest_31 : decode cX6_busiest 31 = .ok (.iload 4, 2) := by decide +kernel
theorem dX6_busiest_33 : decode cX6_busiest 33 = .ok (.iconst 1, 1) := by decide +kernel
theorem dX6_busiest_34 : decode cX6_busiest 34 = .ok (.invokevirtual 120, 3) := by decide +kernel
theorem dX6_busiest_37 : decode cX6_busiest 37 = .ok (.iadd, 1) := by decide +kernel
theorem dX6_busiest_38 : decode cX6_busiest 38 = .ok (.aload_n 0, 1) := by decide +kernel
theorem dX6_busiest_39 : decode cX6_busiest 39 = .ok (.iload 4, 2) := by decide +kernel
theorem dX6_busiest_41 : decode cX6_busiest 41 = .ok (.iconst 2, 1) := by decide +kernel
theorem dX6_busiest_42 : decode cX6_busiest 42 = .ok (.invokevirtual 120, 3) := by decide +kernel
theorem dX6_busiest_45 : decode cX6_busiest 45 = .ok (.iadd, 1) := by decide +kernel
theorem dX6_busiest_46 : decode cX6_busiest 46 = .ok (.istore 5, 2) := by decide +kernel
theorem dX6_busiest_48 : decode cX6_busiest 48 = .ok (.iload 5, 2) := by decide +kernel
theorem dX6_busiest_50 : decode cX6_busiest 50 = .ok (.iload_n 2, 1) := by decide +kernel
theorem dX6_busiest_51 : decode cX6_busiest 51 = .ok (.if_icmp .le 7, 3) := by decide +kernel
theorem dX6_busiest_54 : decode cX6_busiest 54 = .ok (.iload_n 3, 1) := by decide +kernel
theorem dX6_busiest_55 : decode cX6_busiest 55 = .ok (.goto 4, 3) := by decide +kernel
theorem dX6_busiest_58 : decode cX6_busiest 58 = .ok (.iload_n 1, 1) := by decide +kernel
theorem dX6_busiest_59 : decode cX6_busiest 59 = .ok (.istore_n 1, 1) := by decide +kernel
theorem dX6_busiest_60 : decode cX6_busiest 60 = .ok (.iload 5, 2) := by decide +kernel
theorem dX6_busiest_62 : decode cX6_busiest 62 = .ok (.iload_n 2, 1) := by decide +kernel
theorem dX6_busiest_63 : decode cX6_busiest 63 = .ok (.if_icmp .le 8, 3) := by decide +kernel
theorem dX6_busiest_66 : decode cX6_busiest 66 = .ok (.iload 5, 2) := by decide +kernel
theorem dX6_busiest_68 : decode cX6_busiest 68 = .ok (.goto 4, 3) := by decide +kernel
theorem dX6_busiest_71 : decode cX6_busiest 71 = .ok (.iload_n 2, 1) := by decide +kernel
theorem dX6_busiest_72 : decode cX6_busiest 72 = .ok (.istore_n 2, 1) := by decide +kernel
theorem dX6_busiest_73 : decode cX6_busiest 73 = .ok (.iinc 3 1, 3) := by decide +kernel
theorem dX6_busiest_76 : decode cX6_busiest 76 = .ok (.goto (-69), 3) := by decide +kernel
theorem dX6_busiest_79 : decode cX6_busiest 79 = .ok (.iload_n 1, 1) := by decide +kernel
theorem dX6_busiest_80 : decode cX6_busiest 80 = .ok (.ireturn, 1) := by decide +kernel
theorem dX6_tiredness_0 : decode cX6_tiredness 0 = .ok (.iconst 0, 1) := by decide +kernel
theorem dX6_tiredness_1 : decode cX6_tiredness 1 = .ok (.istore_n 1, 1) := by decide +kernel
theorem dX6_tiredness_2 : decode cX6_tiredness 2 = .ok (.iconst 0, 1) := by decide +kernel
theorem dX6_tiredness_3 : decode cX6_tiredness 3 = .ok (.istore_n 2, 1) := by decide +kernel
theorem dX6_tiredness_4 : decode cX6_tiredness 4 = .ok (.iload_n 2, 1) := by decide +kernel
theorem dX6_tiredness_5 : decode cX6_tiredness 5 = .ok (.bipush 10, 2) := by decide +kernel
theorem dX6_tiredness_7 : decode cX6_tiredness 7 = .ok (.if_icmp .ge 22, 3) := by decide +kernel
theorem dX6_tiredness_10 : decode cX6_tiredness 10 = .ok (.iload_n 1, 1) := by decide +kernel
theorem dX6_tiredness_11 : decode cX6_tiredness 11 = .ok (.aload_n 0, 1) := by decide +kernel
theorem dX6_tiredness_12 : decode cX6_tiredness 12 = .ok (.getfield 7, 3) := by decide +kernel
theorem dX6_tiredness_15 : decode cX6_tiredness 15 = .ok (.iload_n 2, 1) := by decide +kernel
theorem dX6_tiredness_16 : decode cX6_tiredness 16 = .ok (.iconst 2, 1) := by decide +kernel
theorem dX6_tiredness_17 : decode cX6_tiredness 17 = .ok (.invokestatic 31, 3) := by decide +kernel
theorem dX6_tiredness_20 : decode cX6_tiredness 20 = .ok (.iaload, 1) := by decide +kernel
theorem dX6_tiredness_21 : decode cX6_tiredness 21 = .ok (.iadd, 1) := by decide +kernel
theorem dX6_tiredness_22 : decode cX6_tiredness 22 = .ok (.istore_n 1, 1) := by decide +kernel
theorem dX6_tiredness_23 : decode cX6_tiredness 23 = .ok (.iinc 2 1, 3) := by decide +kernel
theorem dX6_tiredness_26 : decode cX6_tiredness 26 = .ok (.goto (-22), 3) := by decide +kernel
theorem dX6_tiredness_29 : decode cX6_tiredness 29 = .ok (.iload_n 1, 1) := by decide +kernel
theorem dX6_tiredness_30 : decode cX6_tiredness 30 = .ok (.ireturn, 1) := by decide +kernel
theorem dX6_count_0 : decode cX6_count 0 = .ok (.iload_n 1, 1) := by decide +kernel
theorem dX6_count_1 : decode cX6_count 1 = .ok (.bipush 12, 2) := by decide +kernel
theorem dX6_count_3 : decode cX6_count 3 = .ok (.bipush 16, 2) := by decide +kernel
theorem dX6_count_5 : decode cX6_count 5 = .ok (.invokestatic 38, 3) := by decide +kernel
theorem dX6_count_8 : decode cX6_count 8 = .ok (.ifCond .eq 17, 3) := by decide +kernel
theorem dX6_count_11 : decode cX6_count 11 = .ok (.aload_n 0, 1) := by decide +kernel
theorem dX6_count_12 : decode cX6_count 12 = .ok (.getfield 7, 3) := by decide +kernel
theorem dX6_count_15 : decode cX6_count 15 = .ok (.sipush 187, 3) := by decide +kernel
theorem dX6_count_18 : decode cX6_count 18 = .ok (.iload_n 1, 1) := by decide +kernel
theorem dX6_count_19 : decode cX6_count 19 = .ok (.iadd, 1) := by decide +kernel
theorem dX6_count_20 : decode cX6_count 20 = .ok (.bipush 12, 2) := by decide +kernel
theorem dX6_count_22 : decode cX6_count 22 = .ok (.isub, 1) := by decide +kernel
theorem dX6_count_23 : decode cX6_count 23 = .ok (.iaload, 1) := by decide +kernel
theorem dX6_count_24 : decode cX6_count 24 = .ok (.ireturn, 1) := by decide +kernel
theorem dX6_count_25 : decode cX6_count 25 = .ok (.iload_n 1, 1) := by decide +kernel
theorem dX6_count_26 : decode cX6_count 26 = .ok (.tableswitch 186 0 18 #[90, 97, 107, 117, 126, 126, 126, 139, 144, 153, 158, 171, 186, 186, 186, 186, 186, 176, 181], 90) := by decide +kernel
theorem dX6_count_116 : decode cX6_count 116 = .ok (.aload_n 0, 1) := by decide +kernel
theorem dX6_count_117 : decode cX6_count 117 = .ok (.getfield 7, 3) := by decide +kernel
theorem dX6_count_120 : decode cX6_count 120 = .ok (.iconst 0, 1) := by decide +kernel
theorem dX6_count_121 : decode cX6_count 121 = .ok (.iaload, 1) := by decide +kernel
theorem dX6_count_122 : decode cX6_count 122 = .ok (.ireturn, 1) := by decide +kernel
theorem dX6_count_123 : decode cX6_count 123 = .ok (.aload_n 0, 1) := by decide +kernel
theorem dX6_count_124 : decode cX6_count 124 = .ok (.getfield 7, 3) := by decide +kernel
theorem dX6_count_127 : decode cX6_count 127 = .ok (.iconst 0, 1) := by decide +kernel
theorem dX6_count_128 : decode cX6_count 128 = .ok (.iaload, 1) := by decide +kernel
theorem dX6_count_129 : decode cX6_count 129 = .ok (.bipush 10, 2) := by decide +kernel
theorem dX6_count_131 : decode cX6_count 131 = .ok (.idiv, 1) := by decide +kernel
theorem dX6_count_132 : decode cX6_count 132 = .ok (.ireturn, 1) := by decide +kernel
theorem dX6_count_133 : decode cX6_count 133 = .ok (.aload_n 0, 1) := by decide +kernel
theorem dX6_count_134 : decode cX6_count 134 = .ok (.getfield 7, 3) := by decide +kernel
theorem dX6_count_137 : decode cX6_count 137 = .ok (.iconst 0, 1) := by decide +kernel
theorem dX6_count_138 : decode cX6_count 138 = .ok (.iaload, 1) := by decide +kernel
theorem dX6_count_139 : decode cX6_count 139 = .ok (.bipush 10, 2) := by decide +kernel
theorem dX6_count_141 : decode cX6_count 141 = .ok (.irem, 1) := by decide +kernel
theorem dX6_count_142 : decode cX6_count 142 = .ok (.ireturn, 1) := by decide +kernel
theorem dX6_count_143 : decode cX6_count 143 = .ok (.aload_n 0, 1) := by decide +kernel
theorem dX6_count_144 : decode cX6_count 144 = .ok (.getfield 7, 3) := by decide +kernel
theorem dX6_count_147 : decode cX6_count 147 = .ok (.sipush 192, 3) := by decide +kernel
theorem dX6_count_150 : decode cX6_count 150 = .ok (.iaload, 1) := by decide +kernel
theorem dX6_count_151 : decode cX6_count 151 = .ok (.ireturn, 1) := by decide +kernel
theorem dX6_count_152 : decode cX6_count 152 = .ok (.aload_n 0, 1) := by decide +kernel
theorem dX6_count_153 : decode cX6_count 153 = .ok (.getfield 7, 3) := by decide +kernel
theorem dX6_count_156 : decode cX6_count 156 = .ok (.sipush 313, 3) := by decide +kernel
theorem dX6_count_159 : decode cX6_count 159 = .ok (.iload_n 1, 1) := by decide +kernel
theorem dX6_count_160 : decode cX6_count 160 = .ok (.iadd, 1) := by decide +kernel
theorem dX6_count_161 : decode cX6_count 161 = .ok (.iconst 4, 1) := by decide +kernel
theorem dX6_count_162 : decode cX6_count 162 = .ok (.isub, 1) := by decide +kernel
theorem dX6_count_163 : decode cX6_count 163 = .ok (.iaload, 1) := by decide +kernel
theorem dX6_count_164 : decode cX6_count 164 = .ok (.ireturn, 1) := by decide +kernel
theorem dX6_count_165 : decode cX6_count 165 = .ok (.aload_n 0, 1) := by decide +kernel
theorem dX6_count_166 : decode cX6_count 166 = .ok (.invokevirtual 184, 3) := by decide +kernel
theorem dX6_count_169 : decode cX6_count 169 = .ok (.ireturn, 1) := by decide +kernel
theorem dX6_count_170 : decode cX6_count 170 = .ok (.aload_n 0, 1) := by decide +kernel
theorem dX6_count_171 : decode cX6_count 171 = .ok (.getfield 7, 3) := by decide +kernel
theorem dX6_count_174 : decode cX6_count 174 = .ok (.sipush 316, 3) := by decide +kernel
theorem dX6_count_177 : decode cX6_count 177 = .ok (.iaload, 1) := by decide +kernel
theorem dX6_count_178 : decode cX6_count 178 = .ok (.ireturn, 1) := by decide +kernel
theorem dX6_count_179 : decode cX6_count 179 = .ok (.aload_n 0, 1) := by decide +kernel
theorem dX6_count_180 : decode cX6_count 180 = .ok (.invokevirtual 187, 3) := by decide +kernel
theorem dX6_count_183 : decode cX6_count 183 = .ok (.ireturn, 1) := by decide +kernel
theorem dX6_count_184 : decode cX6_count 184 = .ok (.aload_n 0, 1) := by decide +kernel
theorem dX6_count_185 : decode cX6_count 185 = .ok (.invokevirtual 46, 3) := by decide +kernel
theorem dX6_count_188 : decode cX6_count 188 = .ok (.ifCond .eq 7, 3) := by decide +kernel
theorem dX6_count_191 : decode cX6_count 191 = .ok (.iconst 1, 1) := by decide +kernel
theorem dX6_count_192 : decode cX6_count 192 = .ok (.goto 4, 3) := by decide +kernel
theorem dX6_count_195 : decode cX6_count 195 = .ok (.iconst 0, 1) := by decide +kernel
theorem dX6_count_196 : decode cX6_count 196 = .ok (.ireturn, 1) := by decide +kernel
theorem dX6_count_197 : decode cX6_count 197 = .ok (.aload_n 0, 1) := by decide +kernel
theorem dX6_count_198 : decode cX6_count 198 = .ok (.invokevirtual 82, 3) := by decide +kernel
theorem dX6_count_201 : decode cX6_count 201 = .ok (.ireturn, 1) := by decide +kernel
theorem dX6_count_202 : decode cX6_count 202 = .ok (.aload_n 0, 1) := by decide +kernel
theorem dX6_count_203 : decode cX6_count 203 = .ok (.getfield 42, 3) := by decide +kernel
theorem dX6_count_206 : decode cX6_count 206 = .ok (.ireturn, 1) := by decide +kernel
theorem dX6_count_207 : decode cX6_count 207 = .ok (.aload_n 0, 1) := by decide +kernel
theorem dX6_count_208 : decode cX6_count 208 = .ok (.getfield 136, 3) := by decide +kernel
theorem dX6_count_211 : decode cX6_count 211 = .ok (.ireturn, 1) := by decide +kernel
theorem dX6_count_212 : decode cX6_count 212 = .ok (.bipush (-2), 2) := by decide +kernel
theorem dX6_count_214 : decode cX6_count 214 = .ok (.ireturn, 1) := by decide +kernel
theorem dL_law_0 : decode cL_law 0 = .ok (.new 7, 3) := by decide +kernel
theorem dL_law_3 : decode cL_law 3 = .ok (.dup, 1) := by decide +kernel
theorem dL_law_4 : decode cL_law 4 = .ok (.invokespecial 9, 3) := by decide +kernel
theorem dL_law_7 : decode cL_law 7 = .ok (.astore_n 1, 1) := by decide +kernel
theorem dL_law_8 : decode cL_law 8 = .ok (.new 10, 3) := by decide +kernel
theorem dL_law_11 : decode cL_law 11 = .ok (.dup, 1) := by decide +kernel
theorem dL_law_12 : decode cL_law 12 = .ok (.invokespecial 12, 3) := by decide +kernel
theorem dL_law_15 : decode cL_law 15 = .ok (.astore_n 2, 1) := by decide +kernel
theorem dL_law_16 : decode cL_law 16 = .ok (.iconst 0, 1) := by decide +kernel
theorem dL_law_17 : decode cL_law 17 = .ok (.istore_n 3, 1) := by decide +kernel
theorem dL_law_18 : decode cL_law 18 = .ok (.iload_n 3, 1) := by decide +kernel
theorem dL_law_19 : decode cL_law 19 = .ok (.aload_n 0, 1) := by decide +kernel
theorem dL_law_20 : decode cL_law 20 = .ok (.arraylength, 1) := by decide +kernel
theorem dL_law_21 : decode cL_law 21 = .ok (.iconst 4, 1) := by decide +kernel
theorem dL_law_22 : decode cL_law 22 = .ok (.isub, 1) := by decide +kernel
theorem dL_law_23 : decode cL_law 23 = .ok (.if_icmp .gt 727, 3) := by decide +kernel
theorem dL_law_26 : decode cL_law 26 = .ok (.aload_n 0, 1) := by decide +kernel
theorem dL_law_27 : decode cL_law 27 = .ok (.iload_n 3, 1) := by decide +kernel
theorem dL_law_28 : decode cL_law 28 = .ok (.iaload, 1) := by decide +kernel
theorem dL_law_29 : decode cL_law 29 = .ok (.bipush 31, 2) := by decide +kernel
theorem dL_law_31 : decode cL_law 31 = .ok (.iand, 1) := by decide +kernel
theorem dL_law_32 : decode cL_law 32 = .ok (.tableswitch 712 0 21 #[104, 147, 190, 223, 266, 299, 322, 347, 360, 373, 386, 399, 412, 445, 478, 521, 554, 587, 610, 643, 676, 689], 104) := by decide +kernel
theorem dL_law_136 : decode cL_law 136 = .ok (.aload_n 1, 1) := by decide +kernel
theorem dL_law_137 : decode cL_law 137 = .ok (.aload_n 0, 1) := by decide +kernel
theorem dL_law_138 : decode cL_law 138 = .ok (.iload_n 3, 1) := by decide +kernel
theorem dL_law_139 : decode cL_law 139 = .ok (.iconst 1, 1) := by decide +kernel
theorem dL_law_140 : decode cL_law 140 = .ok (.iadd, 1) := by decide +kernel
theorem dL_law_141 : decode cL_law 141 = .ok (.iaload, 1) := by decide +kernel
theorem dL_law_142 : decode cL_law 142 = .ok (.aload_n 0, 1) := by decide +kernel
theorem dL_law_143 : decode cL_law 143 = .ok (.iload_n 3, 1) := by decide +kernel
theorem dL_law_144 : decode cL_law 144 = .ok (.iconst 2, 1) := by decide +kernel
theorem dL_law_145 : decode cL_law 145 = .ok (.iadd, 1) := by decide +kernel
theorem dL_law_146 : decode cL_law 146 = .ok (.iaload, 1) := by decide +kernel
theorem dL_law_147 : decode cL_law 147 = .ok (.aload_n 0, 1) := by decide +kernel
theorem dL_law_148 : decode cL_law 148 = .ok (.iload_n 3, 1) := by decide +kernel
theorem dL_law_149 : decode cL_law 149 = .ok (.iconst 3, 1) := by decide +kernel
theorem dL_law_150 : decode cL_law 150 = .ok (.iadd, 1) := by decide +kernel
theorem dL_law_151 : decode cL_law 151 = .ok (.iaload, 1) := by decide +kernel
theorem dL_law_152 : decode cL_law 152 = .ok (.invokevirtual 13, 3) := by decide +kernel
theorem dL_law_155 : decode cL_law 155 = .ok (.aload_n 2, 1) := by decide +kernel
theorem dL_law_156 : decode cL_law 156 = .ok (.aload_n 0, 1) := by decide +kernel
theorem dL_law_157 : decode cL_law 157 = .ok (.iload_n 3, 1) := by decide +kernel
theorem dL_law_158 : decode cL_law 158 = .ok (.iconst 1, 1) := by decide +kernel
theorem dL_law_159 : decode cL_law 159 = .ok (.iadd, 1) := by decide +kernel
theorem dL_law_160 : decode cL_law 160 = .ok (.iaload, 1) := by decide +kernel
theorem dL_law_161 : decode cL_law 161 = .ok (.aload_n 0, 1) := by decide +kernel
theorem dL_law_162 : decode cL_law 162 = .ok (.iload_n 3, 1) := by decide +kernel
theorem dL_law_163 : decode cL_law 163 = .ok (.iconst 2, 1) := by decide +kernel
theorem dL_law_164 : decode cL_law 164 = .ok (.iadd, 1) := by decide +kernel
theorem dL_law_165 : decode cL_law 165 = .ok (.iaload, 1) := by decide +kernel
theorem dL_law_166 : decode cL_law 166 = .ok (.aload_n 0, 1) := by decide +kernel
theorem dL_law_167 : decode cL_law 167 = .ok (.iload_n 3, 1) := by decide +kernel
theorem dL_law_168 : decode cL_law 168 = .ok (.iconst 3, 1) := by decide +kernel
theorem dL_law_169 : decode cL_law 169 = .ok (.iadd, 1) := by decide +kernel
theorem dL_law_170 : decode cL_law 170 = .ok (.iaload, 1) := by decide +kernel
theorem dL_law_171 : decode cL_law 171 = .ok (.invokevirtual 17, 3) := by decide +kernel
theorem dL_law_174 : decode cL_law 174 = .ok (.if_icmp .eq 570, 3) := by decide +kernel
theorem dL_law_177 : decode cL_law 177 = .ok (.iconst 0, 1) := by decide +kernel
theorem dL_law_178 : decode cL_law 178 = .ok (.ireturn, 1) := by decide +kernel
theorem dL_law_179 : decode cL_law 179 = .ok (.aload_n 1, 1) := by decide +kernel
theorem dL_law_180 : decode cL_law 180 = .ok (.aload_n 0, 1) := by decide +kernel
theorem dL_law_181 : decode cL_law 181 = .ok (.iload_n 3, 1) := by decide +kernel
theorem dL_law_182 : decode cL_law 182 = .ok (.iconst 1, 1) := by decide +kernel
theorem dL_law_183 : decode cL_law 183 = .ok (.iadd, 1) := by decide +kernel
theorem dL_law_184 : decode cL_law 184 = .ok (.iaload, 1) := by decide +kernel
theorem dL_law_185 : decode cL_law 185 = .ok (.aload_n 0, 1) := by decide +kernel
theorem dL_law_186 : decode cL_law 186 = .ok (.iload_n 3, 1) := by decide +kernel
theorem dL_law_187 : decode cL_law 187 = .ok (.iconst 2, 1) := by decide +kernel
theorem dL_law_188 : decode cL_law 188 = .ok (.iadd, 1) := by decide +kernel
theorem dL_law_189 : decode cL_law 189 = .ok (.iaload, 1) := by decide +kernel
theorem dL_law_190 : decode cL_law 190 = .ok (.aload_n 0, 1) := by decide +kernel
theorem dL_law_191 : decode cL_law 191 = .ok (.iload_n 3, 1) := by decide +kernel
theorem dL_law_192 : decode cL_law 192 = .ok (.iconst 3, 1) := by decide +kernel
theorem dL_law_193 : decode cL_law 193 = .ok (.iadd, 1) := by decide +kernel
theorem dL_law_194 : decode cL_law 194 = .ok (.iaload, 1) := by decide +kernel
theorem dL_law_195 : decode cL_law 195 = .ok (.invokevirtual 18, 3) := by decide +kernel
theorem dL_law_198 : decode cL_law 198 = .ok (.aload_n 2, 1) := by decide +kernel
theorem dL_law_199 : decode cL_law 199 = .ok (.aload_n 0, 1) := by decide +kernel
theorem dL_law_200 : decode cL_law 200 = .ok (.iload_n 3, 1) := by decide +kernel
theorem dL_law_201 : decode cL_law 201 = .ok (.iconst 1, 1) := by decide +kernel
theorem dL_law_202 : decode cL_law 202 = .ok (.iadd, 1) := by decide +kernel
theorem dL_law_203 : decode cL_law 203 = .ok (.iaload, 1) := by decide +kernel
theorem dL_law_204 : decode cL_law 204 = .ok (.aload_n 0, 1) := by decide +kernel
theorem dL_law_205 : decode cL_law 205 = .ok (.iload_n 3, 1) := by decide +kernel
theorem dL_law_206 : decode cL_law 206 = .ok (.iconst 2, 1) := by decide +kernel
theorem dL_law_207 : decode cL_law 207 = .ok (.iadd, 1) := by decide +kernel
theorem dL_law_208 : decode cL_law 208 = .ok (.iaload, 1) := by decide +kernel
theorem dL_law_209 : decode cL_law 209 = .ok (.aload_n 0, 1) := by decide +kernel
theorem dL_law_210 : decode cL_law 210 = .ok (.iload_n 3, 1) := by decide +kernel
theorem dL_law_211 : decode cL_law 211 = .ok (.iconst 3, 1) := by decide +kernel
theorem dL_law_212 : decode cL_law 212 = .ok (.iadd, 1) := by decide +kernel
theorem dL_law_213 : decode cL_law 213 = .ok (.iaload, 1) := by decide +kernel
theorem dL_law_214 : decode cL_law 214 = .ok (.invokevirtual 21, 3) := by decide +kernel
theorem dL_law_217 : decode cL_law 217 = .ok (.if_icmp .eq 527, 3) := by decide +kernel
theorem dL_law_220 : decode cL_law 220 = .ok (.iconst 0, 1) := by decide +kernel
theorem dL_law_221 : decode cL_law 221 = .ok (.ireturn, 1) := by decide +kernel
theorem dL_law_222 : decode cL_law 222 = .ok (.aload_n 1, 1) := by decide +kernel
theorem dL_law_223 : decode cL_law 223 = .ok (.aload_n 0, 1) := by decide +kernel
theorem dL_law_224 : decode cL_law 224 = .ok (.iload_n 3, 1) := by decide +kernel
theorem dL_law_225 : decode cL_law 225 = .ok (.iconst 1, 1) := by decide +kernel
theorem dL_law_226 : decode cL_law 226 = .ok (.iadd, 1) := by decide +kernel
theorem dL_law_227 : decode cL_law 227 = .ok (.iaload, 1) := by decide +kernel
theorem dL_law_228 : decode cL_law 228 = .ok (.aload_n 0, 1) := by decide +kernel
theorem dL_law_229 : decode cL_law 229 = .ok (.iload_n 3, 1) := by decide +kernel
theorem dL_law_230 : decode cL_law 230 = .ok (.iconst 2, 1) := by decide +kernel
theorem dL_law_231 : decode cL_law 231 = .ok (.iadd, 1) := by decide +kernel
theorem dL_law_232 : decode cL_law 232 = .ok (.iaload, 1) := by decide +kernel
theorem dL_law_233 : decode cL_law 233 = .ok (.invokevirtual 22, 3) := by decide +kernel
theorem dL_law_236 : decode cL_law 236 = .ok (.aload_n 2, 1) := by decide +kernel
theorem dL_law_237 : decode cL_law 237 = .ok (.aload_n 0, 1) := by decide +kernel
theorem dL_law_238 : decode cL_law 238 = .ok (.iload_n 3, 1) := by decide +kernel
theorem dL_law_239 : decode cL_law 239 = .ok (.iconst 1, 1) := by decide +kernel
theorem dL_law_240 : decode cL_law 240 = .ok (.iadd, 1) := by decide +kernel
theorem dL_law_241 : decode cL_law 241 = .ok (.iaload, 1) := by decide +kernel
theorem dL_law_242 : decode cL_law 242 = .ok (.aload_n 0, 1) := by decide +kernel
theorem dL_law_243 : decode cL_law 243 = .ok (.iload_n 3, 1) := by decide +kernel
theorem dL_law_244 : decode cL_law 244 = .ok (.iconst 2, 1) := by decide +kernel
theorem dL_law_245 : decode cL_law 245 = .ok (.iadd, 1) := by decide +kernel
theorem dL_law_246 : decode cL_law 246 = .ok (.iaload, 1) := by decide +kernel
theorem dL_law_247 : decode cL_law 247 = .ok (.invokevirtual 26, 3) := by decide +kernel
theorem dL_law_250 : decode cL_law 250 = .ok (.if_icmp .eq 494, 3) := by decide +kernel
theorem dL_law_253 : decode cL_law 253 = .ok (.iconst 0, 1) := by decide +kernel
theorem dL_law_254 : decode cL_law 254 = .ok (.ireturn, 1) := by decide +kernel
theorem dL_law_255 : decode cL_law 255 = .ok (.aload_n 1, 1) := by decide +kernel
theorem dL_law_256 : decode cL_law 256 = .ok (.aload_n 0, 1) := by decide +kernel
theorem dL_law_257 : decode cL_law 257 = .ok (.iload_n 3, 1) := by decide +kernel
theorem dL_law_258 : decode cL_law 258 = .ok (.iconst 1, 1) := by decide +kernel
theorem dL_law_259 : decode cL_law 259 = .ok (.iadd, 1) := by decide +kernel
theorem dL_law_260 : decode cL_law 260 = .ok (.iaload, 1) := by decide +kernel
theorem dL_law_261 : decode cL_law 261 = .ok (.aload_n 0, 1) := by decide +kernel
theorem dL_law_262 : decode cL_law 262 = .ok (.iload_n 3, 1) := by decide +kernel
theorem dL_law_263 : decode cL_law 263 = .ok (.iconst 2, 1) := by decide +kernel
theorem dL_law_264 : decode cL_law 264 = .ok (.iadd, 1) := by decide +kernel
theorem dL_law_265 : decode cL_law 265 = .ok (.iaload, 1) := by decide +kernel
theorem dL_law_266 : decode cL_law 266 = .ok (.aload_n 0, 1) := by decide +kernel
theorem dL_law_267 : decode cL_law 267 = .ok (.iload_n 3, 1) := by decide +kernel
theorem dL_law_268 : decode cL_law 268 = .ok (.iconst 3, 1) := by decide +kernel
theorem dL_law_269 : decode cL_law 269 = .ok (.iadd, 1) := by decide +kernel
theorem dL_law_270 : decode cL_law 270 = .ok (.iaload, 1) := by decide +kernel
theorem dL_law_271 : decode cL_law 271 = .ok (.invokevirtual 27, 3) := by decide +kernel
theorem dL_law_274 : decode cL_law 274 = .ok (.aload_n 2, 1) := by decide +kernel
theorem dL_law_275 : decode cL_law 275 = .ok (.aload_n 0, 1) := by decide +kernel
theorem dL_law_276 : decode cL_law 276 = .ok (.iload_n 3, 1) := by decide +kernel
theorem dL_law_277 : decode cL_law 277 = .ok (.iconst 1, 1) := by decide +kernel
theorem dL_law_278 : decode cL_law 278 = .ok (.iadd, 1) := by decide +kernel
theorem dL_law_279 : decode cL_law 279 = .ok (.iaload, 1) := by decide +kernel
theorem dL_law_280 : decode cL_law 280 = .ok (.aload_n 0, 1) := by decide +kernel
theorem dL_law_281 : decode cL_law 281 = .ok (.iload_n 3, 1) := by decide +kernel
theorem dL_law_282 : decode cL_law 282 = .ok (.iconst 2, 1) := by decide +kernel
theorem dL_law_283 : decode cL_law 283 = .ok (.iadd, 1) := by decide +kernel
theorem dL_law_284 : decode cL_law 284 = .ok (.iaload, 1) := by decide +kernel
theorem dL_law_285 : decode cL_law 285 = .ok (.aload_n 0, 1) := by decide +kernel
theorem dL_law_286 : decode cL_law 286 = .ok (.iload_n 3, 1) := by decide +kernel
theorem dL_law_287 : decode cL_law 287 = .ok (.iconst 3, 1) := by decide +kernel
theorem dL_law_288 : decode cL_law 288 = .ok (.iadd, 1) := by decide +kernel
theorem dL_law_289 : decode cL_law 289 = .ok (.iaload, 1) := by decide +kernel
theorem dL_law_290 : decode cL_law 290 = .ok (.invokevirtual 30, 3) := by decide +kernel
theorem dL_law_293 : decode cL_law 293 = .ok (.if_icmp .eq 451, 3) := by decide +kernel
theorem dL_law_296 : decode cL_law 296 = .ok (.iconst 0, 1) := by decide +kernel
theorem dL_law_297 : decode cL_law 297 = .ok (.ireturn, 1) := by decide +kernel
theorem dL_law_298 : decode cL_law 298 = .ok (.aload_n 1, 1) := by decide +kernel
theorem dL_law_299 : decode cL_law 299 = .ok (.aload_n 0, 1) := by decide +kernel
theorem dL_law_300 : decode cL_law 300 = .ok (.iload_n 3, 1) := by decide +kernel
theorem dL_law_301 : decode cL_law 301 = .ok (.iconst 1, 1) := by decide +kernel
theorem dL_law_302 : decode cL_law 302 = .ok (.iadd, 1) := by decide +kernel
theorem dL_law_303 : decode cL_law 303 = .ok (.iaload, 1) := by decide +kernel
theorem dL_law_304 : decode cL_law 304 = .ok (.aload_n 0, 1) := by decide +kernel
theorem dL_law_305 : decode cL_law 305 = .ok (.iload_n 3, 1) := by decide +kernel
theorem dL_law_306 : decode cL_law 306 = .ok (.iconst 2, 1) := by decide +kernel
theorem dL_law_307 : decode cL_law 307 = .ok (.iadd, 1) := by decide +kernel
theorem dL_law_308 : decode cL_law 308 = .ok (.iaload, 1) := by decide +kernel
theorem dL_law_309 : decode cL_law 309 = .ok (.invokevirtual 31, 3) := by decide +kernel
theorem dL_law_312 : decode cL_law 312 = .ok (.aload_n 2, 1) := by decide +kernel
theorem dL_law_313 : decode cL_law 313 = .ok (.aload_n 0, 1) := by decide +kernel
theorem dL_law_314 : decode cL_law 314 = .ok (.iload_n 3, 1) := by decide +kernel
theorem dL_law_315 : decode cL_law 315 = .ok (.iconst 1, 1) := by decide +kernel
theorem dL_law_316 : decode cL_law 316 = .ok (.iadd, 1) := by decide +kernel
theorem dL_law_317 : decode cL_law 317 = .ok (.iaload, 1) := by decide +kernel
theorem dL_law_318 : decode cL_law 318 = .ok (.aload_n 0, 1) := by decide +kernel
theorem dL_law_319 : decode cL_law 319 = .ok (.iload_n 3, 1) := by decide +kernel
theorem dL_law_320 : decode cL_law 320 = .ok (.iconst 2, 1) := by decide +kernel
theorem dL_law_321 : decode cL_law 321 = .ok (.iadd, 1) := by decide +kernel
theorem dL_law_322 : decode cL_law 322 = .ok (.iaload, 1) := by decide +kernel
theorem dL_law_323 : decode cL_law 323 = .ok (.invokevirtual 34, 3) := by decide +kernel
theorem dL_law_326 : decode cL_law 326 = .ok (.if_icmp .eq 418, 3) := by decide +kernel
theorem dL_law_329 : decode cL_law 329 = .ok (.iconst 0, 1) := by decide +kernel
theorem dL_law_330 : decode cL_law 330 = .ok (.ireturn, 1) := by decide +kernel
theorem dL_law_331 : decode cL_law 331 = .ok (.aload_n 1, 1) := by decide +kernel
theorem dL_law_332 : decode cL_law 332 = .ok (.aload_n 0, 1) := by decide +kernel
theorem dL_law_333 : decode cL_law 333 = .ok (.iload_n 3, 1) := by decide +kernel
theorem dL_law_334 : decode cL_law 334 = .ok (.iconst 1, 1) := by decide +kernel
theorem dL_law_335 : decode cL_law 335 = .ok (.iadd, 1) := by decide +kernel
theorem dL_law_336 : decode cL_law 336 = .ok (.iaload, 1) := by decide +kernel
theorem dL_law_337 : decode cL_law 337 = .ok (.invokevirtual 35, 3) := by decide +kernel
theorem dL_law_340 : decode cL_law 340 = .ok (.aload_n 2, 1) := by decide +kernel
theorem dL_law_341 : decode cL_law 341 = .ok (.aload_n 0, 1) := by decide +kernel
theorem dL_law_342 : decode cL_law 342 = .ok (.iload_n 3, 1) := by decide +kernel
theorem dL_law_343 : decode cL_law 343 = .ok (.iconst 1, 1) := by decide +kernel
theorem dL_law_344 : decode cL_law 344 = .ok (.iadd, 1) := by decide +kernel
theorem dL_law_345 : decode cL_law 345 = .ok (.iaload, 1) := by decide +kernel
theorem dL_law_346 : decode cL_law 346 = .ok (.invokevirtual 39, 3) := by decide +kernel
theorem dL_law_349 : decode cL_law 349 = .ok (.if_icmp .eq 395, 3) := by decide +kernel
theorem dL_law_352 : decode cL_law 352 = .ok (.iconst 0, 1) := by decide +kernel
theorem dL_law_353 : decode cL_law 353 = .ok (.ireturn, 1) := by decide +kernel
theorem dL_law_354 : decode cL_law 354 = .ok (.aload_n 1, 1) := by decide +kernel
theorem dL_law_355 : decode cL_law 355 = .ok (.aload_n 0, 1) := by decide +kernel
theorem dL_law_356 : decode cL_law 356 = .ok (.iload_n 3, 1) := by decide +kernel
theorem dL_law_357 : decode cL_law 357 = .ok (.iconst 1, 1) := by decide +kernel
theorem dL_law_358 : decode cL_law 358 = .ok (.iadd, 1) := by decide +kernel
theorem dL_law_359 : decode cL_law 359 = .ok (.iaload, 1) := by decide +kernel
theorem dL_law_360 : decode cL_law 360 = .ok (.i2c, 1) := by decide +kernel
theorem dL_law_361 : decode cL_law 361 = .ok (.invokevirtual 40, 3) := by decide +kernel
theorem dL_law_364 : decode cL_law 364 = .ok (.aload_n 2, 1) := by decide +kernel
theorem dL_law_365 : decode cL_law 365 = .ok (.aload_n 0, 1) := by decide +kernel
theorem dL_law_366 : decode cL_law 366 = .ok (.iload_n 3, 1) := by decide +kernel
theorem dL_law_367 : decode cL_law 367 = .ok (.iconst 1, 1) := by decide +kernel
theorem dL_law_368 : decode cL_law 368 = .ok (.iadd, 1) := by decide +kernel
theorem dL_law_369 : decode cL_law 369 = .ok (.iaload, 1) := by decide +kernel
theorem dL_law_370 : decode cL_law 370 = .ok (.i2c, 1) := by decide +kernel
theorem dL_law_371 : decode cL_law 371 = .ok (.invokevirtual 44, 3) := by decide +kernel
theorem dL_law_374 : decode cL_law 374 = .ok (.if_icmp .eq 370, 3) := by decide +kernel
theorem dL_law_377 : decode cL_law 377 = .ok (.iconst 0, 1) := by decide +kernel
theorem dL_law_378 : decode cL_law 378 = .ok (.ireturn, 1) := by decide +kernel
theorem dL_law_379 : decode cL_law 379 = .ok (.aload_n 1, 1) := by decide +kernel
theorem dL_law_380 : decode cL_law 380 = .ok (.invokevirtual 45, 3) := by decide +kernel
theorem dL_law_383 : decode cL_law 383 = .ok (.aload_n 2, 1) := by decide +kernel
theorem dL_law_384 : decode cL_law 384 = .ok (.invokevirtual 49, 3) := by decide +kernel
theorem dL_law_387 : decode cL_law 387 = .ok (.if_icmp .eq 357, 3) := by decide +kernel
theorem dL_law_390 : decode cL_law 390 = .ok (.iconst 0, 1) := by decide +kernel
theorem dL_law_391 : decode cL_law 391 = .ok (.ireturn, 1) := by decide +kernel
theorem dL_law_392 : decode cL_law 392 = .ok (.aload_n 1, 1) := by decide +kernel
theorem dL_law_393 : decode cL_law 393 = .ok (.invokevirtual 50, 3) := by decide +kernel
theorem dL_law_396 : decode cL_law 396 = .ok (.aload_n 2, 1) := by decide +kernel
theorem dL_law_397 : decode cL_law 397 = .ok (.invokevirtual 53, 3) := by decide +kernel
theorem dL_law_400 : decode cL_law 400 = .ok (.if_icmp .eq 344, 3) := by decide +kernel
theorem dL_law_403 : decode cL_law 403 = .ok (.iconst 0, 1) := by decide +kernel
theorem dL_law_404 : decode cL_law 404 = .ok (.ireturn, 1) := by decide +kernel
theorem dL_law_405 : decode cL_law 405 = .ok (.aload_n 1, 1) := by decide +kernel
theorem dL_law_406 : decode cL_law 406 = .ok (.invokevirtual 54, 3) := by decide +kernel
theorem dL_law_409 : decode cL_law 409 = .ok (.aload_n 2, 1) := by decide +kernel
theorem dL_law_410 : decode cL_law 410 = .ok (.invokevirtual 57, 3) := by decide +kernel
theorem dL_law_413 : decode cL_law 413 = .ok (.if_icmp .eq 331, 3) := by decide +kernel
theorem dL_law_416 : decode cL_law 416 = .ok (.iconst 0, 1) := by decide +kernel
theorem dL_law_417 : decode cL_law 417 = .ok (.ireturn, 1) := by decide +kernel
theorem dL_law_418 : decode cL_law 418 = .ok (.aload_n 1, 1) := by decide +kernel
theorem dL_law_419 : decode cL_law 419 = .ok (.invokevirtual 58, 3) := by decide +kernel
theorem dL_law_422 : decode cL_law 422 = .ok (.aload_n 2, 1) := by decide +kernel
theorem dL_law_423 : decode cL_law 423 = .ok (.invokevirtual 61, 3) := by decide +kernel
theorem dL_law_426 : decode cL_law 426 = .ok (.if_icmp .eq 318, 3) := by decide +kernel
theorem dL_law_429 : decode cL_law 429 = .ok (.iconst 0, 1) := by decide +kernel
theorem dL_law_430 : decode cL_law 430 = .ok (.ireturn, 1) := by decide +kernel
theorem dL_law_431 : decode cL_law 431 = .ok (.aload_n 1, 1) := by decide +kernel
theorem dL_law_432 : decode cL_law 432 = .ok (.invokevirtual 62, 3) := by decide +kernel
theorem dL_law_435 : decode cL_law 435 = .ok (.aload_n 2, 1) := by decide +kernel
theorem dL_law_436 : decode cL_law 436 = .ok (.invokevirtual 65, 3) := by decide +kernel
theorem dL_law_439 : decode cL_law 439 = .ok (.if_icmp .eq 305, 3) := by decide +kernel
theorem dL_law_442 : decode cL_law 442 = .ok (.iconst 0, 1) := by decide +kernel
theorem dL_law_443 : decode cL_law 443 = .ok (.ireturn, 1) := by decide +kernel
theorem dL_law_444 : decode cL_law 444 = .ok (.aload_n 1, 1) := by decide +kernel
theorem dL_law_445 : decode cL_law 445 = .ok (.aload_n 0, 1) := by decide +kernel
theorem dL_law_446 : decode cL_law 446 = .ok (.iload_n 3, 1) := by decide +kernel
theorem dL_law_447 : decode cL_law 447 = .ok (.iconst 1, 1) := by decide +kernel
theorem dL_law_448 : decode cL_law 448 = .ok (.iadd, 1) := by decide +kernel
theorem dL_law_449 : decode cL_law 449 = .ok (.iaload, 1) := by decide +kernel
theorem dL_law_450 : decode cL_law 450 = .ok (.aload_n 0, 1) := by decide +kernel
theorem dL_law_451 : decode cL_law 451 = .ok (.iload_n 3, 1) := by decide +kernel
theorem dL_law_452 : decode cL_law 452 = .ok (.iconst 2, 1) := by decide +kernel
theorem dL_law_453 : decode cL_law 453 = .ok (.iadd, 1) := by decide +kernel
theorem dL_law_454 : decode cL_law 454 = .ok (.iaload, 1) := by decide +kernel
theorem dL_law_455 : decode cL_law 455 = .ok (.invokevirtual 66, 3) := by decide +kernel
theorem dL_law_458 : decode cL_law 458 = .ok (.aload_n 2, 1) := by decide +kernel
theorem dL_law_459 : decode cL_law 459 = .ok (.aload_n 0, 1) := by decide +kernel
theorem dL_law_460 : decode cL_law 460 = .ok (.iload_n 3, 1) := by decide +kernel
theorem dL_law_461 : decode cL_law 461 = .ok (.iconst 1, 1) := by decide +kernel
theorem dL_law_462 : decode cL_law 462 = .ok (.iadd, 1) := by decide +kernel
theorem dL_law_463 : decode cL_law 463 = .ok (.iaload, 1) := by decide +kernel
theorem dL_law_464 : decode cL_law 464 = .ok (.aload_n 0, 1) := by decide +kernel
theorem dL_law_465 : decode cL_law 465 = .ok (.iload_n 3, 1) := by decide +kernel
theorem dL_law_466 : decode cL_law 466 = .ok (.iconst 2, 1) := by decide +kernel
theorem dL_law_467 : decode cL_law 467 = .ok (.iadd, 1) := by decide +kernel
theorem dL_law_468 : decode cL_law 468 = .ok (.iaload, 1) := by decide +kernel
theorem dL_law_469 : decode cL_law 469 = .ok (.invokevirtual 69, 3) := by decide +kernel
theorem dL_law_472 : decode cL_law 472 = .ok (.if_icmp .eq 272, 3) := by decide +kernel
theorem dL_law_475 : decode cL_law 475 = .ok (.iconst 0, 1) := by decide +kernel
theorem dL_law_476 : decode cL_law 476 = .ok (.ireturn, 1) := by decide +kernel
theorem dL_law_477 : decode cL_law 477 = .ok (.aload_n 1, 1) := by decide +kernel
theorem dL_law_478 : decode cL_law 478 = .ok (.aload_n 0, 1) := by decide +kernel
theorem dL_law_479 : decode cL_law 479 = .ok (.iload_n 3, 1) := by decide +kernel
theorem dL_law_480 : decode cL_law 480 = .ok (.iconst 1, 1) := by decide +kernel
theorem dL_law_481 : decode cL_law 481 = .ok (.iadd, 1) := by decide +kernel
theorem dL_law_482 : decode cL_law 482 = .ok (.iaload, 1) := by decide +kernel
theorem dL_law_483 : decode cL_law 483 = .ok (.aload_n 0, 1) := by decide +kernel
theorem dL_law_484 : decode cL_law 484 = .ok (.iload_n 3, 1) := by decide +kernel
theorem dL_law_485 : decode cL_law 485 = .ok (.iconst 2, 1) := by decide +kernel
theorem dL_law_486 : decode cL_law 486 = .ok (.iadd, 1) := by decide +kernel
theorem dL_law_487 : decode cL_law 487 = .ok (.iaload, 1) := by decide +kernel
theorem dL_law_488 : decode cL_law 488 = .ok (.invokevirtual 70, 3) := by decide +kernel
theorem dL_law_491 : decode cL_law 491 = .ok (.aload_n 2, 1) := by decide +kernel
theorem dL_law_492 : decode cL_law 492 = .ok (.aload_n 0, 1) := by decide +kernel
theorem dL_law_493 : decode cL_law 493 = .ok (.iload_n 3, 1) := by decide +kernel
theorem dL_law_494 : decode cL_law 494 = .ok (.iconst 1, 1) := by decide +kernel
theorem dL_law_495 : decode cL_law 495 = .ok (.iadd, 1) := by decide +kernel
theorem dL_law_496 : decode cL_law 496 = .ok (.iaload, 1) := by decide +kernel
theorem dL_law_497 : decode cL_law 497 = .ok (.aload_n 0, 1) := by decide +kernel
theorem dL_law_498 : decode cL_law 498 = .ok (.iload_n 3, 1) := by decide +kernel
theorem dL_law_499 : decode cL_law 499 = .ok (.iconst 2, 1) := by decide +kernel
theorem dL_law_500 : decode cL_law 500 = .ok (.iadd, 1) := by decide +kernel
theorem dL_law_501 : decode cL_law 501 = .ok (.iaload, 1) := by decide +kernel
theorem dL_law_502 : decode cL_law 502 = .ok (.invokevirtual 73, 3) := by decide +kernel
theorem dL_law_505 : decode cL_law 505 = .ok (.if_icmp .eq 239, 3) := by decide +kernel
theorem dL_law_508 : decode cL_law 508 = .ok (.iconst 0, 1) := by decide +kernel
theorem dL_law_509 : decode cL_law 509 = .ok (.ireturn, 1) := by decide +kernel
theorem dL_law_510 : decode cL_law 510 = .ok (.aload_n 1, 1) := by decide +kernel
theorem dL_law_511 : decode cL_law 511 = .ok (.aload_n 0, 1) := by decide +kernel
theorem dL_law_512 : decode cL_law 512 = .ok (.iload_n 3, 1) := by decide +kernel
theorem dL_law_513 : decode cL_law 513 = .ok (.iconst 1, 1) := by decide +kernel
theorem dL_law_514 : decode cL_law 514 = .ok (.iadd, 1) := by decide +kernel
theorem dL_law_515 : decode cL_law 515 = .ok (.iaload, 1) := by decide +kernel
theorem dL_law_516 : decode cL_law 516 = .ok (.aload_n 0, 1) := by decide +kernel
theorem dL_law_517 : decode cL_law 517 = .ok (.iload_n 3, 1) := by decide +kernel
theorem dL_law_518 : decode cL_law 518 = .ok (.iconst 2, 1) := by decide +kernel
theorem dL_law_519 : decode cL_law 519 = .ok (.iadd, 1) := by decide +kernel
theorem dL_law_520 : decode cL_law 520 = .ok (.iaload, 1) := by decide +kernel
theorem dL_law_521 : decode cL_law 521 = .ok (.aload_n 0, 1) := by decide +kernel
theorem dL_law_522 : decode cL_law 522 = .ok (.iload_n 3, 1) := by decide +kernel
theorem dL_law_523 : decode cL_law 523 = .ok (.iconst 3, 1) := by decide +kernel
theorem dL_law_524 : decode cL_law 524 = .ok (.iadd, 1) := by decide +kernel
theorem dL_law_525 : decode cL_law 525 = .ok (.iaload, 1) := by decide +kernel
theorem dL_law_526 : decode cL_law 526 = .ok (.invokevirtual 74, 3) := by decide +kernel
theorem dL_law_529 : decode cL_law 529 = .ok (.aload_n 2, 1) := by decide +kernel
theorem dL_law_530 : decode cL_law 530 = .ok (.aload_n 0, 1) := by decide +kernel
theorem dL_law_531 : decode cL_law 531 = .ok (.iload_n 3, 1) := by decide +kernel
theorem dL_law_532 : decode cL_law 532 = .ok (.iconst 1, 1) := by decide +kernel
theorem dL_law_533 : decode cL_law 533 = .ok (.iadd, 1) := by decide +kernel
theorem dL_law_534 : decode cL_law 534 = .ok (.iaload, 1) := by decide +kernel
theorem dL_law_535 : decode cL_law 535 = .ok (.aload_n 0, 1) := by decide +kernel
theorem dL_law_536 : decode cL_law 536 = .ok (.iload_n 3, 1) := by decide +kernel
theorem dL_law_537 : decode cL_law 537 = .ok (.iconst 2, 1) := by decide +kernel
theorem dL_law_538 : decode cL_law 538 = .ok (.iadd, 1) := by decide +kernel
theorem dL_law_539 : decode cL_law 539 = .ok (.iaload, 1) := by decide +kernel
theorem dL_law_540 : decode cL_law 540 = .ok (.aload_n 0, 1) := by decide +kernel
theorem dL_law_541 : decode cL_law 541 = .ok (.iload_n 3, 1) := by decide +kernel
theorem dL_law_542 : decode cL_law 542 = .ok (.iconst 3, 1) := by decide +kernel
theorem dL_law_543 : decode cL_law 543 = .ok (.iadd, 1) := by decide +kernel
theorem dL_law_544 : decode cL_law 544 = .ok (.iaload, 1) := by decide +kernel
theorem dL_law_545 : decode cL_law 545 = .ok (.invokevirtual 77, 3) := by decide +kernel
theorem dL_law_548 : decode cL_law 548 = .ok (.if_icmp .eq 196, 3) := by decide +kernel
theorem dL_law_551 : decode cL_law 551 = .ok (.iconst 0, 1) := by decide +kernel
theorem dL_law_552 : decode cL_law 552 = .ok (.ireturn, 1) := by decide +kernel
theorem dL_law_553 : decode cL_law 553 = .ok (.aload_n 1, 1) := by decide +kernel
theorem dL_law_554 : decode cL_law 554 = .ok (.aload_n 0, 1) := by decide +kernel
theorem dL_law_555 : decode cL_law 555 = .ok (.iload_n 3, 1) := by decide +kernel
theorem dL_law_556 : decode cL_law 556 = .ok (.iconst 1, 1) := by decide +kernel
theorem dL_law_557 : decode cL_law 557 = .ok (.iadd, 1) := by decide +kernel
theorem dL_law_558 : decode cL_law 558 = .ok (.iaload, 1) := by decide +kernel
theorem dL_law_559 : decode cL_law 559 = .ok (.aload_n 0, 1) := by decide +kernel
theorem dL_law_560 : decode cL_law 560 = .ok (.iload_n 3, 1) := by decide +kernel
theorem dL_law_561 : decode cL_law 561 = .ok (.iconst 2, 1) := by decide +kernel
theorem dL_law_562 : decode cL_law 562 = .ok (.iadd, 1) := by decide +kernel
theorem dL_law_563 : decode cL_law 563 = .ok (.iaload, 1) := by decide +kernel
theorem dL_law_564 : decode cL_law 564 = .ok (.invokevirtual 78, 3) := by decide +kernel
theorem dL_law_567 : decode cL_law 567 = .ok (.aload_n 2, 1) := by decide +kernel
theorem dL_law_568 : decode cL_law 568 = .ok (.aload_n 0, 1) := by decide +kernel
theorem dL_law_569 : decode cL_law 569 = .ok (.iload_n 3, 1) := by decide +kernel
theorem dL_law_570 : decode cL_law 570 = .ok (.iconst 1, 1) := by decide +kernel
theorem dL_law_571 : decode cL_law 571 = .ok (.iadd, 1) := by decide +kernel
theorem dL_law_572 : decode cL_law 572 = .ok (.iaload, 1) := by decide +kernel
theorem dL_law_573 : decode cL_law 573 = .ok (.aload_n 0, 1) := by decide +kernel
theorem dL_law_574 : decode cL_law 574 = .ok (.iload_n 3, 1) := by decide +kernel
theorem dL_law_575 : decode cL_law 575 = .ok (.iconst 2, 1) := by decide +kernel
theorem dL_law_576 : decode cL_law 576 = .ok (.iadd, 1) := by decide +kernel
theorem dL_law_577 : decode cL_law 577 = .ok (.iaload, 1) := by decide +kernel
theorem dL_law_578 : decode cL_law 578 = .ok (.invokevirtual 81, 3) := by decide +kernel
theorem dL_law_581 : decode cL_law 581 = .ok (.if_icmp .eq 163, 3) := by decide +kernel
theorem dL_law_584 : decode cL_law 584 = .ok (.iconst 0, 1) := by decide +kernel
theorem dL_law_585 : decode cL_law 585 = .ok (.ireturn, 1) := by decide +kernel
theorem dL_law_586 : decode cL_law 586 = .ok (.aload_n 1, 1) := by decide +kernel
theorem dL_law_587 : decode cL_law 587 = .ok (.aload_n 0, 1) := by decide +kernel
theorem dL_law_588 : decode cL_law 588 = .ok (.iload_n 3, 1) := by decide +kernel
theorem dL_law_589 : decode cL_law 589 = .ok (.iconst 1, 1) := by decide +kernel
theorem dL_law_590 : decode cL_law 590 = .ok (.iadd, 1) := by decide +kernel
theorem dL_law_591 : decode cL_law 591 = .ok (.iaload, 1) := by decide +kernel
theorem dL_law_592 : decode cL_law 592 = .ok (.aload_n 0, 1) := by decide +kernel
theorem dL_law_593 : decode cL_law 593 = .ok (.iload_n 3, 1) := by decide +kernel
theorem dL_law_594 : decode cL_law 594 = .ok (.iconst 2, 1) := by decide +kernel
theorem dL_law_595 : decode cL_law 595 = .ok (.iadd, 1) := by decide +kernel
theorem dL_law_596 : decode cL_law 596 = .ok (.iaload, 1) := by decide +kernel
theorem dL_law_597 : decode cL_law 597 = .ok (.invokevirtual 82, 3) := by decide +kernel
theorem dL_law_600 : decode cL_law 600 = .ok (.aload_n 2, 1) := by decide +kernel
theorem dL_law_601 : decode cL_law 601 = .ok (.aload_n 0, 1) := by decide +kernel
theorem dL_law_602 : decode cL_law 602 = .ok (.iload_n 3, 1) := by decide +kernel
theorem dL_law_603 : decode cL_law 603 = .ok (.iconst 1, 1) := by decide +kernel
theorem dL_law_604 : decode cL_law 604 = .ok (.iadd, 1) := by decide +kernel
theorem dL_law_605 : decode cL_law 605 = .ok (.iaload, 1) := by decide +kernel
theorem dL_law_606 : decode cL_law 606 = .ok (.aload_n 0, 1) := by decide +kernel
theorem dL_law_607 : decode cL_law 607 = .ok (.iload_n 3, 1) := by decide +kernel
theorem dL_law_608 : decode cL_law 608 = .ok (.iconst 2, 1) := by decide +kernel
theorem dL_law_609 : decode cL_law 609 = .ok (.iadd, 1) := by decide +kernel
theorem dL_law_610 : decode cL_law 610 = .ok (.iaload, 1) := by decide +kernel
theorem dL_law_611 : decode cL_law 611 = .ok (.invokevirtual 85, 3) := by decide +kernel
theorem dL_law_614 : decode cL_law 614 = .ok (.if_icmp .eq 130, 3) := by decide +kernel
theorem dL_law_617 : decode cL_law 617 = .ok (.iconst 0, 1) := by decide +kernel
theorem dL_law_618 : decode cL_law 618 = .ok (.ireturn, 1) := by decide +kernel
theorem dL_law_619 : decode cL_law 619 = .ok (.aload_n 1, 1) := by decide +kernel
theorem dL_law_620 : decode cL_law 620 = .ok (.aload_n 0, 1) := by decide +kernel
theorem dL_law_621 : decode cL_law 621 = .ok (.iload_n 3, 1) := by decide +kernel
theorem dL_law_622 : decode cL_law 622 = .ok (.iconst 1, 1) := by decide +kernel
theorem dL_law_623 : decode cL_law 623 = .ok (.iadd, 1) := by decide +kernel
theorem dL_law_624 : decode cL_law 624 = .ok (.iaload, 1) := by decide +kernel
theorem dL_law_625 : decode cL_law 625 = .ok (.invokevirtual 86, 3) := by decide +kernel
theorem dL_law_628 : decode cL_law 628 = .ok (.aload_n 2, 1) := by decide +kernel
theorem dL_law_629 : decode cL_law 629 = .ok (.aload_n 0, 1) := by decide +kernel
theorem dL_law_630 : decode cL_law 630 = .ok (.iload_n 3, 1) := by decide +kernel
theorem dL_law_631 : decode cL_law 631 = .ok (.iconst 1, 1) := by decide +kernel
theorem dL_law_632 : decode cL_law 632 = .ok (.iadd, 1) := by decide +kernel
theorem dL_law_633 : decode cL_law 633 = .ok (.iaload, 1) := by decide +kernel
theorem dL_law_634 : decode cL_law 634 = .ok (.invokevirtual 89, 3) := by decide +kernel
theorem dL_law_637 : decode cL_law 637 = .ok (.if_icmp .eq 107, 3) := by decide +kernel
theorem dL_law_640 : decode cL_law 640 = .ok (.iconst 0, 1) := by decide +kernel
theorem dL_law_641 : decode cL_law 641 = .ok (.ireturn, 1) := by decide +kernel
theorem dL_law_642 : decode cL_law 642 = .ok (.aload_n 1, 1) := by decide +kernel
theorem dL_law_643 : decode cL_law 643 = .ok (.aload_n 0, 1) := by decide +kernel
theorem dL_law_644 : decode cL_law 644 = .ok (.iload_n 3, 1) := by decide +kernel
theorem dL_law_645 : decode cL_law 645 = .ok (.iconst 1, 1) := by decide +kernel
theorem dL_law_646 : decode cL_law 646 = .ok (.iadd, 1) := by decide +kernel
theorem dL_law_647 : decode cL_law 647 = .ok (.iaload, 1) := by decide +kernel
theorem dL_law_648 : decode cL_law 648 = .ok (.aload_n 0, 1) := by decide +kernel
theorem dL_law_649 : decode cL_law 649 = .ok (.iload_n 3, 1) := by decide +kernel
theorem dL_law_650 : decode cL_law 650 = .ok (.iconst 2, 1) := by decide +kernel
theorem dL_law_651 : decode cL_law 651 = .ok (.iadd, 1) := by decide +kernel
theorem dL_law_652 : decode cL_law 652 = .ok (.iaload, 1) := by decide +kernel
theorem dL_law_653 : decode cL_law 653 = .ok (.invokevirtual 90, 3) := by decide +kernel
theorem dL_law_656 : decode cL_law 656 = .ok (.aload_n 2, 1) := by decide +kernel
theorem dL_law_657 : decode cL_law 657 = .ok (.aload_n 0, 1) := by decide +kernel
theorem dL_law_658 : decode cL_law 658 = .ok (.iload_n 3, 1) := by decide +kernel
theorem dL_law_659 : decode cL_law 659 = .ok (.iconst 1, 1) := by decide +kernel
theorem dL_law_660 : decode cL_law 660 = .ok (.iadd, 1) := by decide +kernel
theorem dL_law_661 : decode cL_law 661 = .ok (.iaload, 1) := by decide +kernel
theorem dL_law_662 : decode cL_law 662 = .ok (.aload_n 0, 1) := by decide +kernel
theorem dL_law_663 : decode cL_law 663 = .ok (.iload_n 3, 1) := by decide +kernel
theorem dL_law_664 : decode cL_law 664 = .ok (.iconst 2, 1) := by decide +kernel
theorem dL_law_665 : decode cL_law 665 = .ok (.iadd, 1) := by decide +kernel
theorem dL_law_666 : decode cL_law 666 = .ok (.iaload, 1) := by decide +kernel
theorem dL_law_667 : decode cL_law 667 = .ok (.invokevirtual 93, 3) := by decide +kernel
theorem dL_law_670 : decode cL_law 670 = .ok (.if_icmp .eq 74, 3) := by decide +kernel
theorem dL_law_673 : decode cL_law 673 = .ok (.iconst 0, 1) := by decide +kernel
theorem dL_law_674 : decode cL_law 674 = .ok (.ireturn, 1) := by decide +kernel
theorem dL_law_675 : decode cL_law 675 = .ok (.aload_n 1, 1) := by decide +kernel
theorem dL_law_676 : decode cL_law 676 = .ok (.aload_n 0, 1) := by decide +kernel
theorem dL_law_677 : decode cL_law 677 = .ok (.iload_n 3, 1) := by decide +kernel
theorem dL_law_678 : decode cL_law 678 = .ok (.iconst 1, 1) := by decide +kernel
theorem dL_law_679 : decode cL_law 679 = .ok (.iadd, 1) := by decide +kernel
theorem dL_law_680 : decode cL_law 680 = .ok (.iaload, 1) := by decide +kernel
theorem dL_law_681 : decode cL_law 681 = .ok (.aload_n 0, 1) := by decide +kernel
theorem dL_law_682 : decode cL_law 682 = .ok (.iload_n 3, 1) := by decide +kernel
theorem dL_law_683 : decode cL_law 683 = .ok (.iconst 2, 1) := by decide +kernel
theorem dL_law_684 : decode cL_law 684 = .ok (.iadd, 1) := by decide +kernel
theorem dL_law_685 : decode cL_law 685 = .ok (.iaload, 1) := by decide +kernel
theorem dL_law_686 : decode cL_law 686 = .ok (.invokevirtual 94, 3) := by decide +kernel
theorem dL_law_689 : decode cL_law 689 = .ok (.aload_n 2, 1) := by decide +kernel
theorem dL_law_690 : decode cL_law 690 = .ok (.aload_n 0, 1) := by decide +kernel
theorem dL_law_691 : decode cL_law 691 = .ok (.iload_n 3, 1) := by decide +kernel
theorem dL_law_692 : decode cL_law 692 = .ok (.iconst 1, 1) := by decide +kernel
theorem dL_law_693 : decode cL_law 693 = .ok (.iadd, 1) := by decide +kernel
theorem dL_law_694 : decode cL_law 694 = .ok (.iaload, 1) := by decide +kernel
theorem dL_law_695 : decode cL_law 695 = .ok (.aload_n 0, 1) := by decide +kernel
theorem dL_law_696 : decode cL_law 696 = .ok (.iload_n 3, 1) := by decide +kernel
theorem dL_law_697 : decode cL_law 697 = .ok (.iconst 2, 1) := by decide +kernel
theorem dL_law_698 : decode cL_law 698 = .ok (.iadd, 1) := by decide +kernel
theorem dL_law_699 : decode cL_law 699 = .ok (.iaload, 1) := by decide +kernel
theorem dL_law_700 : decode cL_law 700 = .ok (.invokevirtual 97, 3) := by decide +kernel
theorem dL_law_703 : decode cL_law 703 = .ok (.if_icmp .eq 41, 3) := by decide +kernel
theorem dL_law_706 : decode cL_law 706 = .ok (.iconst 0, 1) := by decide +kernel
theorem dL_law_707 : decode cL_law 707 = .ok (.ireturn, 1) := by decide +kernel
theorem dL_law_708 : decode cL_law 708 = .ok (.aload_n 1, 1) := by decide +kernel
theorem dL_law_709 : decode cL_law 709 = .ok (.invokevirtual 98, 3) := by decide +kernel
theorem dL_law_712 : decode cL_law 712 = .ok (.aload_n 2, 1) := by decide +kernel
theorem dL_law_713 : decode cL_law 713 = .ok (.invokevirtual 101, 3) := by decide +kernel
theorem dL_law_716 : decode cL_law 716 = .ok (.if_icmp .eq 28, 3) := by decide +kernel
theorem dL_law_719 : decode cL_law 719 = .ok (.iconst 0, 1) := by decide +kernel
theorem dL_law_720 : decode cL_law 720 = .ok (.ireturn, 1) := by decide +kernel
theorem dL_law_721 : decode cL_law 721 = .ok (.aload_n 1, 1) := by decide +kernel
theorem dL_law_722 : decode cL_law 722 = .ok (.aload_n 0, 1) := by decide +kernel
theorem dL_law_723 : decode cL_law 723 = .ok (.iload_n 3, 1) := by decide +kernel
theorem dL_law_724 : decode cL_law 724 = .ok (.iconst 1, 1) := by decide +kernel
theorem dL_law_725 : decode cL_law 725 = .ok (.iadd, 1) := by decide +kernel
theorem dL_law_726 : decode cL_law 726 = .ok (.iaload, 1) := by decide +kernel
theorem dL_law_727 : decode cL_law 727 = .ok (.invokevirtual 102, 3) := by decide +kernel
theorem dL_law_730 : decode cL_law 730 = .ok (.aload_n 2, 1) := by decide +kernel
theorem dL_law_731 : decode cL_law 731 = .ok (.aload_n 0, 1) := by decide +kernel
theorem dL_law_732 : decode cL_law 732 = .ok (.iload_n 3, 1) := by decide +kernel
theorem dL_law_733 : decode cL_law 733 = .ok (.iconst 1, 1) := by decide +kernel
theorem dL_law_734 : decode cL_law 734 = .ok (.iadd, 1) := by decide +kernel
theorem dL_law_735 : decode cL_law 735 = .ok (.iaload, 1) := by decide +kernel
theorem dL_law_736 : decode cL_law 736 = .ok (.invokevirtual 105, 3) := by decide +kernel
theorem dL_law_739 : decode cL_law 739 = .ok (.if_icmp .eq 5, 3) := by decide +kernel
end
section
theorem dL_law_742 : decode cL_law 742 = .ok (.iconst 0, 1) := by decide +kernel
theorem dL_law_743 : decode cL_law 743 = .ok (.ireturn, 1) := by decide +kernel
theorem dL_law_744 : decode cL_law 744 = .ok (.iinc 3 4, 3) := by decide +kernel
theorem dL_law_747 : decode cL_law 747 = .ok (.goto (-729), 3) := by decide +kernel
theorem dL_law_750 : decode cL_law 750 = .ok (.iconst 1, 1) := by decide +kernel
theorem dL_law_751 : decode cL_law 751 = .ok (.ireturn, 1) := by decide +kernel
end
section
/-! ===== what all methods of the claim share ===== -/
abbrev gG : Type := va_G × (ClassId × ClassId × ClassId) × (Nat → Nat)
def gTy (G : gG) : List (ClassId × FieldType) := [(G.2.1.1, .int), (G.2.1.2.1, .char), (G.2.1.2.2, .object "LessonHorses$Stable")]
/-- the static arrays' numbers: 0 ROOM_OF_RING, 1 LEAST_OF_SETTING, 2 MOST_OF_SETTING, 3 FIRST_OF_SETTING, 4 MOST_AT -/
def sT (k j : Nat) : Int32 := (([[4, 3, 2], [1, 1, 0, 1, 1], [9, 99, 50, 99, 9], [3, 12, 5, 20, 3], [-1, 99, 2, 11]] : List (List Int32)).getD k []).getD j 0
def gSt (G : gG) (A : Nat → Prop) (U : State) (H : Heap) (k : Nat) (C n : String) (N : Nat) : Prop := va_Z C n "[I" (.ref (G.2.2 k)) A U H ∧ va_T .int (G.2.2 k) N (fun j => .int (sT k j)) A U H
def gNw (U : State) : Prop := va_Nw (.methodLinkNest "LessonHorses$Stable" 36 yX5_entry "LessonHorses") U ∧ va_Nw (.methodLinkNest "LessonHorses$Plan" 85 yX5_entry "LessonHorses") U ∧ va_Nw (.methodLinkNest "LessonHorses" 31 yX4_init "LessonHorses") U ∧ va_Nw (.methodLinkNest "LessonHorses" 38 yX1_init "LessonHorses") U ∧ va_Nw (.fieldLinkNest "LessonHorses$Stable" 32 "LessonHorses" "FIRST_OF_SETTING" "[I" "LessonHorses") U ∧ va_Nw (.fieldLinkNest "LessonHorses$Stable" 90 "LessonHorses" "ROOM_OF_RING" "[I" "LessonHorses") U ∧ va_AO "LessonHorses$Stable" U
def gSF (G : gG) (A : Nat → Prop) (U : State) (H : Heap) : Prop := gSt G A U H 0 "LessonHorses" "ROOM_OF_RING" 3 ∧ gSt G A U H 1 "LessonHorses" "LEAST_OF_SETTING" 5 ∧ gSt G A U H 2 "LessonHorses" "MOST_OF_SETTING" 5 ∧ gSt G A U H 3 "LessonHorses" "FIRST_OF_SETTING" 5 ∧ gSt G A U H 4 "LessonHorses$Plan" "MOST_AT" 4 ∧ gNw U
theorem gSt.like {G : gG} {A : Nat → Prop} {u U : State} {H : Heap} {k : Nat} {C n : String} {N : Nat} (hvm : u.vm.Alike U.vm) (h : gSt G A u H k C n N) : gSt G A U H k C n N := ⟨va_Z.moved hvm h.1, va_T.moved hvm h.2⟩
theorem gSt.kept {G : gG} {A : Nat → Prop} {U : State} {H H1 : Heap} {k : Nat} {C n : String} {N : Nat} (h : gSt G A U H k C n N) (hq : ∀ a : Nat, a < H.size → ¬ A a → H1[a]? = H[a]?) : gSt G A U H1 k C n N := ⟨va_Z.kept h.1 hq, va_T.kept h.2 hq⟩
theorem gSt.narrow {G : gG} {A B : Nat → Prop} {U : State} {H : Heap} {k : Nat} {C n : String} {N : Nat} (h : gSt G A U H k C n N) (hAB : ∀ q, B q → A q) : gSt G B U H k C n N := ⟨va_Z.narrow h.1 hAB, va_T.narrow h.2 hAB⟩
theorem gNw.warm {s U : State} (hW : s.WarmedH U.vm) (h : gNw s) : gNw U := ⟨va_Nw.warmM hW h.1, va_Nw.warmM hW h.2.1, va_Nw.warmM hW h.2.2.1, va_Nw.warmM hW h.2.2.2.1, va_Nw.warmF hW h.2.2.2.2.1, va_Nw.warmF hW h.2.2.2.2.2.1, va_AO.moved hW.alike h.2.2.2.2.2.2⟩
theorem gNw.same {u U : State} (e : u.vm = U.vm) (h : gNw u) : gNw U := ⟨va_Nw.same rfl e h.1, va_Nw.same rfl e h.2.1, va_Nw.same rfl e h.2.2.1, va_Nw.same rfl e h.2.2.2.1, va_Nw.same rfl e h.2.2.2.2.1, va_Nw.same rfl e h.2.2.2.2.2.1, va_AO.moved (e ▸ Vm.Alike.refl u.vm) h.2.2.2.2.2.2⟩
theorem gSF.warm {G : gG} {A : Nat → Prop} {s U : State} {H : Heap} (hW : s.WarmedH U.vm) (h : gSF G A s H) : gSF G A U H := ⟨h.1.like hW.alike, h.2.1.like hW.alike, h.2.2.1.like hW.alike, h.2.2.2.1.like hW.alike, h.2.2.2.2.1.like hW.alike, h.2.2.2.2.2.warm hW⟩
theorem gSF.same {G : gG} {A : Nat → Prop} {u U : State} {H : Heap} (e : u.vm = U.vm) (h : gSF G A u H) : gSF G A U H := by
  have hW : u.vm.Alike U.vm := e ▸ Vm.Alike.refl u.vm
  exact ⟨h.1.like hW, h.2.1.like hW, h.2.2.1.like hW, h.2.2.2.1.like hW, h.2.2.2.2.1.like hW, h.2.2.2.2.2.same e⟩
theorem gSF.kept {G : gG} {A : Nat → Prop} {U : State} {H H1 : Heap} (h : gSF G A U H) (hq : ∀ a : Nat, a < H.size → ¬ A a → H1[a]? = H[a]?) : gSF G A U H1 := ⟨h.1.kept hq, h.2.1.kept hq, h.2.2.1.kept hq, h.2.2.2.1.kept hq, h.2.2.2.2.1.kept hq, h.2.2.2.2.2⟩
theorem gSF.narrow {G : gG} {A B : Nat → Prop} {U : State} {H : Heap} (h : gSF G A U H) (hAB : ∀ q, B q → A q) : gSF G B U H := ⟨h.1.narrow hAB, h.2.1.narrow hAB, h.2.2.1.narrow hAB, h.2.2.2.1.narrow hAB, h.2.2.2.2.1.narrow hAB, h.2.2.2.2.2⟩
/-! worlds in three pieces: what stands before a callee's cells, these, and what stands behind -/
theorem gP_mem {D : va_G} {cl : List vw_C} {ws : va_W} {H : Heap} (h : va_P D cl ws H) {q : Nat × va_E} (hq : q ∈ ws) : va_at D cl q H := by
  obtain ⟨k, hk⟩ := List.getElem?_of_mem hq
  exact h k q hk
theorem gP_of {D : va_G} {cl : List vw_C} {ws : va_W} {H : Heap} (h : ∀ q ∈ ws, va_at D cl q H) : va_P D cl ws H := fun _ q hk => h q (List.mem_of_getElem? hk)
theorem gD_iff {A : Nat → Prop} {ws : va_W} : va_D A ws ↔ (ws.map Prod.fst).Nodup ∧ ∀ q ∈ ws, A q.1 := by
  constructor
  · intro h
    refine ⟨List.nodup_iff_pairwise_ne.mpr (List.pairwise_iff_getElem.mpr fun i j hi hj hij e => ?_), fun q hq => ?_⟩
    · simp only [List.length_map] at hi hj
      simp only [List.getElem_map] at e
      exact absurd (h.1 i j _ _ (List.getElem?_eq_getElem hi) (List.getElem?_eq_getElem hj) e) (Nat.ne_of_lt hij)
    · obtain ⟨k, hk⟩ := List.getElem?_of_mem hq
      exact h.2 k q hk
  · intro h
    refine ⟨fun i j p q hp hq e => ?_, fun k q hk => h.2 q (List.mem_of_getElem? hk)⟩
    obtain ⟨hi, hp⟩ := List.getElem?_eq_some_iff.mp hp
    obtain ⟨hj, hq⟩ := List.getElem?_eq_some_iff.mp hq
    subst hp; subst hq
    have hpw := List.pairwise_iff_getElem.mp (List.nodup_iff_pairwise_ne.mp h.1)
    rcases Nat.lt_trichotomy i j with hij | hij | hij
    · exact absurd (by rw [List.getElem_map, List.getElem_map]; exact e) (hpw i j (by simpa using hi) (by simpa using hj) hij)
    · exact hij
    · exact absurd (by rw [List.getElem_map, List.getElem_map]; exact e.symm) (hpw j i (by simpa using hj) (by simpa using hi) hij)
theorem gP_blk {D : va_G} {cl : List vw_C} {pre blk post : va_W} {H : Heap} (h : va_P D cl (pre ++ (blk ++ post)) H) : va_P D cl blk H := gP_of fun _ hq => gP_mem h (List.mem_append_right _ (List.mem_append_left _ hq))
theorem gD_blk {A : Nat → Prop} {pre blk post : va_W} (h : va_D A (pre ++ (blk ++ post))) : va_D A blk := by
  have h := gD_iff.mp h
  refine gD_iff.mpr ⟨?_, fun q hq => h.2 q (List.mem_append_right _ (List.mem_append_left _ hq))⟩
  have := h.1
  rw [List.map_append, List.map_append] at this
  exact (List.nodup_append.mp (List.nodup_append.mp this).2.1).1
theorem gA_blk {A : Nat → Prop} {pre blk post : va_W} {sz : Nat} (h : va_D A (pre ++ (blk ++ post))) (hA : ∀ q, sz ≤ q → A q) : ∀ q, va_A blk sz q → A q := by
  intro q hq
  rcases hq with ⟨k, e, hk⟩ | hq
  · exact (gD_iff.mp h).2 (q, e) (List.mem_append_right _ (List.mem_append_left _ (List.mem_of_getElem? hk)))
  · exact hA q hq
theorem g_mid {A : Nat → Prop} {D : va_G} {cl : List vw_C} {pre blk post blk' : va_W} {H H1 : Heap} (hP : va_P D cl (pre ++ (blk ++ post)) H) (hD : va_D A (pre ++ (blk ++ post))) (hA : ∀ q, H.size ≤ q → A q) (hk : ∀ q : Nat, q < H.size → ¬ va_A blk H.size q → H1[q]? = H[q]?) (hP1 : va_P D cl blk' H1) (hD1 : va_D (va_A blk H.size) blk') : va_P D cl (pre ++ (blk' ++ post)) H1 ∧ va_D A (pre ++ (blk' ++ post)) := by
  have hN := gD_iff.mp hD
  have hN1 := gD_iff.mp hD1
  have hn := hN.1
  rw [List.map_append, List.map_append] at hn
  obtain ⟨hn1, hn2, hn3⟩ := List.nodup_append.mp hn
  obtain ⟨hn4, hn5, hn6⟩ := List.nodup_append.mp hn2
  have out : ∀ q : Nat × va_E, q ∈ pre ∨ q ∈ post → q.1 < H.size ∧ ¬ va_A blk H.size q.1 := by
    intro q hq
    have hm : q ∈ pre ++ (blk ++ post) := by
      rcases hq with hq | hq
      · exact List.mem_append_left _ hq
      · exact List.mem_append_right _ (List.mem_append_right _ hq)
    have hl := (gP_mem hP hm).lt
    refine ⟨hl, fun h => ?_⟩
    rcases h with ⟨k, e, h⟩ | h
    · have hb : q.1 ∈ blk.map Prod.fst := List.mem_map.mpr ⟨(q.1, e), List.mem_of_getElem? h, rfl⟩
      rcases hq with hq | hq
      · exact hn3 q.1 (List.mem_map.mpr ⟨q, hq, rfl⟩) q.1 (List.mem_append_left _ hb) rfl
      · exact hn6 q.1 hb q.1 (List.mem_map.mpr ⟨q, hq, rfl⟩) rfl
    · omega
  refine ⟨gP_of fun q hq => ?_, gD_iff.mpr ⟨?_, fun q hq => ?_⟩⟩
  · rcases List.mem_append.mp hq with hq | hq
    · obtain ⟨a, b⟩ := out q (Or.inl hq)
      exact (gP_mem hP (List.mem_append_left _ hq)).kept (hk q.1 a b)
    · rcases List.mem_append.mp hq with hq | hq
      · exact gP_mem hP1 hq
      · obtain ⟨a, b⟩ := out q (Or.inr hq)
        exact (gP_mem hP (List.mem_append_right _ (List.mem_append_right _ hq))).kept (hk q.1 a b)
  · have inA : ∀ x ∈ blk'.map Prod.fst, va_A blk H.size x := by
      intro x hx
      obtain ⟨q, hq, rfl⟩ := List.mem_map.mp hx
      exact hN1.2 q hq
    rw [List.map_append, List.map_append]
    refine List.nodup_append.mpr ⟨hn1, List.nodup_append.mpr ⟨hN1.1, hn5, fun x hx y hy e => ?_⟩, fun x hx y hy e => ?_⟩
    · subst e
      obtain ⟨q, hq, rfl⟩ := List.mem_map.mp hy
      exact (out q (Or.inr hq)).2 (inA _ hx)
    · subst e
      rcases List.mem_append.mp hy with hy | hy
      · obtain ⟨q, hq, rfl⟩ := List.mem_map.mp hx
        exact (out q (Or.inl hq)).2 (inA _ hy)
      · exact hn3 x hx x (List.mem_append_right _ hy) rfl
  · rcases List.mem_append.mp hq with hq | hq
    · exact hN.2 q (List.mem_append_left _ hq)
    · rcases List.mem_append.mp hq with hq | hq
      · have := hN1.2 q hq
        rcases this with ⟨k, e, h⟩ | h
        · exact hN.2 (q.1, e) (List.mem_append_right _ (List.mem_append_left _ (List.mem_of_getElem? h)))
        · exact hA _ h
      · exact hN.2 q (List.mem_append_right _ (List.mem_append_right _ hq))
/-! contracts -/
def gPre (G : gG) (blk : va_W) (sz : Nat) (U : State) : Prop := U.heap.size = sz ∧ va_P G.1 vwCl blk U.heap ∧ va_K G.1 vwCl (gTy G) U ∧ va_D (fun _ => True) blk ∧ gSF G (va_A blk sz) U U.heap
def gQ (G : gG) (blk : va_W) (sz : Nat) (ov : Option Value) (blk' : (Nat → Nat) → va_W) : Array Value → State → Outcome → State → Prop := fun _ st oc t => (∃ u : Nat → Nat, oc = .returned ov ∧ va_P G.1 vwCl (blk' u) t.heap ∧ va_D (va_A blk sz) (blk' u)) ∧ va_F (va_A blk sz) st t
/-- the method y, called with av over the cells blk, returns ov, and the cells are blk' u then (u: addresses of what it made) -/
def CT (l : Launch) (y : MethodName) (cc : ByteArray) (maxL : Nat) (ret : Option FieldType) (rm : Room) (G : gG) (av : List Value) (blk : va_W) (ov : Option Value) (blk' : (Nat → Nat) → va_W) : Prop := ∀ sz, Met l y (.code y cc maxL ret :: wsG) rm (va_Pc av (gPre G blk sz)) (gQ G blk sz ov blk') rm.cells rm.slots (va_A blk sz)
theorem gPre_blind (G : gG) (blk : va_W) (sz : Nat) (av : List Value) : FrameBlind (va_Pc av (gPre G blk sz)) := fun a U g mk q => by
  obtain ⟨q0, q1, qP, qK, qD, qS⟩ := q
  exact ⟨q0, q1, qP, va_K.moved (u := U) (U := U.calling g mk a) (Vm.Alike.refl U.vm) qK, qD, gSF.same (u := U) (U := U.calling g mk a) rfl qS⟩
/-! a state of the walk: everything that stays (X); the world, room used, the place, locals and stack -/
abbrev gX : Type := Program × Launch × Env × State × MethodId × Array Value × List Frame × Method × Code × (Nat → Prop) × (State → Prop) × Room
abbrev gX.p (X : gX) : Program := X.1
abbrev gX.l (X : gX) : Launch := X.2.1
abbrev gX.e (X : gX) : Env := X.2.2.1
abbrev gX.s (X : gX) : State := X.2.2.2.1
abbrev gX.m (X : gX) : MethodId := X.2.2.2.2.1
abbrev gX.args (X : gX) : Array Value := X.2.2.2.2.2.1
abbrev gX.below (X : gX) : List Frame := X.2.2.2.2.2.2.1
abbrev gX.meth (X : gX) : Method := X.2.2.2.2.2.2.2.1
abbrev gX.c (X : gX) : Code := X.2.2.2.2.2.2.2.2.1
abbrev gX.A (X : gX) : Nat → Prop := X.2.2.2.2.2.2.2.2.2.1
abbrev gX.Z (X : gX) : State → Prop := X.2.2.2.2.2.2.2.2.2.2.1
abbrev gX.R (X : gX) : Room := X.2.2.2.2.2.2.2.2.2.2.2
def gW (G : gG) (X : gX) (ws : va_W) (kc ks pc : Nat) (lv : List (Nat × Value)) (st : List Value) : Prop :=
  ∀ (H : Heap) (locs : List Loc) (ls : Array Slot), va_P G.1 vwCl ws H → va_D (gX.A X) ws → va_S (gX.A X) (gX.s X).heap H locs → lv_has ls (gX.c X).maxLocals lv → W (gX.p X) (gX.l X) (gX.e X) (gX.R X) (gX.s X) (gX.m X) (gX.args X) (gX.below X) (gX.meth X) (gX.c X) H locs kc ks (gX.Z X) (F0 (gX.m X) pc ls st)
abbrev gC (G : gG) (X : gX) (cc : ByteArray) (nL : Nat) (R : Room) (own : String) : Prop := (gX.p X).tables.exec = Jvm.exec ∧ (gX.c X).code = cc ∧ (gX.c X).maxLocals = nL ∧ (gX.s X).vm.findClass own = some (gX.m X).cls ∧ (∀ w ∈ wsG, w.before (gX.args X) (gX.s X) = true) ∧ va_K G.1 vwCl (gTy G) (gX.s X) ∧ gSF G (gX.A X) (gX.s X) (gX.s X).heap ∧ (∀ q, (gX.s X).heap.size ≤ q → gX.A X q) ∧ (gX.meth X).locks = false ∧ gX.R X = R
def gE (G : gG) (X : gX) (blk : va_W) (ov : Option Value) (blk' : (Nat → Nat) → va_W) (rm : Room) : Prop := gX.A X = va_A blk (gX.s X).heap.size ∧ gX.Z X = MQ (gX.below X) (gQ G blk (gX.s X).heap.size ov blk') (gX.args X) (gX.s X) rm.cells rm.slots (va_A blk (gX.s X).heap.size)
theorem gMet {l : Launch} {y : MethodName} {cc : ByteArray} {maxL : Nat} {ret : Option FieldType} {rm : Room} {G : gG} {av : List Value} {blk : va_W} {ov : Option Value} {blk' : (Nat → Nat) → va_W} (hy : plainName y.cls = true) (hav : (lg_sl av).length ≤ maxL)
    (body : ∀ X : gX, gX.l X = l → gC G X cc maxL rm y.cls → (gX.meth X).sig.returnType = ret → (gX.meth X).name = y.name → gE G X blk ov blk' rm → gW G X blk 0 0 0 (lv_args 0 av) []) : CT l y cc maxL ret rm G av blk ov blk' := by
  intro sz
  refine Met.ofW (cc := cc) (maxL := maxL) (ret := ret) hy rfl ?_
  intro p e s m args below meth c s₁ B hml hv
  obtain ⟨rfl, hsz, hP, hK, hD, hSF⟩ := hv
  have hts := atoms_spec (ws := Cond.code y cc maxL ret :: wsG) B.pre
  subst hsz
  rw [lg_entry_eq]
  exact body (p, l, e, s, m, av.toArray, below, meth, c, va_A blk s.heap.size, MQ below (gQ G blk s.heap.size ov blk') av.toArray s rm.cells rm.slots (va_A blk s.heap.size), rm) rfl
    ⟨B.exec, B.bytes, hml, findClass_of_methodNamed B.named, fun w h => hts w (List.mem_cons_of_mem _ h), hK, hSF, fun q h => Or.inr h, B.notSynchronized, rfl⟩
    B.returns (name_of_methodNamed B.named B.method).1 ⟨rfl, rfl⟩ s.heap [] _ hP hD.self va_S.rf (by show lv_has _ c.maxLocals _; rw [hml]; exact lv_entry av hav)
end
section
def mxI (x y : Int32) : Int32 := if x < y then y else x
def mnI (x y : Int32) : Int32 := if y < x then y else x
/-- the remainder as the machine counts it -/
def iR (x y : Int32) : Int32 := x - x / y * y
theorem x_iconst {G : gG} {X : gX} {cc : ByteArray} {nL : Nat} {R : Room} {own : String} (C : gC G X cc nL R own) {ws : va_W} {kc ks pc : Nat} {lv : List (Nat × Value)} {st : List Value} {n : Int} {v : Int32} (d : decode cc pc = .ok (.iconst n, 1)) (hv : Int32.ofInt n = v) (k : gW G X ws kc ks (pc + 1) lv (.int v :: st)) : gW G X ws kc ks pc lv st := fun H locs ls hP hD hS hl => lv_iconst C.1 C.2.1 d hv (k H locs ls hP hD hS hl)
theorem x_bipush {G : gG} {X : gX} {cc : ByteArray} {nL : Nat} {R : Room} {own : String} (C : gC G X cc nL R own) {ws : va_W} {kc ks pc : Nat} {lv : List (Nat × Value)} {st : List Value} {n : Int} {v : Int32} (d : decode cc pc = .ok (.bipush n, 2)) (hv : (Int8.ofInt n).toInt32 = v) (k : gW G X ws kc ks (pc + 2) lv (.int v :: st)) : gW G X ws kc ks pc lv st := fun H locs ls hP hD hS hl => lv_bipush C.1 C.2.1 d hv (k H locs ls hP hD hS hl)
theorem x_sipush {G : gG} {X : gX} {cc : ByteArray} {nL : Nat} {R : Room} {own : String} (C : gC G X cc nL R own) {ws : va_W} {kc ks pc : Nat} {lv : List (Nat × Value)} {st : List Value} {n : Int} {v : Int32} (d : decode cc pc = .ok (.sipush n, 3)) (hv : (Int16.ofInt n).toInt32 = v) (k : gW G X ws kc ks (pc + 3) lv (.int v :: st)) : gW G X ws kc ks pc lv st := fun H locs ls hP hD hS hl => lv_sipush C.1 C.2.1 d hv (k H locs ls hP hD hS hl)
theorem x_iload_n {G : gG} {X : gX} {cc : ByteArray} {nL : Nat} {R : Room} {own : String} (C : gC G X cc nL R own) {ws : va_W} {kc ks pc : Nat} {lv : List (Nat × Value)} {st : List Value} {k0 : Fin 4} {i : Nat} {x : Int32} (j : Nat) (hj : lv[j]? = some (i, .int x)) (d : decode cc pc = .ok (.iload_n k0, 1)) (hi : (k0 : Nat) = i) (k : gW G X ws kc ks (pc + 1) lv (.int x :: st)) : gW G X ws kc ks pc lv st := fun H locs ls hP hD hS hl => lv_iload_n C.1 C.2.1 d hi (lv_at hl j hj) (k H locs ls hP hD hS hl)
theorem x_iload {G : gG} {X : gX} {cc : ByteArray} {nL : Nat} {R : Room} {own : String} (C : gC G X cc nL R own) {ws : va_W} {kc ks pc : Nat} {lv : List (Nat × Value)} {st : List Value} {i : Nat} {x : Int32} (j : Nat) (hj : lv[j]? = some (i, .int x)) (d : decode cc pc = .ok (.iload i, 2)) (k : gW G X ws kc ks (pc + 2) lv (.int x :: st)) : gW G X ws kc ks pc lv st := fun H locs ls hP hD hS hl => lv_iload C.1 C.2.1 d (lv_at hl j hj) (k H locs ls hP hD hS hl)
theorem x_aload_n {G : gG} {X : gX} {cc : ByteArray} {nL : Nat} {R : Room} {own : String} (C : gC G X cc nL R own) {ws : va_W} {kc ks pc : Nat} {lv : List (Nat × Value)} {st : List Value} {k0 : Fin 4} {i : Nat} {x : Nat} (j : Nat) (hj : lv[j]? = some (i, .ref x)) (d : decode cc pc = .ok (.aload_n k0, 1)) (hi : (k0 : Nat) = i) (k : gW G X ws kc ks (pc + 1) lv (.ref x :: st)) : gW G X ws kc ks pc lv st := fun H locs ls hP hD hS hl => lv_aload_n C.1 C.2.1 d hi (lv_at hl j hj) (k H locs ls hP hD hS hl)
theorem x_aload {G : gG} {X : gX} {cc : ByteArray} {nL : Nat} {R : Room} {own : String} (C : gC G X cc nL R own) {ws : va_W} {kc ks pc : Nat} {lv : List (Nat × Value)} {st : List Value} {i : Nat} {x : Nat} (j : Nat) (hj : lv[j]? = some (i, .ref x)) (d : decode cc pc = .ok (.aload i, 2)) (k : gW G X ws kc ks (pc + 2) lv (.ref x :: st)) : gW G X ws kc ks pc lv st := fun H locs ls hP hD hS hl => lv_aload C.1 C.2.1 d (lv_at hl j hj) (k H locs ls hP hD hS hl)
theorem x_istore_n {G : gG} {X : gX} {cc : ByteArray} {nL : Nat} {R : Room} {own : String} (C : gC G X cc nL R own) {ws : va_W} {kc ks pc : Nat} {lv : List (Nat × Value)} {st : List Value} {k0 : Fin 4} {i : Nat} {x : Int32} {lv' : List (Nat × Value)} (d : decode cc pc = .ok (.istore_n k0, 1)) (hi : (k0 : Nat) = i) (hn : i < nL) (hv : (i, Value.int x) :: lv.filter (fun q => !(q.1 == i) && !(q.1 + 1 == i && q.2.category == 2)) = lv') (k : gW G X ws kc ks (pc + 1) lv' st) : gW G X ws kc ks pc lv (.int x :: st) := fun H locs ls hP hD hS hl => lv_istore_n (nL := (gX.c X).maxLocals) C.1 C.2.1 d hi hl (by rw [C.2.2.1]; exact hn) hv (fun ls' hl' => k H locs ls' hP hD hS hl')
theorem x_istore {G : gG} {X : gX} {cc : ByteArray} {nL : Nat} {R : Room} {own : String} (C : gC G X cc nL R own) {ws : va_W} {kc ks pc : Nat} {lv : List (Nat × Value)} {st : List Value} {i : Nat} {x : Int32} {lv' : List (Nat × Value)} (d : decode cc pc = .ok (.istore i, 2)) (hn : i < nL) (hv : (i, Value.int x) :: lv.filter (fun q => !(q.1 == i) && !(q.1 + 1 == i && q.2.category == 2)) = lv') (k : gW G X ws kc ks (pc + 2) lv' st) : gW G X ws kc ks pc lv (.int x :: st) := fun H locs ls hP hD hS hl => lv_istore (nL := (gX.c X).maxLocals) C.1 C.2.1 d hl (by rw [C.2.2.1]; exact hn) hv (fun ls' hl' => k H locs ls' hP hD hS hl')
theorem x_astore_n {G : gG} {X : gX} {cc : ByteArray} {nL : Nat} {R : Room} {own : String} (C : gC G X cc nL R own) {ws : va_W} {kc ks pc : Nat} {lv : List (Nat × Value)} {st : List Value} {k0 : Fin 4} {i : Nat} {x : Nat} {lv' : List (Nat × Value)} (d : decode cc pc = .ok (.astore_n k0, 1)) (hi : (k0 : Nat) = i) (hn : i < nL) (hv : (i, Value.ref x) :: lv.filter (fun q => !(q.1 == i) && !(q.1 + 1 == i && q.2.category == 2)) = lv') (k : gW G X ws kc ks (pc + 1) lv' st) : gW G X ws kc ks pc lv (.ref x :: st) := fun H locs ls hP hD hS hl => lv_astore_n (nL := (gX.c X).maxLocals) C.1 C.2.1 d hi hl (by rw [C.2.2.1]; exact hn) hv (fun ls' hl' => k H locs ls' hP hD hS hl')
theorem x_astore {G : gG} {X : gX} {cc : ByteArray} {nL : Nat} {R : Room} {own : String} (C : gC G X cc nL R own) {ws : va_W} {kc ks pc : Nat} {lv : List (Nat × Value)} {st : List Value} {i : Nat} {x : Nat} {lv' : List (Nat × Value)} (d : decode cc pc = .ok (.astore i, 2)) (hn : i < nL) (hv : (i, Value.ref x) :: lv.filter (fun q => !(q.1 == i) && !(q.1 + 1 == i && q.2.category == 2)) = lv') (k : gW G X ws kc ks (pc + 2) lv' st) : gW G X ws kc ks pc lv (.ref x :: st) := fun H locs ls hP hD hS hl => lv_astore (nL := (gX.c X).maxLocals) C.1 C.2.1 d hl (by rw [C.2.2.1]; exact hn) hv (fun ls' hl' => k H locs ls' hP hD hS hl')
theorem x_iinc {G : gG} {X : gX} {cc : ByteArray} {nL : Nat} {R : Room} {own : String} (C : gC G X cc nL R own) {ws : va_W} {kc ks pc : Nat} {lv : List (Nat × Value)} {st : List Value} {i : Nat} {n : Int} {x v : Int32} {lv' : List (Nat × Value)} (j : Nat) (hj : lv[j]? = some (i, .int x)) (d : decode cc pc = .ok (.iinc i n, 3)) (hx : x + Int32.ofInt n = v) (hn : i < nL) (hv : (i, Value.int v) :: lv.filter (fun q => !(q.1 == i) && !(q.1 + 1 == i && q.2.category == 2)) = lv') (k : gW G X ws kc ks (pc + 3) lv' st) : gW G X ws kc ks pc lv st := fun H locs ls hP hD hS hl => lv_iinc (nL := (gX.c X).maxLocals) C.1 C.2.1 d hl hj hx (by rw [C.2.2.1]; exact hn) hv (fun ls' hl' => k H locs ls' hP hD hS hl')
theorem x_iadd {G : gG} {X : gX} {cc : ByteArray} {nL : Nat} {R : Room} {own : String} (C : gC G X cc nL R own) {ws : va_W} {kc ks pc : Nat} {lv : List (Nat × Value)} {st : List Value} {x y : Int32} (d : decode cc pc = .ok (.iadd, 1)) (k : gW G X ws kc ks (pc + 1) lv (.int (x + y) :: st)) : gW G X ws kc ks pc lv (.int y :: .int x :: st) := fun H locs ls hP hD hS hl => lv_iadd C.1 C.2.1 d (k H locs ls hP hD hS hl)
theorem x_isub {G : gG} {X : gX} {cc : ByteArray} {nL : Nat} {R : Room} {own : String} (C : gC G X cc nL R own) {ws : va_W} {kc ks pc : Nat} {lv : List (Nat × Value)} {st : List Value} {x y : Int32} (d : decode cc pc = .ok (.isub, 1)) (k : gW G X ws kc ks (pc + 1) lv (.int (x - y) :: st)) : gW G X ws kc ks pc lv (.int y :: .int x :: st) := fun H locs ls hP hD hS hl => lv_isub C.1 C.2.1 d (k H locs ls hP hD hS hl)
theorem x_imul {G : gG} {X : gX} {cc : ByteArray} {nL : Nat} {R : Room} {own : String} (C : gC G X cc nL R own) {ws : va_W} {kc ks pc : Nat} {lv : List (Nat × Value)} {st : List Value} {x y : Int32} (d : decode cc pc = .ok (.imul, 1)) (k : gW G X ws kc ks (pc + 1) lv (.int (x * y) :: st)) : gW G X ws kc ks pc lv (.int y :: .int x :: st) := fun H locs ls hP hD hS hl => lv_imul C.1 C.2.1 d (k H locs ls hP hD hS hl)
theorem x_iand {G : gG} {X : gX} {cc : ByteArray} {nL : Nat} {R : Room} {own : String} (C : gC G X cc nL R own) {ws : va_W} {kc ks pc : Nat} {lv : List (Nat × Value)} {st : List Value} {x y : Int32} (d : decode cc pc = .ok (.iand, 1)) (k : gW G X ws kc ks (pc + 1) lv (.int (x &&& y) :: st)) : gW G X ws kc ks pc lv (.int y :: .int x :: st) := fun H locs ls hP hD hS hl => lv_iand C.1 C.2.1 d (k H locs ls hP hD hS hl)
theorem x_ior {G : gG} {X : gX} {cc : ByteArray} {nL : Nat} {R : Room} {own : String} (C : gC G X cc nL R own) {ws : va_W} {kc ks pc : Nat} {lv : List (Nat × Value)} {st : List Value} {x y : Int32} (d : decode cc pc = .ok (.ior, 1)) (k : gW G X ws kc ks (pc + 1) lv (.int (x ||| y) :: st)) : gW G X ws kc ks pc lv (.int y :: .int x :: st) := fun H locs ls hP hD hS hl => lv_ior C.1 C.2.1 d (k H locs ls hP hD hS hl)
theorem x_ishl {G : gG} {X : gX} {cc : ByteArray} {nL : Nat} {R : Room} {own : String} (C : gC G X cc nL R own) {ws : va_W} {kc ks pc : Nat} {lv : List (Nat × Value)} {st : List Value} {x y : Int32} (d : decode cc pc = .ok (.ishl, 1)) (k : gW G X ws kc ks (pc + 1) lv (.int (x <<< (y &&& 31)) :: st)) : gW G X ws kc ks pc lv (.int y :: .int x :: st) := fun H locs ls hP hD hS hl => lv_ishl C.1 C.2.1 d (k H locs ls hP hD hS hl)
theorem x_ishr {G : gG} {X : gX} {cc : ByteArray} {nL : Nat} {R : Room} {own : String} (C : gC G X cc nL R own) {ws : va_W} {kc ks pc : Nat} {lv : List (Nat × Value)} {st : List Value} {x y : Int32} (d : decode cc pc = .ok (.ishr, 1)) (k : gW G X ws kc ks (pc + 1) lv (.int (x >>> (y &&& 31)) :: st)) : gW G X ws kc ks pc lv (.int y :: .int x :: st) := fun H locs ls hP hD hS hl => lv_ishr C.1 C.2.1 d (k H locs ls hP hD hS hl)
theorem x_idiv {G : gG} {X : gX} {cc : ByteArray} {nL : Nat} {R : Room} {own : String} (C : gC G X cc nL R own) {ws : va_W} {kc ks pc : Nat} {lv : List (Nat × Value)} {st : List Value} {x y : Int32} (hy : ¬ y = 0) (d : decode cc pc = .ok (.idiv, 1)) (k : gW G X ws kc ks (pc + 1) lv (.int (x / y) :: st)) : gW G X ws kc ks pc lv (.int y :: .int x :: st) := fun H locs ls hP hD hS hl => lv_idiv C.1 C.2.1 d hy (k H locs ls hP hD hS hl)
theorem x_irem {G : gG} {X : gX} {cc : ByteArray} {nL : Nat} {R : Room} {own : String} (C : gC G X cc nL R own) {ws : va_W} {kc ks pc : Nat} {lv : List (Nat × Value)} {st : List Value} {x y : Int32} (hy : ¬ y = 0) (d : decode cc pc = .ok (.irem, 1)) (k : gW G X ws kc ks (pc + 1) lv (.int (iR x y) :: st)) : gW G X ws kc ks pc lv (.int y :: .int x :: st) := fun H locs ls hP hD hS hl => lv_irem C.1 C.2.1 d hy (k H locs ls hP hD hS hl)
theorem x_i2c {G : gG} {X : gX} {cc : ByteArray} {nL : Nat} {R : Room} {own : String} (C : gC G X cc nL R own) {ws : va_W} {kc ks pc : Nat} {lv : List (Nat × Value)} {st : List Value} {x : Int32} (d : decode cc pc = .ok (.i2c, 1)) (k : gW G X ws kc ks (pc + 1) lv (.int (x.toUInt32 % 65536).toInt32 :: st)) : gW G X ws kc ks pc lv (.int x :: st) := fun H locs ls hP hD hS hl => lv_i2c C.1 C.2.1 d rfl (k H locs ls hP hD hS hl)
theorem x_dup {G : gG} {X : gX} {cc : ByteArray} {nL : Nat} {R : Room} {own : String} (C : gC G X cc nL R own) {ws : va_W} {kc ks pc : Nat} {lv : List (Nat × Value)} {st : List Value} {v : Value} (hc : v.category = 1) (d : decode cc pc = .ok (.dup, 1)) (k : gW G X ws kc ks (pc + 1) lv (v :: v :: st)) : gW G X ws kc ks pc lv (v :: st) := fun H locs ls hP hD hS hl => lv_dup C.1 C.2.1 d hc (k H locs ls hP hD hS hl)
theorem x_pop {G : gG} {X : gX} {cc : ByteArray} {nL : Nat} {R : Room} {own : String} (C : gC G X cc nL R own) {ws : va_W} {kc ks pc : Nat} {lv : List (Nat × Value)} {st : List Value} {v : Value} (hc : v.category = 1) (d : decode cc pc = .ok (.pop, 1)) (k : gW G X ws kc ks (pc + 1) lv st) : gW G X ws kc ks pc lv (v :: st) := fun H locs ls hP hD hS hl => lv_pop C.1 C.2.1 d hc (k H locs ls hP hD hS hl)
theorem x_dup2 {G : gG} {X : gX} {cc : ByteArray} {nL : Nat} {R : Room} {own : String} (C : gC G X cc nL R own) {ws : va_W} {kc ks pc : Nat} {lv : List (Nat × Value)} {st : List Value} {va vb : Value} (ha : va.category = 1) (hb : vb.category = 1) (d : decode cc pc = .ok (.dup2, 1)) (k : gW G X ws kc ks (pc + 1) lv (va :: vb :: va :: vb :: st)) : gW G X ws kc ks pc lv (va :: vb :: st) := fun H locs ls hP hD hS hl => lv_dup2_11 C.1 C.2.1 d ha hb (k H locs ls hP hD hS hl)
theorem x_goto {G : gG} {X : gX} {cc : ByteArray} {nL : Nat} {R : Room} {own : String} (C : gC G X cc nL R own) {ws : va_W} {kc ks pc : Nat} {lv : List (Nat × Value)} {st : List Value} {off : Int} {tgt : Nat} (d : decode cc pc = .ok (.goto off, 3)) (ht : (pc : Int) + off = (tgt : Int)) (k : gW G X ws kc ks tgt lv st) : gW G X ws kc ks pc lv st := fun H locs ls hP hD hS hl => lv_goto C.1 C.2.1 d ht (k H locs ls hP hD hS hl)
theorem x_top {G : gG} {X : gX} {ws : va_W} {kc ks pc : Nat} {lv : List (Nat × Value)} {st : List Value} {x y : Int32} (h : x = y) (k : gW G X ws kc ks pc lv (.int y :: st)) : gW G X ws kc ks pc lv (.int x :: st) := h ▸ k
theorem x_gen {G : gG} {X : gX} {ws : va_W} {kc ks pc : Nat} {lv : List (Nat × Value)} {st : List Value} {x : Int32} (k : ∀ y : Int32, y = x → gW G X ws kc ks pc lv (.int y :: st)) : gW G X ws kc ks pc lv (.int x :: st) := k x rfl
theorem x_iaddN {G : gG} {X : gX} {cc : ByteArray} {nL : Nat} {R : Room} {own : String} (C : gC G X cc nL R own) {ws : va_W} {kc ks pc : Nat} {lv : List (Nat × Value)} {st : List Value} {a b : Nat} (d : decode cc pc = .ok (.iadd, 1)) (k : gW G X ws kc ks (pc + 1) lv (.int (nI (a + b)) :: st)) : gW G X ws kc ks pc lv (.int (nI b) :: .int (nI a) :: st) := x_iadd C d (x_top (nI_add a b) k)
theorem x_imulN {G : gG} {X : gX} {cc : ByteArray} {nL : Nat} {R : Room} {own : String} (C : gC G X cc nL R own) {ws : va_W} {kc ks pc : Nat} {lv : List (Nat × Value)} {st : List Value} {a b : Nat} (d : decode cc pc = .ok (.imul, 1)) (k : gW G X ws kc ks (pc + 1) lv (.int (nI (a * b)) :: st)) : gW G X ws kc ks pc lv (.int (nI b) :: .int (nI a) :: st) := x_imul C d (x_top (pk_mul a b) k)
theorem x_isubN {G : gG} {X : gX} {cc : ByteArray} {nL : Nat} {R : Room} {own : String} (C : gC G X cc nL R own) {ws : va_W} {kc ks pc : Nat} {lv : List (Nat × Value)} {st : List Value} {a b : Nat} (d : decode cc pc = .ok (.isub, 1)) (hb : b ≤ a) (k : gW G X ws kc ks (pc + 1) lv (.int (nI (a - b)) :: st)) : gW G X ws kc ks pc lv (.int (nI b) :: .int (nI a) :: st) := x_isub C d (x_top (pk_sub hb) k)
theorem x_idivN {G : gG} {X : gX} {cc : ByteArray} {nL : Nat} {R : Room} {own : String} (C : gC G X cc nL R own) {ws : va_W} {kc ks pc : Nat} {lv : List (Nat × Value)} {st : List Value} {a b : Nat} (d : decode cc pc = .ok (.idiv, 1)) (ha : a < 2 ^ 31) (h0 : 0 < b) (hb : b < 2 ^ 31) (k : gW G X ws kc ks (pc + 1) lv (.int (nI (a / b)) :: st)) : gW G X ws kc ks pc lv (.int (nI b) :: .int (nI a) :: st) := x_idiv C (nI_ne0 h0 hb) d (x_top (pk_div ha h0 hb) k)
theorem x_iremN {G : gG} {X : gX} {cc : ByteArray} {nL : Nat} {R : Room} {own : String} (C : gC G X cc nL R own) {ws : va_W} {kc ks pc : Nat} {lv : List (Nat × Value)} {st : List Value} {a b : Nat} (d : decode cc pc = .ok (.irem, 1)) (ha : a < 2 ^ 31) (h0 : 0 < b) (hb : b < 2 ^ 31) (k : gW G X ws kc ks (pc + 1) lv (.int (nI (a % b)) :: st)) : gW G X ws kc ks pc lv (.int (nI b) :: .int (nI a) :: st) := x_irem C (nI_ne0 h0 hb) d (x_top (pk_rem ha h0 hb) k)
theorem x_icmp_lt {G : gG} {X : gX} {cc : ByteArray} {nL : Nat} {R : Room} {own : String} (C : gC G X cc nL R own) {ws : va_W} {kc ks pc : Nat} {lv : List (Nat × Value)} {st : List Value} {x y : Int32} {off : Int} {tgt : Nat} (d : decode cc pc = .ok (.if_icmp .lt off, 3)) (ht : (pc : Int) + off = (tgt : Int)) (kt : x < y → gW G X ws kc ks tgt lv st) (kf : ¬ x < y → gW G X ws kc ks (pc + 3) lv st) : gW G X ws kc ks pc lv (.int y :: .int x :: st) := fun H locs ls hP hD hS hl => lv_icmp_lt C.1 C.2.1 d ht (fun h => kt h H locs ls hP hD hS hl) (fun h => kf h H locs ls hP hD hS hl)
theorem x_if_lt {G : gG} {X : gX} {cc : ByteArray} {nL : Nat} {R : Room} {own : String} (C : gC G X cc nL R own) {ws : va_W} {kc ks pc : Nat} {lv : List (Nat × Value)} {st : List Value} {x : Int32} {off : Int} {tgt : Nat} (d : decode cc pc = .ok (.ifCond .lt off, 3)) (ht : (pc : Int) + off = (tgt : Int)) (kt : x < 0 → gW G X ws kc ks tgt lv st) (kf : ¬ x < 0 → gW G X ws kc ks (pc + 3) lv st) : gW G X ws kc ks pc lv (.int x :: st) := fun H locs ls hP hD hS hl => lv_if_lt C.1 C.2.1 d ht (fun h => kt h H locs ls hP hD hS hl) (fun h => kf h H locs ls hP hD hS hl)
theorem x_icmp_ge {G : gG} {X : gX} {cc : ByteArray} {nL : Nat} {R : Room} {own : String} (C : gC G X cc nL R own) {ws : va_W} {kc ks pc : Nat} {lv : List (Nat × Value)} {st : List Value} {x y : Int32} {off : Int} {tgt : Nat} (d : decode cc pc = .ok (.if_icmp .ge off, 3)) (ht : (pc : Int) + off = (tgt : Int)) (kt : ¬ x < y → gW G X ws kc ks tgt lv st) (kf : x < y → gW G X ws kc ks (pc + 3) lv st) : gW G X ws kc ks pc lv (.int y :: .int x :: st) := fun H locs ls hP hD hS hl => lv_icmp_ge C.1 C.2.1 d ht (fun h => kt (Int32.not_lt.mpr h) H locs ls hP hD hS hl) (fun h => kf (Int32.not_le.mp h) H locs ls hP hD hS hl)
theorem x_if_ge {G : gG} {X : gX} {cc : ByteArray} {nL : Nat} {R : Room} {own : String} (C : gC G X cc nL R own) {ws : va_W} {kc ks pc : Nat} {lv : List (Nat × Value)} {st : List Value} {x : Int32} {off : Int} {tgt : Nat} (d : decode cc pc = .ok (.ifCond .ge off, 3)) (ht : (pc : Int) + off = (tgt : Int)) (kt : ¬ x < 0 → gW G X ws kc ks tgt lv st) (kf : x < 0 → gW G X ws kc ks (pc + 3) lv st) : gW G X ws kc ks pc lv (.int x :: st) := fun H locs ls hP hD hS hl => lv_if_ge C.1 C.2.1 d ht (fun h => kt (Int32.not_lt.mpr h) H locs ls hP hD hS hl) (fun h => kf (Int32.not_le.mp h) H locs ls hP hD hS hl)
theorem x_icmp_gt {G : gG} {X : gX} {cc : ByteArray} {nL : Nat} {R : Room} {own : String} (C : gC G X cc nL R own) {ws : va_W} {kc ks pc : Nat} {lv : List (Nat × Value)} {st : List Value} {x y : Int32} {off : Int} {tgt : Nat} (d : decode cc pc = .ok (.if_icmp .gt off, 3)) (ht : (pc : Int) + off = (tgt : Int)) (kt : y < x → gW G X ws kc ks tgt lv st) (kf : ¬ y < x → gW G X ws kc ks (pc + 3) lv st) : gW G X ws kc ks pc lv (.int y :: .int x :: st) := fun H locs ls hP hD hS hl => lv_icmp_gt C.1 C.2.1 d ht (fun h => kt h H locs ls hP hD hS hl) (fun h => kf h H locs ls hP hD hS hl)
theorem x_if_gt {G : gG} {X : gX} {cc : ByteArray} {nL : Nat} {R : Room} {own : String} (C : gC G X cc nL R own) {ws : va_W} {kc ks pc : Nat} {lv : List (Nat × Value)} {st : List Value} {x : Int32} {off : Int} {tgt : Nat} (d : decode cc pc = .ok (.ifCond .gt off, 3)) (ht : (pc : Int) + off = (tgt : Int)) (kt : 0 < x → gW G X ws kc ks tgt lv st) (kf : ¬ 0 < x → gW G X ws kc ks (pc + 3) lv st) : gW G X ws kc ks pc lv (.int x :: st) := fun H locs ls hP hD hS hl => lv_if_gt C.1 C.2.1 d ht (fun h => kt h H locs ls hP hD hS hl) (fun h => kf h H locs ls hP hD hS hl)
theorem x_icmp_le {G : gG} {X : gX} {cc : ByteArray} {nL : Nat} {R : Room} {own : String} (C : gC G X cc nL R own) {ws : va_W} {kc ks pc : Nat} {lv : List (Nat × Value)} {st : List Value} {x y : Int32} {off : Int} {tgt : Nat} (d : decode cc pc = .ok (.if_icmp .le off, 3)) (ht : (pc : Int) + off = (tgt : Int)) (kt : ¬ y < x → gW G X ws kc ks tgt lv st) (kf : y < x → gW G X ws kc ks (pc + 3) lv st) : gW G X ws kc ks pc lv (.int y :: .int x :: st) := fun H locs ls hP hD hS hl => lv_icmp_le C.1 C.2.1 d ht (fun h => kt (Int32.not_lt.mpr h) H locs ls hP hD hS hl) (fun h => kf (Int32.not_le.mp h) H locs ls hP hD hS hl)
theorem x_if_le {G : gG} {X : gX} {cc : ByteArray} {nL : Nat} {R : Room} {own : String} (C : gC G X cc nL R own) {ws : va_W} {kc ks pc : Nat} {lv : List (Nat × Value)} {st : List Value} {x : Int32} {off : Int} {tgt : Nat} (d : decode cc pc = .ok (.ifCond .le off, 3)) (ht : (pc : Int) + off = (tgt : Int)) (kt : ¬ 0 < x → gW G X ws kc ks tgt lv st) (kf : 0 < x → gW G X ws kc ks (pc + 3) lv st) : gW G X ws kc ks pc lv (.int x :: st) := fun H locs ls hP hD hS hl => lv_if_le C.1 C.2.1 d ht (fun h => kt (Int32.not_lt.mpr h) H locs ls hP hD hS hl) (fun h => kf (Int32.not_le.mp h) H locs ls hP hD hS hl)
theorem x_icmp_eq {G : gG} {X : gX} {cc : ByteArray} {nL : Nat} {R : Room} {own : String} (C : gC G X cc nL R own) {ws : va_W} {kc ks pc : Nat} {lv : List (Nat × Value)} {st : List Value} {x y : Int32} {off : Int} {tgt : Nat} (d : decode cc pc = .ok (.if_icmp .eq off, 3)) (ht : (pc : Int) + off = (tgt : Int)) (kt : x = y → gW G X ws kc ks tgt lv st) (kf : ¬ x = y → gW G X ws kc ks (pc + 3) lv st) : gW G X ws kc ks pc lv (.int y :: .int x :: st) := fun H locs ls hP hD hS hl => lv_icmp_eq C.1 C.2.1 d ht (fun h => kt h H locs ls hP hD hS hl) (fun h => kf h H locs ls hP hD hS hl)
theorem x_if_eq {G : gG} {X : gX} {cc : ByteArray} {nL : Nat} {R : Room} {own : String} (C : gC G X cc nL R own) {ws : va_W} {kc ks pc : Nat} {lv : List (Nat × Value)} {st : List Value} {x : Int32} {off : Int} {tgt : Nat} (d : decode cc pc = .ok (.ifCond .eq off, 3)) (ht : (pc : Int) + off = (tgt : Int)) (kt : x = 0 → gW G X ws kc ks tgt lv st) (kf : ¬ x = 0 → gW G X ws kc ks (pc + 3) lv st) : gW G X ws kc ks pc lv (.int x :: st) := fun H locs ls hP hD hS hl => lv_if_eq C.1 C.2.1 d ht (fun h => kt h H locs ls hP hD hS hl) (fun h => kf h H locs ls hP hD hS hl)
theorem x_icmp_ne {G : gG} {X : gX} {cc : ByteArray} {nL : Nat} {R : Room} {own : String} (C : gC G X cc nL R own) {ws : va_W} {kc ks pc : Nat} {lv : List (Nat × Value)} {st : List Value} {x y : Int32} {off : Int} {tgt : Nat} (d : decode cc pc = .ok (.if_icmp .ne off, 3)) (ht : (pc : Int) + off = (tgt : Int)) (kt : ¬ x = y → gW G X ws kc ks tgt lv st) (kf : x = y → gW G X ws kc ks (pc + 3) lv st) : gW G X ws kc ks pc lv (.int y :: .int x :: st) := fun H locs ls hP hD hS hl => lv_icmp_ne C.1 C.2.1 d ht (fun h => kt h H locs ls hP hD hS hl) (fun h => kf h H locs ls hP hD hS hl)
theorem x_if_ne {G : gG} {X : gX} {cc : ByteArray} {nL : Nat} {R : Room} {own : String} (C : gC G X cc nL R own) {ws : va_W} {kc ks pc : Nat} {lv : List (Nat × Value)} {st : List Value} {x : Int32} {off : Int} {tgt : Nat} (d : decode cc pc = .ok (.ifCond .ne off, 3)) (ht : (pc : Int) + off = (tgt : Int)) (kt : ¬ x = 0 → gW G X ws kc ks tgt lv st) (kf : x = 0 → gW G X ws kc ks (pc + 3) lv st) : gW G X ws kc ks pc lv (.int x :: st) := fun H locs ls hP hD hS hl => lv_if_ne C.1 C.2.1 d ht (fun h => kt h H locs ls hP hD hS hl) (fun h => kf h H locs ls hP hD hS hl)
theorem x_icmp_ltN {G : gG} {X : gX} {cc : ByteArray} {nL : Nat} {R : Room} {own : String} (C : gC G X cc nL R own) {ws : va_W} {kc ks pc : Nat} {lv : List (Nat × Value)} {st : List Value} {a b : Nat} {off : Int} {tgt : Nat} (d : decode cc pc = .ok (.if_icmp .lt off, 3)) (ht : (pc : Int) + off = (tgt : Int)) (ha : a < 2 ^ 31) (hb : b < 2 ^ 31) (kt : a < b → gW G X ws kc ks tgt lv st) (kf : ¬ a < b → gW G X ws kc ks (pc + 3) lv st) : gW G X ws kc ks pc lv (.int (nI b) :: .int (nI a) :: st) := x_icmp_lt C d ht (fun h => kt ((nI_ltI ha hb).mp h)) (fun h => kf (fun h9 => h ((nI_ltI ha hb).mpr h9)))
theorem x_if_ltN {G : gG} {X : gX} {cc : ByteArray} {nL : Nat} {R : Room} {own : String} (C : gC G X cc nL R own) {ws : va_W} {kc ks pc : Nat} {lv : List (Nat × Value)} {st : List Value} {a : Nat} {off : Int} {tgt : Nat} (d : decode cc pc = .ok (.ifCond .lt off, 3)) (ht : (pc : Int) + off = (tgt : Int)) (ha : a < 2 ^ 31) (kt : a < 0 → gW G X ws kc ks tgt lv st) (kf : ¬ a < 0 → gW G X ws kc ks (pc + 3) lv st) : gW G X ws kc ks pc lv (.int (nI a) :: st) := have hb : 0 < 2 ^ 31 := by decide
  x_if_lt C d ht (fun h => kt ((nI_ltI ha hb).mp h)) (fun h => kf (fun h9 => h ((nI_ltI ha hb).mpr h9)))
theorem x_icmp_geN {G : gG} {X : gX} {cc : ByteArray} {nL : Nat} {R : Room} {own : String} (C : gC G X cc nL R own) {ws : va_W} {kc ks pc : Nat} {lv : List (Nat × Value)} {st : List Value} {a b : Nat} {off : Int} {tgt : Nat} (d : decode cc pc = .ok (.if_icmp .ge off, 3)) (ht : (pc : Int) + off = (tgt : Int)) (ha : a < 2 ^ 31) (hb : b < 2 ^ 31) (kt : ¬ a < b → gW G X ws kc ks tgt lv st) (kf : a < b → gW G X ws kc ks (pc + 3) lv st) : gW G X ws kc ks pc lv (.int (nI b) :: .int (nI a) :: st) := x_icmp_ge C d ht (fun h => kt (fun h9 => h ((nI_ltI ha hb).mpr h9))) (fun h => kf ((nI_ltI ha hb).mp h))
theorem x_if_geN {G : gG} {X : gX} {cc : ByteArray} {nL : Nat} {R : Room} {own : String} (C : gC G X cc nL R own) {ws : va_W} {kc ks pc : Nat} {lv : List (Nat × Value)} {st : List Value} {a : Nat} {off : Int} {tgt : Nat} (d : decode cc pc = .ok (.ifCond .ge off, 3)) (ht : (pc : Int) + off = (tgt : Int)) (ha : a < 2 ^ 31) (kt : ¬ a < 0 → gW G X ws kc ks tgt lv st) (kf : a < 0 → gW G X ws kc ks (pc + 3) lv st) : gW G X ws kc ks pc lv (.int (nI a) :: st) := have hb : 0 < 2 ^ 31 := by decide
  x_if_ge C d ht (fun h => kt (fun h9 => h ((nI_ltI ha hb).mpr h9))) (fun h => kf ((nI_ltI ha hb).mp h))
theorem x_icmp_gtN {G : gG} {X : gX} {cc : ByteArray} {nL : Nat} {R : Room} {own : String} (C : gC G X cc nL R own) {ws : va_W} {kc ks pc : Nat} {lv : List (Nat × Value)} {st : List Value} {a b : Nat} {off : Int} {tgt : Nat} (d : decode cc pc = .ok (.if_icmp .gt off, 3)) (ht : (pc : Int) + off = (tgt : Int)) (ha : a < 2 ^ 31) (hb : b < 2 ^ 31) (kt : b < a → gW G X ws kc ks tgt lv st) (kf : ¬ b < a → gW G X ws kc ks (pc + 3) lv st) : gW G X ws kc ks pc lv (.int (nI b) :: .int (nI a) :: st) := x_icmp_gt C d ht (fun h => kt ((nI_ltI hb ha).mp h)) (fun h => kf (fun h9 => h ((nI_ltI hb ha).mpr h9)))
theorem x_if_gtN {G : gG} {X : gX} {cc : ByteArray} {nL : Nat} {R : Room} {own : String} (C : gC G X cc nL R own) {ws : va_W} {kc ks pc : Nat} {lv : List (Nat × Value)} {st : List Value} {a : Nat} {off : Int} {tgt : Nat} (d : decode cc pc = .ok (.ifCond .gt off, 3)) (ht : (pc : Int) + off = (tgt : Int)) (ha : a < 2 ^ 31) (kt : 0 < a → gW G X ws kc ks tgt lv st) (kf : ¬ 0 < a → gW G X ws kc ks (pc + 3) lv st) : gW G X ws kc ks pc lv (.int (nI a) :: st) := have hb : 0 < 2 ^ 31 := by decide
  x_if_gt C d ht (fun h => kt ((nI_ltI hb ha).mp h)) (fun h => kf (fun h9 => h ((nI_ltI hb ha).mpr h9)))
theorem x_icmp_leN {G : gG} {X : gX} {cc : ByteArray} {nL : Nat} {R : Room} {own : String} (C : gC G X cc nL R own) {ws : va_W} {kc ks pc : Nat} {lv : List (Nat × Value)} {st : List Value} {a b : Nat} {off : Int} {tgt : Nat} (d : decode cc pc = .ok (.if_icmp .le off, 3)) (ht : (pc : Int) + off = (tgt : Int)) (ha : a < 2 ^ 31) (hb : b < 2 ^ 31) (kt : ¬ b < a → gW G X ws kc ks tgt lv st) (kf : b < a → gW G X ws kc ks (pc + 3) lv st) : gW G X ws kc ks pc lv (.int (nI b) :: .int (nI a) :: st) := x_icmp_le C d ht (fun h => kt (fun h9 => h ((nI_ltI hb ha).mpr h9))) (fun h => kf ((nI_ltI hb ha).mp h))
theorem x_if_leN {G : gG} {X : gX} {cc : ByteArray} {nL : Nat} {R : Room} {own : String} (C : gC G X cc nL R own) {ws : va_W} {kc ks pc : Nat} {lv : List (Nat × Value)} {st : List Value} {a : Nat} {off : Int} {tgt : Nat} (d : decode cc pc = .ok (.ifCond .le off, 3)) (ht : (pc : Int) + off = (tgt : Int)) (ha : a < 2 ^ 31) (kt : ¬ 0 < a → gW G X ws kc ks tgt lv st) (kf : 0 < a → gW G X ws kc ks (pc + 3) lv st) : gW G X ws kc ks pc lv (.int (nI a) :: st) := have hb : 0 < 2 ^ 31 := by decide
  x_if_le C d ht (fun h => kt (fun h9 => h ((nI_ltI hb ha).mpr h9))) (fun h => kf ((nI_ltI hb ha).mp h))
theorem x_icmp_eqN {G : gG} {X : gX} {cc : ByteArray} {nL : Nat} {R : Room} {own : String} (C : gC G X cc nL R own) {ws : va_W} {kc ks pc : Nat} {lv : List (Nat × Value)} {st : List Value} {a b : Nat} {off : Int} {tgt : Nat} (d : decode cc pc = .ok (.if_icmp .eq off, 3)) (ht : (pc : Int) + off = (tgt : Int)) (ha : a < 2 ^ 31) (hb : b < 2 ^ 31) (kt : a = b → gW G X ws kc ks tgt lv st) (kf : ¬ a = b → gW G X ws kc ks (pc + 3) lv st) : gW G X ws kc ks pc lv (.int (nI b) :: .int (nI a) :: st) := x_icmp_eq C d ht (fun h => kt ((nI_eq ha hb).mp h)) (fun h => kf (fun h9 => h ((nI_eq ha hb).mpr h9)))
theorem x_if_eqN {G : gG} {X : gX} {cc : ByteArray} {nL : Nat} {R : Room} {own : String} (C : gC G X cc nL R own) {ws : va_W} {kc ks pc : Nat} {lv : List (Nat × Value)} {st : List Value} {a : Nat} {off : Int} {tgt : Nat} (d : decode cc pc = .ok (.ifCond .eq off, 3)) (ht : (pc : Int) + off = (tgt : Int)) (ha : a < 2 ^ 31) (kt : a = 0 → gW G X ws kc ks tgt lv st) (kf : ¬ a = 0 → gW G X ws kc ks (pc + 3) lv st) : gW G X ws kc ks pc lv (.int (nI a) :: st) := have hb : 0 < 2 ^ 31 := by decide
  x_if_eq C d ht (fun h => kt ((nI_eq ha hb).mp h)) (fun h => kf (fun h9 => h ((nI_eq ha hb).mpr h9)))
theorem x_icmp_neN {G : gG} {X : gX} {cc : ByteArray} {nL : Nat} {R : Room} {own : String} (C : gC G X cc nL R own) {ws : va_W} {kc ks pc : Nat} {lv : List (Nat × Value)} {st : List Value} {a b : Nat} {off : Int} {tgt : Nat} (d : decode cc pc = .ok (.if_icmp .ne off, 3)) (ht : (pc : Int) + off = (tgt : Int)) (ha : a < 2 ^ 31) (hb : b < 2 ^ 31) (kt : ¬ a = b → gW G X ws kc ks tgt lv st) (kf : a = b → gW G X ws kc ks (pc + 3) lv st) : gW G X ws kc ks pc lv (.int (nI b) :: .int (nI a) :: st) := x_icmp_ne C d ht (fun h => kt (fun h9 => h ((nI_eq ha hb).mpr h9))) (fun h => kf ((nI_eq ha hb).mp h))
theorem x_if_neN {G : gG} {X : gX} {cc : ByteArray} {nL : Nat} {R : Room} {own : String} (C : gC G X cc nL R own) {ws : va_W} {kc ks pc : Nat} {lv : List (Nat × Value)} {st : List Value} {a : Nat} {off : Int} {tgt : Nat} (d : decode cc pc = .ok (.ifCond .ne off, 3)) (ht : (pc : Int) + off = (tgt : Int)) (ha : a < 2 ^ 31) (kt : ¬ a = 0 → gW G X ws kc ks tgt lv st) (kf : a = 0 → gW G X ws kc ks (pc + 3) lv st) : gW G X ws kc ks pc lv (.int (nI a) :: st) := have hb : 0 < 2 ^ 31 := by decide
  x_if_ne C d ht (fun h => kt (fun h9 => h ((nI_eq ha hb).mpr h9))) (fun h => kf ((nI_eq ha hb).mp h))
/-- a boolean as an int -/
def bI (P : Prop) [Decidable P] : Int32 := if P then 1 else 0
theorem bI_t {P : Prop} [Decidable P] (h : P) : bI P = 1 := if_pos h
theorem bI_f {P : Prop} [Decidable P] (h : ¬ P) : bI P = 0 := if_neg h
theorem bI_iff {P Q : Prop} [Decidable P] [Decidable Q] (h : P ↔ Q) : bI P = bI Q := by unfold bI; simp only [h]
theorem bI_nar {P : Prop} [Decidable P] : narrow .boolean (.int (bI P)) = .int (bI P) := by by_cases h : P <;> simp only [bI, h, if_true, if_false] <;> rfl
theorem bI_0 {P : Prop} [Decidable P] (h : bI P = 0) : ¬ P := fun p => by rw [bI_t p] at h; exact absurd h (by decide)
theorem bI_1 {P : Prop} [Decidable P] (h : ¬ bI P = 0) : P := Decidable.byContradiction fun p => h (bI_f p)
theorem x_if_eqB {G : gG} {X : gX} {cc : ByteArray} {nL : Nat} {R : Room} {own : String} (C : gC G X cc nL R own) {ws : va_W} {kc ks pc : Nat} {lv : List (Nat × Value)} {st : List Value} {P : Prop} [Decidable P] {off : Int} {tgt : Nat} (d : decode cc pc = .ok (.ifCond .eq off, 3)) (ht : (pc : Int) + off = (tgt : Int)) (kt : ¬ P → gW G X ws kc ks tgt lv st) (kf : P → gW G X ws kc ks (pc + 3) lv st) : gW G X ws kc ks pc lv (.int (bI P) :: st) := x_if_eq C d ht (fun h => kt (bI_0 h)) (fun h => kf (bI_1 h))
theorem x_if_neB {G : gG} {X : gX} {cc : ByteArray} {nL : Nat} {R : Room} {own : String} (C : gC G X cc nL R own) {ws : va_W} {kc ks pc : Nat} {lv : List (Nat × Value)} {st : List Value} {P : Prop} [Decidable P] {off : Int} {tgt : Nat} (d : decode cc pc = .ok (.ifCond .ne off, 3)) (ht : (pc : Int) + off = (tgt : Int)) (kt : P → gW G X ws kc ks tgt lv st) (kf : ¬ P → gW G X ws kc ks (pc + 3) lv st) : gW G X ws kc ks pc lv (.int (bI P) :: st) := x_if_ne C d ht (fun h => kt (bI_1 h)) (fun h => kf (bI_0 h))
theorem x_get {G : gG} {X : gX} {cc : ByteArray} {nL : Nat} {R : Room} {own : String} (C : gC G X cc nL R own) {ws : va_W} {kc ks pc : Nat} {lv : List (Nat × Value)} {st : List Value} {a ci N k idx : Nat} {Cn : String} {T : u_T} {fs : List Value} {v : Value} (d : decode cc pc = .ok (.getfield idx, 3)) (hin : ∀ w ∈ u_ws Cn T N, w ∈ wsG) (hlink : Cond.fieldLink own idx (T k).1 (T k).2.1 (T k).2.2.1 ∈ wsG) (q0 : Nat) (he : ws[q0]? = some (a, .inr (ci, fs))) (hc : vwCl[ci]? = some (Cn, T, N)) (hk : k < N) (hv : fs[k]? = some v) (k9 : gW G X ws kc ks (pc + 3) lv (v :: st)) : gW G X ws kc ks pc lv (.ref a :: st) := fun H locs ls hP hD hS hl =>
  va_get C.1 C.2.1 C.2.2.2.2.1 hin C.2.2.2.1 C.2.2.2.2.2.1 hP q0 he hc k hk (C.2.2.2.2.1 _ hlink) (fun _ h9 => h9) hv d (k9 H locs ls hP hD hS hl)
theorem x_put {G : gG} {X : gX} {cc : ByteArray} {nL : Nat} {R : Room} {own : String} (C : gC G X cc nL R own) {ws : va_W} {kc ks pc : Nat} {lv : List (Nat × Value)} {st : List Value} {a ci N k idx : Nat} {Cn : String} {T : u_T} {fs : List Value} {v : Value} {ty : FieldType} {ws' : va_W} (d : decode cc pc = .ok (.putfield idx, 3)) (hin : ∀ w ∈ u_ws Cn T N, w ∈ wsG) (ty0 : Nat → FieldType) (hty : ∀ k, k < N → parseFieldDescriptor (T k).2.2.1 = some (ty0 k)) (hnm : ∀ a, a < N → ∀ b, b < N → a ≠ b → (T a).2.1 ≠ (T b).2.1) (hlink : Cond.fieldLink own idx (T k).1 (T k).2.1 (T k).2.2.1 ∈ wsG) (q0 : Nat) (he : ws[q0]? = some (a, .inr (ci, fs))) (hc : vwCl[ci]? = some (Cn, T, N)) (hk : k < N) (hf : (T k).2.2.2 = false) (ht : ty0 k = ty) (hn : narrow ty v = v) (hfit : fits ty v = true) (hl0 : k < fs.length) (hw : ws.set q0 (a, .inr (ci, fs.set k v)) = ws') (k9 : gW G X ws' kc ks (pc + 3) lv st) : gW G X ws kc ks pc lv (v :: .ref a :: st) := fun H locs ls hP hD hS hl =>
  va_put C.1 C.2.1 C.2.2.2.2.1 hin ty0 hty hnm C.2.2.2.1 C.2.2.2.2.2.1 hP hD hS q0 he hc k hk (C.2.2.2.2.1 _ hlink) (fun _ h9 => h9) hf (ty := ty) (by rw [hty k hk, ht]) hn hfit hl0 d (fun H1 locs1 hP1 hD1 hS1 => k9 H1 locs1 ls (hw ▸ hP1) (hw ▸ hD1) hS1 hl)
theorem x_putF {G : gG} {X : gX} {cc : ByteArray} {nL : Nat} {R : Room} {own : String} (C : gC G X cc nL R own) {ws : va_W} {kc ks pc : Nat} {lv : List (Nat × Value)} {st : List Value} {a ci N k idx : Nat} {Cn : String} {T : u_T} {fs : List Value} {v : Value} {ty : FieldType} {ws' : va_W} (d : decode cc pc = .ok (.putfield idx, 3)) (hin : ∀ w ∈ u_ws Cn T N, w ∈ wsG) (ty0 : Nat → FieldType) (hty : ∀ k, k < N → parseFieldDescriptor (T k).2.2.1 = some (ty0 k)) (hnm : ∀ a, a < N → ∀ b, b < N → a ≠ b → (T a).2.1 ≠ (T b).2.1) (hlink : Cond.fieldLink own idx (T k).1 (T k).2.1 (T k).2.2.1 ∈ wsG) (q0 : Nat) (he : ws[q0]? = some (a, .inr (ci, fs))) (hc : vwCl[ci]? = some (Cn, T, N)) (hk : k < N) (hf : (T k).2.2.2 = true) (hi : (gX.meth X).name = "<init>") (ho : (T k).1 = own) (ht : ty0 k = ty) (hn : narrow ty v = v) (hfit : fits ty v = true) (hl0 : k < fs.length) (hw : ws.set q0 (a, .inr (ci, fs.set k v)) = ws') (k9 : gW G X ws' kc ks (pc + 3) lv st) : gW G X ws kc ks pc lv (v :: .ref a :: st) := fun H locs ls hP hD hS hl =>
  va_putF C.1 C.2.1 C.2.2.2.2.1 hin ty0 hty hnm C.2.2.2.1 C.2.2.2.2.2.1 hP hD hS q0 he hc k hk (C.2.2.2.2.1 _ hlink) (fun _ h9 => h9) hf hi ho (ty := ty) (by rw [hty k hk, ht]) hn hfit hl0 d (fun H1 locs1 hP1 hD1 hS1 => k9 H1 locs1 ls (hw ▸ hP1) (hw ▸ hD1) hS1 hl)
theorem gIdx {i : Int32} {j n : Nat} (hi : i = nI j) (hj : j < n) (hn : n < 2 ^ 31) : vp_in i n ∧ i.toNatClampNeg = j := by subst hi; exact ⟨vp_in_nI hj hn, nI_clamp (Nat.lt_trans hj hn)⟩
theorem x_iald {G : gG} {X : gX} {cc : ByteArray} {nL : Nat} {R : Room} {own : String} (C : gC G X cc nL R own) {ws : va_W} {kc ks pc : Nat} {lv : List (Nat × Value)} {st : List Value} {a n j : Nat} {f : Nat → Int32} {i : Int32} (d : decode cc pc = .ok (.iaload, 1)) (q0 : Nat) (ha : ws[q0]? = some (a, .inl (G.2.1.1, n, .inl f))) (hi : i = nI j) (hj : j < n) (hn : n < 2 ^ 31) (k9 : gW G X ws kc ks (pc + 1) lv (.int (f j) :: st)) : gW G X ws kc ks pc lv (.int i :: .ref a :: st) := fun H locs ls hP hD hS hl =>
  va_iald C.1 C.2.1 C.2.2.2.2.2.1 hP q0 0 ha rfl (gIdx hi hj hn).1 d (by rw [(gIdx hi hj hn).2]; exact k9 H locs ls hP hD hS hl)
theorem x_cald {G : gG} {X : gX} {cc : ByteArray} {nL : Nat} {R : Room} {own : String} (C : gC G X cc nL R own) {ws : va_W} {kc ks pc : Nat} {lv : List (Nat × Value)} {st : List Value} {a n j : Nat} {f : Nat → Int32} {i : Int32} (d : decode cc pc = .ok (.caload, 1)) (q0 : Nat) (ha : ws[q0]? = some (a, .inl (G.2.1.2.1, n, .inl f))) (hi : i = nI j) (hj : j < n) (hn : n < 2 ^ 31) (k9 : gW G X ws kc ks (pc + 1) lv (.int (f j) :: st)) : gW G X ws kc ks pc lv (.int i :: .ref a :: st) := fun H locs ls hP hD hS hl =>
  va_cald C.1 C.2.1 C.2.2.2.2.2.1 hP q0 1 ha rfl (gIdx hi hj hn).1 d (by rw [(gIdx hi hj hn).2]; exact k9 H locs ls hP hD hS hl)
theorem x_iast {G : gG} {X : gX} {cc : ByteArray} {nL : Nat} {R : Room} {own : String} (C : gC G X cc nL R own) {ws : va_W} {kc ks pc : Nat} {lv : List (Nat × Value)} {st : List Value} {a n j : Nat} {f : Nat → Int32} {i x : Int32} {ws' : va_W} (d : decode cc pc = .ok (.iastore, 1)) (q0 : Nat) (ha : ws[q0]? = some (a, .inl (G.2.1.1, n, .inl f))) (hi : i = nI j) (hj : j < n) (hn : n < 2 ^ 31) (hw : ws.set q0 (a, .inl (G.2.1.1, n, .inl (upd f j x))) = ws') (k9 : gW G X ws' kc ks (pc + 1) lv st) : gW G X ws kc ks pc lv (.int x :: .int i :: .ref a :: st) := fun H locs ls hP hD hS hl =>
  va_iast C.1 C.2.1 C.2.2.2.2.2.1 hP hD hS q0 0 ha rfl (gIdx hi hj hn).1 d (by rw [(gIdx hi hj hn).2]; exact fun H1 locs1 hP1 hD1 hS1 => k9 H1 locs1 ls (hw ▸ hP1) (hw ▸ hD1) hS1 hl)
theorem x_cast {G : gG} {X : gX} {cc : ByteArray} {nL : Nat} {R : Room} {own : String} (C : gC G X cc nL R own) {ws : va_W} {kc ks pc : Nat} {lv : List (Nat × Value)} {st : List Value} {a n j : Nat} {f : Nat → Int32} {i x y : Int32} {ws' : va_W} (d : decode cc pc = .ok (.castore, 1)) (q0 : Nat) (ha : ws[q0]? = some (a, .inl (G.2.1.2.1, n, .inl f))) (hi : i = nI j) (hj : j < n) (hn : n < 2 ^ 31) (hx : vp_nar .char x = y) (hw : ws.set q0 (a, .inl (G.2.1.2.1, n, .inl (upd f j y))) = ws') (k9 : gW G X ws' kc ks (pc + 1) lv st) : gW G X ws kc ks pc lv (.int x :: .int i :: .ref a :: st) := fun H locs ls hP hD hS hl =>
  va_cast C.1 C.2.1 C.2.2.2.2.2.1 hP hD hS q0 1 ha rfl (gIdx hi hj hn).1 d (by rw [(gIdx hi hj hn).2, hx]; exact fun H1 locs1 hP1 hD1 hS1 => k9 H1 locs1 ls (hw ▸ hP1) (hw ▸ hD1) hS1 hl)
theorem x_alenI {G : gG} {X : gX} {cc : ByteArray} {nL : Nat} {R : Room} {own : String} (C : gC G X cc nL R own) {ws : va_W} {kc ks pc : Nat} {lv : List (Nat × Value)} {st : List Value} {a n : Nat} {b : (Nat → Int32) ⊕ (Nat → Int64) ⊕ (Nat → UInt32) ⊕ (Nat → UInt64) ⊕ (Nat → Option Nat)} (d : decode cc pc = .ok (.arraylength, 1)) (q0 : Nat) (ha : ws[q0]? = some (a, .inl (G.2.1.1, (n, b)))) (k9 : gW G X ws kc ks (pc + 1) lv (.int (nI n) :: st)) : gW G X ws kc ks pc lv (.ref a :: st) := fun H locs ls hP hD hS hl =>
  va_alen C.1 C.2.1 C.2.2.2.2.2.1 hP q0 0 ha rfl rfl d (k9 H locs ls hP hD hS hl)
theorem x_alenC {G : gG} {X : gX} {cc : ByteArray} {nL : Nat} {R : Room} {own : String} (C : gC G X cc nL R own) {ws : va_W} {kc ks pc : Nat} {lv : List (Nat × Value)} {st : List Value} {a n : Nat} {b : (Nat → Int32) ⊕ (Nat → Int64) ⊕ (Nat → UInt32) ⊕ (Nat → UInt64) ⊕ (Nat → Option Nat)} (d : decode cc pc = .ok (.arraylength, 1)) (q0 : Nat) (ha : ws[q0]? = some (a, .inl (G.2.1.2.1, (n, b)))) (k9 : gW G X ws kc ks (pc + 1) lv (.int (nI n) :: st)) : gW G X ws kc ks pc lv (.ref a :: st) := fun H locs ls hP hD hS hl =>
  va_alen C.1 C.2.1 C.2.2.2.2.2.1 hP q0 1 ha rfl rfl d (k9 H locs ls hP hD hS hl)
theorem x_alenR {G : gG} {X : gX} {cc : ByteArray} {nL : Nat} {R : Room} {own : String} (C : gC G X cc nL R own) {ws : va_W} {kc ks pc : Nat} {lv : List (Nat × Value)} {st : List Value} {a n : Nat} {b : (Nat → Int32) ⊕ (Nat → Int64) ⊕ (Nat → UInt32) ⊕ (Nat → UInt64) ⊕ (Nat → Option Nat)} (d : decode cc pc = .ok (.arraylength, 1)) (q0 : Nat) (ha : ws[q0]? = some (a, .inl (G.2.1.2.2, (n, b)))) (k9 : gW G X ws kc ks (pc + 1) lv (.int (nI n) :: st)) : gW G X ws kc ks pc lv (.ref a :: st) := fun H locs ls hP hD hS hl =>
  va_alen C.1 C.2.1 C.2.2.2.2.2.1 hP q0 2 ha rfl rfl d (k9 H locs ls hP hD hS hl)
theorem x_aald {G : gG} {X : gX} {cc : ByteArray} {nL : Nat} {R : Room} {own : String} (C : gC G X cc nL R own) {ws : va_W} {kc ks pc : Nat} {lv : List (Nat × Value)} {st : List Value} {a n j b : Nat} {f : Nat → Option Nat} {i : Int32} (d : decode cc pc = .ok (.aaload, 1)) (q0 : Nat) (ha : ws[q0]? = some (a, .inl (G.2.1.2.2, n, .inr (.inr (.inr (.inr f)))))) (hi : i = nI j) (hj : j < n) (hn : n < 2 ^ 31) (hf : f j = some b) (k9 : gW G X ws kc ks (pc + 1) lv (.ref b :: st)) : gW G X ws kc ks pc lv (.int i :: .ref a :: st) := fun H locs ls hP hD hS hl =>
  va_aldq (C := "LessonHorses$Stable") C.1 C.2.1 C.2.2.2.2.2.1 hP q0 2 ha rfl (gIdx hi hj hn).1 d (by rw [(gIdx hi hj hn).2, hf]; exact k9 H locs ls hP hD hS hl)
theorem x_aast {G : gG} {X : gX} {cc : ByteArray} {nL : Nat} {R : Room} {own : String} (C : gC G X cc nL R own) {ws : va_W} {kc ks pc : Nat} {lv : List (Nat × Value)} {st : List Value} {a n j v : Nat} {f : Nat → Option Nat} {i : Int32} {vs : List Value} {ws' : va_W} (d : decode cc pc = .ok (.aastore, 1)) (q0 qk : Nat) (ha : ws[q0]? = some (a, .inl (G.2.1.2.2, n, .inr (.inr (.inr (.inr f)))))) (hv : ws[qk]? = some (v, .inr (2, vs))) (hi : i = nI j) (hj : j < n) (hn : n < 2 ^ 31) (hw : ws.set q0 (a, .inl (G.2.1.2.2, n, .inr (.inr (.inr (.inr (va_up f j (some v))))))) = ws') (k9 : gW G X ws' kc ks (pc + 1) lv st) : gW G X ws kc ks pc lv (.ref v :: .int i :: .ref a :: st) := fun H locs ls hP hD hS hl =>
  va_astq (r := (RX2, TX2, 8)) C.1 C.2.1 C.2.2.2.2.2.1 hP hD hS q0 2 qk 2 ha rfl hv rfl (gIdx hi hj hn).1 d (by rw [(gIdx hi hj hn).2]; exact fun H1 locs1 hP1 hD1 hS1 => k9 H1 locs1 ls (hw ▸ hP1) (hw ▸ hD1) hS1 hl)
theorem x_gets0 {G : gG} {X : gX} {cc : ByteArray} {nL : Nat} {R : Room} {own : String} (C : gC G X cc nL R own) {ws : va_W} {kc ks pc : Nat} {lv : List (Nat × Value)} {st : List Value} {idx : Nat} (d : decode cc pc = .ok (.getstatic idx, 3)) (hlink : Cond.fieldLink own idx "LessonHorses" "ROOM_OF_RING" "[I" ∈ wsG) (k9 : gW G X ws kc ks (pc + 3) lv (.ref (G.2.2 0) :: st)) : gW G X ws kc ks pc lv st := fun H locs ls hP hD hS hl =>
  va_gets C.1 C.2.1 C.2.2.2.2.2.2.1.1.1 hS C.2.2.2.1 (C.2.2.2.2.1 _ hlink) (fun _ h9 => h9) d (k9 H locs ls hP hD hS hl)
theorem x_gets1 {G : gG} {X : gX} {cc : ByteArray} {nL : Nat} {R : Room} {own : String} (C : gC G X cc nL R own) {ws : va_W} {kc ks pc : Nat} {lv : List (Nat × Value)} {st : List Value} {idx : Nat} (d : decode cc pc = .ok (.getstatic idx, 3)) (hlink : Cond.fieldLink own idx "LessonHorses" "LEAST_OF_SETTING" "[I" ∈ wsG) (k9 : gW G X ws kc ks (pc + 3) lv (.ref (G.2.2 1) :: st)) : gW G X ws kc ks pc lv st := fun H locs ls hP hD hS hl =>
  va_gets C.1 C.2.1 C.2.2.2.2.2.2.1.2.1.1 hS C.2.2.2.1 (C.2.2.2.2.1 _ hlink) (fun _ h9 => h9) d (k9 H locs ls hP hD hS hl)
theorem x_gets2 {G : gG} {X : gX} {cc : ByteArray} {nL : Nat} {R : Room} {own : String} (C : gC G X cc nL R own) {ws : va_W} {kc ks pc : Nat} {lv : List (Nat × Value)} {st : List Value} {idx : Nat} (d : decode cc pc = .ok (.getstatic idx, 3)) (hlink : Cond.fieldLink own idx "LessonHorses" "MOST_OF_SETTING" "[I" ∈ wsG) (k9 : gW G X ws kc ks (pc + 3) lv (.ref (G.2.2 2) :: st)) : gW G X ws kc ks pc lv st := fun H locs ls hP hD hS hl =>
  va_gets C.1 C.2.1 C.2.2.2.2.2.2.1.2.2.1.1 hS C.2.2.2.1 (C.2.2.2.2.1 _ hlink) (fun _ h9 => h9) d (k9 H locs ls hP hD hS hl)
theorem x_gets3 {G : gG} {X : gX} {cc : ByteArray} {nL : Nat} {R : Room} {own : String} (C : gC G X cc nL R own) {ws : va_W} {kc ks pc : Nat} {lv : List (Nat × Value)} {st : List Value} {idx : Nat} (d : decode cc pc = .ok (.getstatic idx, 3)) (hlink : Cond.fieldLink own idx "LessonHorses" "FIRST_OF_SETTING" "[I" ∈ wsG) (k9 : gW G X ws kc ks (pc + 3) lv (.ref (G.2.2 3) :: st)) : gW G X ws kc ks pc lv st := fun H locs ls hP hD hS hl =>
  va_gets C.1 C.2.1 C.2.2.2.2.2.2.1.2.2.2.1.1 hS C.2.2.2.1 (C.2.2.2.2.1 _ hlink) (fun _ h9 => h9) d (k9 H locs ls hP hD hS hl)
theorem x_gets4 {G : gG} {X : gX} {cc : ByteArray} {nL : Nat} {R : Room} {own : String} (C : gC G X cc nL R own) {ws : va_W} {kc ks pc : Nat} {lv : List (Nat × Value)} {st : List Value} {idx : Nat} (d : decode cc pc = .ok (.getstatic idx, 3)) (hlink : Cond.fieldLink own idx "LessonHorses$Plan" "MOST_AT" "[I" ∈ wsG) (k9 : gW G X ws kc ks (pc + 3) lv (.ref (G.2.2 4) :: st)) : gW G X ws kc ks pc lv st := fun H locs ls hP hD hS hl =>
  va_gets C.1 C.2.1 C.2.2.2.2.2.2.1.2.2.2.2.1.1 hS C.2.2.2.1 (C.2.2.2.2.1 _ hlink) (fun _ h9 => h9) d (k9 H locs ls hP hD hS hl)
theorem x_getsN3 {G : gG} {X : gX} {cc : ByteArray} {nL : Nat} {R : Room} {own : String} (C : gC G X cc nL R own) {ws : va_W} {kc ks pc : Nat} {lv : List (Nat × Value)} {st : List Value} (d : decode cc pc = .ok (.getstatic 32, 3)) (ho : own = "LessonHorses$Stable") (k9 : gW G X ws kc ks (pc + 3) lv (.ref (G.2.2 3) :: st)) : gW G X ws kc ks pc lv st := fun H locs ls hP hD hS hl =>
  va_getsN (own := own) (host := "LessonHorses") C.1 C.2.1 C.2.2.2.2.2.2.1.2.2.2.1.1 hS C.2.2.2.1 (by subst ho; exact va_Nw.use rfl C.2.2.2.2.2.2.1.2.2.2.2.2.2.2.2.2.1) (fun _ h9 => h9) d (k9 H locs ls hP hD hS hl)
theorem x_getsN0 {G : gG} {X : gX} {cc : ByteArray} {nL : Nat} {R : Room} {own : String} (C : gC G X cc nL R own) {ws : va_W} {kc ks pc : Nat} {lv : List (Nat × Value)} {st : List Value} (d : decode cc pc = .ok (.getstatic 90, 3)) (ho : own = "LessonHorses$Stable") (k9 : gW G X ws kc ks (pc + 3) lv (.ref (G.2.2 0) :: st)) : gW G X ws kc ks pc lv st := fun H locs ls hP hD hS hl =>
  va_getsN (own := own) (host := "LessonHorses") C.1 C.2.1 C.2.2.2.2.2.2.1.1.1 hS C.2.2.2.1 (by subst ho; exact va_Nw.use rfl C.2.2.2.2.2.2.1.2.2.2.2.2.2.2.2.2.2.1) (fun _ h9 => h9) d (k9 H locs ls hP hD hS hl)
theorem x_ti0 {G : gG} {X : gX} {cc : ByteArray} {nL : Nat} {R : Room} {own : String} (C : gC G X cc nL R own) {ws : va_W} {kc ks pc : Nat} {lv : List (Nat × Value)} {st : List Value} {j : Nat} {i : Int32} (d : decode cc pc = .ok (.iaload, 1)) (hi : i = nI j) (hj : j < 3) (k9 : gW G X ws kc ks (pc + 1) lv (.int (sT 0 j) :: st)) : gW G X ws kc ks pc lv (.int i :: .ref (G.2.2 0) :: st) := fun H locs ls hP hD hS hl =>
  va_ti C.1 C.2.1 C.2.2.2.2.2.2.1.1.2 hS (gIdx hi hj (by decide)).1 (by rw [(gIdx hi hj (by decide)).2]) d (k9 H locs ls hP hD hS hl)
theorem x_tlen0 {G : gG} {X : gX} {cc : ByteArray} {nL : Nat} {R : Room} {own : String} (C : gC G X cc nL R own) {ws : va_W} {kc ks pc : Nat} {lv : List (Nat × Value)} {st : List Value} (d : decode cc pc = .ok (.arraylength, 1)) (k9 : gW G X ws kc ks (pc + 1) lv (.int (nI 3) :: st)) : gW G X ws kc ks pc lv (.ref (G.2.2 0) :: st) := fun H locs ls hP hD hS hl =>
  va_tlen C.1 C.2.1 C.2.2.2.2.2.2.1.1.2 hS rfl d (k9 H locs ls hP hD hS hl)
theorem x_ti1 {G : gG} {X : gX} {cc : ByteArray} {nL : Nat} {R : Room} {own : String} (C : gC G X cc nL R own) {ws : va_W} {kc ks pc : Nat} {lv : List (Nat × Value)} {st : List Value} {j : Nat} {i : Int32} (d : decode cc pc = .ok (.iaload, 1)) (hi : i = nI j) (hj : j < 5) (k9 : gW G X ws kc ks (pc + 1) lv (.int (sT 1 j) :: st)) : gW G X ws kc ks pc lv (.int i :: .ref (G.2.2 1) :: st) := fun H locs ls hP hD hS hl =>
  va_ti C.1 C.2.1 C.2.2.2.2.2.2.1.2.1.2 hS (gIdx hi hj (by decide)).1 (by rw [(gIdx hi hj (by decide)).2]) d (k9 H locs ls hP hD hS hl)
theorem x_tlen1 {G : gG} {X : gX} {cc : ByteArray} {nL : Nat} {R : Room} {own : String} (C : gC G X cc nL R own) {ws : va_W} {kc ks pc : Nat} {lv : List (Nat × Value)} {st : List Value} (d : decode cc pc = .ok (.arraylength, 1)) (k9 : gW G X ws kc ks (pc + 1) lv (.int (nI 5) :: st)) : gW G X ws kc ks pc lv (.ref (G.2.2 1) :: st) := fun H locs ls hP hD hS hl =>
  va_tlen C.1 C.2.1 C.2.2.2.2.2.2.1.2.1.2 hS rfl d (k9 H locs ls hP hD hS hl)
theorem x_ti2 {G : gG} {X : gX} {cc : ByteArray} {nL : Nat} {R : Room} {own : String} (C : gC G X cc nL R own) {ws : va_W} {kc ks pc : Nat} {lv : List (Nat × Value)} {st : List Value} {j : Nat} {i : Int32} (d : decode cc pc = .ok (.iaload, 1)) (hi : i = nI j) (hj : j < 5) (k9 : gW G X ws kc ks (pc + 1) lv (.int (sT 2 j) :: st)) : gW G X ws kc ks pc lv (.int i :: .ref (G.2.2 2) :: st) := fun H locs ls hP hD hS hl =>
  va_ti C.1 C.2.1 C.2.2.2.2.2.2.1.2.2.1.2 hS (gIdx hi hj (by decide)).1 (by rw [(gIdx hi hj (by decide)).2]) d (k9 H locs ls hP hD hS hl)
theorem x_tlen2 {G : gG} {X : gX} {cc : ByteArray} {nL : Nat} {R : Room} {own : String} (C : gC G X cc nL R own) {ws : va_W} {kc ks pc : Nat} {lv : List (Nat × Value)} {st : List Value} (d : decode cc pc = .ok (.arraylength, 1)) (k9 : gW G X ws kc ks (pc + 1) lv (.int (nI 5) :: st)) : gW G X ws kc ks pc lv (.ref (G.2.2 2) :: st) := fun H locs ls hP hD hS hl =>
  va_tlen C.1 C.2.1 C.2.2.2.2.2.2.1.2.2.1.2 hS rfl d (k9 H locs ls hP hD hS hl)
theorem x_ti3 {G : gG} {X : gX} {cc : ByteArray} {nL : Nat} {R : Room} {own : String} (C : gC G X cc nL R own) {ws : va_W} {kc ks pc : Nat} {lv : List (Nat × Value)} {st : List Value} {j : Nat} {i : Int32} (d : decode cc pc = .ok (.iaload, 1)) (hi : i = nI j) (hj : j < 5) (k9 : gW G X ws kc ks (pc + 1) lv (.int (sT 3 j) :: st)) : gW G X ws kc ks pc lv (.int i :: .ref (G.2.2 3) :: st) := fun H locs ls hP hD hS hl =>
  va_ti C.1 C.2.1 C.2.2.2.2.2.2.1.2.2.2.1.2 hS (gIdx hi hj (by decide)).1 (by rw [(gIdx hi hj (by decide)).2]) d (k9 H locs ls hP hD hS hl)
theorem x_tlen3 {G : gG} {X : gX} {cc : ByteArray} {nL : Nat} {R : Room} {own : String} (C : gC G X cc nL R own) {ws : va_W} {kc ks pc : Nat} {lv : List (Nat × Value)} {st : List Value} (d : decode cc pc = .ok (.arraylength, 1)) (k9 : gW G X ws kc ks (pc + 1) lv (.int (nI 5) :: st)) : gW G X ws kc ks pc lv (.ref (G.2.2 3) :: st) := fun H locs ls hP hD hS hl =>
  va_tlen C.1 C.2.1 C.2.2.2.2.2.2.1.2.2.2.1.2 hS rfl d (k9 H locs ls hP hD hS hl)
theorem x_ti4 {G : gG} {X : gX} {cc : ByteArray} {nL : Nat} {R : Room} {own : String} (C : gC G X cc nL R own) {ws : va_W} {kc ks pc : Nat} {lv : List (Nat × Value)} {st : List Value} {j : Nat} {i : Int32} (d : decode cc pc = .ok (.iaload, 1)) (hi : i = nI j) (hj : j < 4) (k9 : gW G X ws kc ks (pc + 1) lv (.int (sT 4 j) :: st)) : gW G X ws kc ks pc lv (.int i :: .ref (G.2.2 4) :: st) := fun H locs ls hP hD hS hl =>
  va_ti C.1 C.2.1 C.2.2.2.2.2.2.1.2.2.2.2.1.2 hS (gIdx hi hj (by decide)).1 (by rw [(gIdx hi hj (by decide)).2]) d (k9 H locs ls hP hD hS hl)
theorem x_tlen4 {G : gG} {X : gX} {cc : ByteArray} {nL : Nat} {R : Room} {own : String} (C : gC G X cc nL R own) {ws : va_W} {kc ks pc : Nat} {lv : List (Nat × Value)} {st : List Value} (d : decode cc pc = .ok (.arraylength, 1)) (k9 : gW G X ws kc ks (pc + 1) lv (.int (nI 4) :: st)) : gW G X ws kc ks pc lv (.ref (G.2.2 4) :: st) := fun H locs ls hP hD hS hl =>
  va_tlen C.1 C.2.1 C.2.2.2.2.2.2.1.2.2.2.2.1.2 hS rfl d (k9 H locs ls hP hD hS hl)
theorem x_lv {G : gG} {X : gX} {ws : va_W} {kc ks pc : Nat} {lv : List (Nat × Value)} {st : List Value} (is : List Nat) {lv' : List (Nat × Value)} (hv : lv_pick lv is = lv') (k : gW G X ws kc ks pc lv' st) : gW G X ws kc ks pc lv st := fun H locs ls hP hD hS hl => k H locs ls hP hD hS (lv_sub hl is hv)
theorem x_more {G : gG} {X : gX} {ws : va_W} {kc ks pc : Nat} {lv : List (Nat × Value)} {st : List Value} {kc' ks' : Nat} (h1 : kc ≤ kc') (h2 : ks ≤ ks') (k : gW G X ws kc' ks' pc lv st) : gW G X ws kc ks pc lv st := fun H locs ls hP hD hS hl => W.widen h1 h2 (k H locs ls hP hD hS hl)
theorem gQ_ret {G : gG} {X : gX} {blk : va_W} {ov : Option Value} {blk' : (Nat → Nat) → va_W} {rm : Room} (E : gE G X blk ov blk' rm) (u : Nat → Nat) {H : Heap} {locs : List Loc} (hP : va_P G.1 vwCl (blk' u) H) (hD : va_D (gX.A X) (blk' u)) (hS : va_S (gX.A X) (gX.s X).heap H locs) : ∀ t : State, t.heap = H → (gX.s X).WarmedH t.vm → gQ G blk (gX.s X).heap.size ov blk' (gX.args X) (gX.s X) (.returned ov) t := fun t ht _ => ⟨⟨u, rfl, by rw [ht]; exact hP, by rw [← E.1]; exact hD⟩, by rw [← E.1]; exact hS.F ht⟩
theorem x_iret {G : gG} {X : gX} {cc : ByteArray} {nL : Nat} {R : Room} {own : String} (C : gC G X cc nL R own) {ws : va_W} {pc : Nat} {lv : List (Nat × Value)} {blk : va_W} {blk' : (Nat → Nat) → va_W} {rm : Room} {r v : Int32} (hr : (gX.meth X).sig.returnType = some .int) (E : gE G X blk (some (.int r)) blk' rm) (d : decode cc pc = .ok (.ireturn, 1)) (u : Nat → Nat) (h1 : v = r) (h2 : ws = blk' u) : gW G X ws rm.cells rm.slots pc lv [.int v] := fun H locs ls hP hD hS hl => by
  subst h1; subst h2
  rw [E.2]
  exact W.iret C.1 C.2.1 hr (gQ_ret E u hP hD hS) (by rw [← E.1]; exact hS.2.2) d C.2.2.2.2.2.2.2.2.1
theorem x_zret {G : gG} {X : gX} {cc : ByteArray} {nL : Nat} {R : Room} {own : String} (C : gC G X cc nL R own) {ws : va_W} {pc : Nat} {lv : List (Nat × Value)} {blk : va_W} {blk' : (Nat → Nat) → va_W} {rm : Room} {r v : Int32} (hr : (gX.meth X).sig.returnType = some .boolean) (hn : narrow .boolean (.int r) = .int r) (E : gE G X blk (some (.int r)) blk' rm) (d : decode cc pc = .ok (.ireturn, 1)) (u : Nat → Nat) (h1 : v = r) (h2 : ws = blk' u) : gW G X ws rm.cells rm.slots pc lv [.int v] := fun H locs ls hP hD hS hl => by
  subst h1; subst h2
  rw [E.2]
  exact W.zret C.1 C.2.1 hr hn (gQ_ret E u hP hD hS) (by rw [← E.1]; exact hS.2.2) d C.2.2.2.2.2.2.2.2.1
theorem x_cret {G : gG} {X : gX} {cc : ByteArray} {nL : Nat} {R : Room} {own : String} (C : gC G X cc nL R own) {ws : va_W} {pc : Nat} {lv : List (Nat × Value)} {blk : va_W} {blk' : (Nat → Nat) → va_W} {rm : Room} {r v : Int32} (hr : (gX.meth X).sig.returnType = some .char) (hn : narrow .char (.int r) = .int r) (E : gE G X blk (some (.int r)) blk' rm) (d : decode cc pc = .ok (.ireturn, 1)) (u : Nat → Nat) (h1 : v = r) (h2 : ws = blk' u) : gW G X ws rm.cells rm.slots pc lv [.int v] := fun H locs ls hP hD hS hl => by
  subst h1; subst h2
  rw [E.2]
  exact W.zret C.1 C.2.1 hr hn (gQ_ret E u hP hD hS) (by rw [← E.1]; exact hS.2.2) d C.2.2.2.2.2.2.2.2.1
theorem x_vret {G : gG} {X : gX} {cc : ByteArray} {nL : Nat} {R : Room} {own : String} (C : gC G X cc nL R own) {ws : va_W} {pc : Nat} {lv : List (Nat × Value)} {blk : va_W} {blk' : (Nat → Nat) → va_W} {rm : Room} (hr : (gX.meth X).sig.returnType = none) (E : gE G X blk none blk' rm) (d : decode cc pc = .ok (.return_, 1)) (u : Nat → Nat) (h2 : ws = blk' u) : gW G X ws rm.cells rm.slots pc lv [] := fun H locs ls hP hD hS hl => by
  subst h2
  rw [E.2]
  exact W.vret C.1 C.2.1 hr (gQ_ret E u hP hD hS) (by rw [← E.1]; exact hS.2.2) d C.2.2.2.2.2.2.2.2.1
theorem x_aret {G : gG} {X : gX} {cc : ByteArray} {nL : Nat} {R : Room} {own : String} (C : gC G X cc nL R own) {ws : va_W} {pc : Nat} {lv : List (Nat × Value)} {blk : va_W} {blk' : (Nat → Nat) → va_W} {rm : Room} {a : Nat} {Cn : String} (hr : (gX.meth X).sig.returnType = some (.object Cn)) (E : gE G X blk (some (.ref a)) blk' rm) (d : decode cc pc = .ok (.areturn, 1)) (u : Nat → Nat) (h2 : ws = blk' u) : gW G X ws rm.cells rm.slots pc lv [.ref a] := fun H locs ls hP hD hS hl => by
  subst h2
  rw [E.2]
  exact W.aret C.1 C.2.1 hr (Or.inl ⟨_, rfl⟩) (Or.inr ⟨a, rfl⟩) (gQ_ret E u hP hD hS) (by rw [← E.1]; exact hS.2.2) d C.2.2.2.2.2.2.2.2.1
theorem x_objI {G : gG} {X : gX} {cc : ByteArray} {nL : Nat} {R : Room} {own : String} (C : gC G X cc nL R own) {ws : va_W} {kc ks pc : Nat} {lv : List (Nat × Value)} {st : List Value} {a idx : Nat} (d : decode cc pc = .ok (.invokespecial idx, 3)) (ml : Cond.methodLink own idx Lib.objectInit ∈ wsG) (hro : (st.map fun v => v.category).sum ≤ 8) (hR : 1 ≤ R.frames ∧ 20 ≤ R.locals) (k9 : gW G X ws kc ks (pc + 3) lv st) : gW G X ws kc ks pc lv (.ref a :: st) := fun H locs ls hP hD hS hl =>
  W.objInit C.1 C.2.1 C.2.2.2.1 (C.2.2.2.2.1 _ ml) (C.2.2.2.2.1 _ im_Obj_init) (C.2.2.2.2.1 _ cd_Obj_init) rfl (by exact hl.1) rfl d (by rw [C.2.2.2.2.2.2.2.2.2]; exact hR.1) (by rw [C.2.2.2.2.2.2.2.2.2]; show 2 * 0 + _ + 12 ≤ _; omega) (k9 H locs ls hP hD hS hl)
theorem g_cases (x : Int32) (n : Nat) (hn : n < 2 ^ 31) : (x.toInt < 0 ∨ (n : Int) ≤ x.toInt) ∨ ∃ j : Nat, j < n ∧ x = nI j := by
  by_cases h : vp_in x n
  · exact Or.inr (vp_in_of h hn)
  · refine Or.inl ?_
    rw [vp_in_iff] at h
    omega
theorem x_tabO {G : gG} {X : gX} {cc : ByteArray} {nL : Nat} {R : Room} {own : String} (C : gC G X cc nL R own) {ws : va_W} {kc ks pc : Nat} {lv : List (Nat × Value)} {st : List Value} {hi df : Int} {offs : Array Int} {len tgt n : Nat} {x : Int32} (d : decode cc pc = .ok (.tableswitch df 0 hi offs, len)) (h : x.toInt < 0 ∨ (n : Int) ≤ x.toInt) (ht : hi + 1 = n ∧ (pc : Int) + df = (tgt : Int)) (k9 : gW G X ws kc ks tgt lv st) : gW G X ws kc ks pc lv (.int x :: st) := fun H locs ls hP hD hS hl => lv_tableOut C.1 C.2.1 d (by omega) ht.2 (k9 H locs ls hP hD hS hl)
theorem x_tabI {G : gG} {X : gX} {cc : ByteArray} {nL : Nat} {R : Room} {own : String} (C : gC G X cc nL R own) {ws : va_W} {kc ks pc : Nat} {lv : List (Nat × Value)} {st : List Value} {hi df off : Int} {offs : Array Int} {len tgt : Nat} (k : Nat) {x : Int32} (d : decode cc pc = .ok (.tableswitch df 0 hi offs, len)) (h : x = nI k) (hk : k < 2 ^ 31) (hh : (k : Int) ≤ hi) (ho : offs[k]? = some off) (ht : (pc : Int) + off = (tgt : Int)) (k9 : gW G X ws kc ks tgt lv st) : gW G X ws kc ks pc lv (.int x :: st) := fun H locs ls hP hD hS hl => by
  subst h
  have e := nI_toInt hk
  exact lv_tableIn C.1 C.2.1 d (by omega) (by omega) (by rw [e]; exact ho) ht (k9 H locs ls hP hD hS hl)
theorem arrV_congr {cI : ClassId} {N : Nat} {f g : Nat → Value} (h : ∀ j, j < N → f j = g j) : arrV cI N f = arrV cI N g := by
  unfold arrV
  have e : (fun j : Fin N => f j.val) = fun j : Fin N => g j.val := funext fun j => h j.val j.isLt
  rw [e]
theorem x_copy {G : gG} {X : gX} {cc : ByteArray} {nL : Nat} {R : Room} {own : String} (C : gC G X cc nL R own) {ws : va_W} {kc ks pc : Nat} {lv : List (Nat × Value)} {st : List Value} {a0 a1 n idx : Nat} {f g : Nat → Int32} {ws' : va_W} (d : decode cc pc = .ok (.invokestatic idx, 3)) (ml : Cond.methodLink own idx arraycopyName ∈ wsG) (hnat : Cond.native arraycopyName ∈ wsG) (hst : Cond.static arraycopyName ∈ wsG) (hini : Cond.initialized "java/lang/System" ∈ wsG) (q0 q1 : Nat) (ha0 : ws[q0]? = some (a0, .inl (G.2.1.1, n, .inl f))) (ha1 : ws[q1]? = some (a1, .inl (G.2.1.1, n, .inl g))) (hn : n < 2 ^ 31) (hro : (st.map fun v => v.category).sum + (nativeFrameWords "java/lang/System" "arraycopy" 5 + 11) ≤ R.locals) (hR : 1 ≤ R.frames) (hw : ws.set q1 (a1, .inl (G.2.1.1, n, .inl f)) = ws') (k9 : gW G X ws' kc ks (pc + 3) lv st) : gW G X ws kc ks pc lv (.int (nI n) :: .int (nI 0) :: .ref a1 :: .int (nI 0) :: .ref a0 :: st) := fun H locs ls hP hD hS hl => by
  have e0 : (nI 0).toNatClampNeg = 0 := rfl
  have en := nI_clamp hn
  refine va_copyi (ty := .int) C.1 C.2.1 (by rw [hl.1]) C.2.2.2.1 (C.2.2.2.2.1 _ ml) (C.2.2.2.2.1 _ hnat) (C.2.2.2.2.1 _ hst) (C.2.2.2.2.1 _ hini) C.2.2.2.2.2.1 hP hD hS q0 q1 0 0 ha0 ha1 rfl rfl rfl (by decide) (by decide) (nI_pos hn) (by rw [e0, en]; omega) (by rw [e0, en]; omega) (fun _ _ => rfl) (by rw [C.2.2.2.2.2.2.2.2.2]; exact hR) (by rw [C.2.2.2.2.2.2.2.2.2]; exact hro) d (fun H1 locs1 hP1 hD1 hS1 => ?_)
  rw [e0, en] at hP1 hD1
  have hc : vp_cell G.2.1.1 (n, .inl (va_cpy f g 0 0 n)) = vp_cell G.2.1.1 (n, .inl f) := by
    rw [vp_cell_i, vp_cell_i]
    exact arrV_congr fun j hj => by rw [pk_cpy_in (Nat.zero_le j) (by omega)]; simp only [Nat.zero_add, Nat.sub_zero]
  refine k9 H1 locs1 ls (hw ▸ gP_of fun q hq => ?_) (hw ▸ (hD.set ha1)) hS1 hl
  obtain ⟨k, hk⟩ := List.getElem?_of_mem hq
  by_cases hkq : k = q1
  · subst hkq
    have hlt : k < ws.length := (List.getElem?_eq_some_iff.mp ha1).1
    rw [List.getElem?_set_self hlt] at hk
    cases hk
    have := hP1 k _ (List.getElem?_set_self hlt)
    show H1[a1]? = _
    rw [← hc]
    exact this
  · rw [List.getElem?_set_ne (Ne.symm hkq)] at hk
    exact hP1 k q (by rw [List.getElem?_set_ne (Ne.symm hkq)]; exact hk)
theorem gP_perm {D : va_G} {cl : List vw_C} {ws ws' : va_W} {H : Heap} (h : va_P D cl ws H) (p : ws.Perm ws') : va_P D cl ws' H := gP_of fun _ hq => gP_mem h (p.mem_iff.mpr hq)
theorem gD_perm {A : Nat → Prop} {ws ws' : va_W} (h : va_D A ws) (p : ws.Perm ws') : va_D A ws' := by
  have h := gD_iff.mp h
  exact gD_iff.mpr ⟨(p.map Prod.fst).nodup_iff.mp h.1, fun q hq => h.2 q (p.mem_iff.mpr hq)⟩
theorem x_perm {G : gG} {X : gX} {ws : va_W} {kc ks pc : Nat} {lv : List (Nat × Value)} {st : List Value} {ws' : va_W} (p : ws.Perm ws') (k : gW G X ws' kc ks pc lv st) : gW G X ws kc ks pc lv st := fun H locs ls hP hD hS hl => k H locs ls (gP_perm hP p) (gD_perm hD p) hS hl
theorem g_after {G : gG} {X : gX} {cc : ByteArray} {nL : Nat} {R : Room} {own : String} (C : gC G X cc nL R own) {pre blk post : va_W} {ov : Option Value} {blk' : (Nat → Nat) → va_W} {kc ks mc ms pc : Nat} {lv : List (Nat × Value)} {st0 rest : List Value} {H : Heap} {locs : List Loc} {ls : Array Slot} {av : Array Value}
    (run : va_Run (gX.p X) (gX.l X) (gX.e X) (gX.R X) (gX.s X) (gX.m X) (gX.args X) (gX.below X) (gX.meth X) (gX.c X) H locs kc ks mc ms (F0 (gX.m X) pc ls st0) rest (gQ G blk H.size ov blk' av) (va_A blk H.size))
    (hP : va_P G.1 vwCl (pre ++ (blk ++ post)) H) (hD : va_D (gX.A X) (pre ++ (blk ++ post))) (hS : va_S (gX.A X) (gX.s X).heap H locs) (hl : lv_has ls (gX.c X).maxLocals lv)
    (k : ∀ u, gW G X (pre ++ (blk' u ++ post)) (kc + mc) (ks + ms) (pc + 3) lv (ov.toList ++ rest)) : W (gX.p X) (gX.l X) (gX.e X) (gX.R X) (gX.s X) (gX.m X) (gX.args X) (gX.below X) (gX.meth X) (gX.c X) H locs kc ks (gX.Z X) (F0 (gX.m X) pc ls st0) := by
  have hA : ∀ q, H.size ≤ q → gX.A X q := fun q h => C.2.2.2.2.2.2.2.1 q (Nat.le_trans hS.1 h)
  have hF := gA_blk hD hA
  intro T hT Y
  obtain ⟨v, st₀, t, T', L, h0, Y', hL, e1, e2, ⟨⟨u, hv, hP1, hD1⟩, hz, hk⟩, go⟩ := run T hT Y
  cases hv
  rw [h0] at hz hk
  rw [← e1] at hz hk hP1
  obtain ⟨hP2, hD2⟩ := g_mid hP hD hA hk hP1 hD1
  obtain ⟨t2, a1, b1⟩ := k u T'.heap (locs ++ L) ls hP2 hD2 ⟨Nat.le_trans hS.1 hz, fun q h1 h2 => by rw [hk q (Nat.lt_of_lt_of_le h1 hS.1) (fun z => h2 (hF q z))]; exact hS.2.1 q h1 h2, fun q hq => by
      rcases List.mem_append.mp hq with h | h
      · exact hS.2.2 q h
      · exact hF _ (hL q h)⟩ hl T' rfl Y'
  exact ⟨t2, go t2 a1, b1⟩
theorem g_pre {G : gG} {X : gX} {cc : ByteArray} {nL : Nat} {R : Room} {own : String} (C : gC G X cc nL R own) {pre blk post : va_W} {H : Heap} {locs : List Loc} {av : List Value} (hP : va_P G.1 vwCl (pre ++ (blk ++ post)) H) (hD : va_D (gX.A X) (pre ++ (blk ++ post))) (hS : va_S (gX.A X) (gX.s X).heap H locs) : ∀ U : State, U.heap = H → (gX.s X).WarmedH U.vm → va_Pc av (gPre G blk H.size) av.toArray U := fun U hU hW => by
  have hA : ∀ q, H.size ≤ q → gX.A X q := fun q h => C.2.2.2.2.2.2.2.1 q (Nat.le_trans hS.1 h)
  exact ⟨rfl, by rw [hU], by rw [hU]; exact gP_blk hP, va_K.moved hW.alike C.2.2.2.2.2.1, (gD_blk hD).weaken (fun _ _ _ _ => trivial), by rw [hU]; exact gSF.warm hW ((gSF.kept C.2.2.2.2.2.2.1 hS.2.1).narrow (gA_blk hD hA))⟩
theorem g_good {y : MethodName} {cc : ByteArray} {maxL : Nat} {ret : Option FieldType} (cd : Cond.code y cc maxL ret ∈ wsG) : GoodIn wsG (Cond.code y cc maxL ret :: wsG) := fun w h => (List.mem_cons.mp h).elim (fun e => e ▸ ⟨cd, wsG_good _ cd⟩) (fun h => ⟨h, wsG_good _ h⟩)
theorem x_callV {G : gG} {X : gX} {cc : ByteArray} {nL : Nat} {R : Room} {own : String} (C : gC G X cc nL R own) {ws : va_W} {kc ks pc : Nat} {lv : List (Nat × Value)} {st : List Value} {y : MethodName} {Cn : String} {bytes : ByteArray} {maxL n idx : Nat} {ret : Option FieldType} {rm : Room} {As rest : List Value} {blk : va_W} {ov : Option Value} {blk' : (Nat → Nat) → va_W} {a : Nat} (d : decode cc pc = .ok (.invokevirtual idx, 3)) (ct : CT (gX.l X) y bytes maxL ret rm G (.ref a :: As) blk ov blk') (ml : Cond.methodLink own idx y ∈ wsG) (im : Cond.instanceMethod y ∈ wsG) (sl : Cond.selects Cn y y ∈ wsG) (ini : Cond.initialized Cn ∈ wsG) (cd : Cond.code y bytes maxL ret ∈ wsG) (hd : y.cls = Cn ∧ y.cls ≠ "java/lang/invoke/MethodHandle" ∧ y.cls ≠ "java/lang/invoke/VarHandle" ∧ (parseMethodDescriptor y.desc).map (fun d => d.parameters.length) = some n) {ci : Nat} {fs : List Value} {T : u_T} {N : Nat} (q0 : Nat) (he : blk[q0]? = some (a, .inr (ci, fs))) (hc : vwCl[ci]? = some (Cn, T, N)) (hst : st = As.reverse ++ .ref a :: rest) (hn : As.length = n) (hro : (rest.map fun v => v.category).sum ≤ 8) (hR : rm.frames + 1 ≤ R.frames ∧ 8 + (maxL + 11) + rm.locals ≤ R.locals) (pre post : va_W) (hws : ws = pre ++ (blk ++ post)) (hf : kc + rm.cells ≤ R.cells ∧ ks + rm.slots ≤ R.slots) (k : ∀ u, gW G X (pre ++ (blk' u ++ post)) (kc + rm.cells) (ks + rm.slots) (pc + 3) lv (ov.toList ++ rest)) : gW G X ws kc ks pc lv st := fun H locs ls hP hD hS hl => by
  subst hws; subst hst
  refine g_after C (va_runV (own := own) (C := Cn) (Ts := wsG) ⟨C.1, C.2.1, C.2.2.1, C.2.2.2.1, C.2.2.2.2.1⟩ (ct H.size) (cwV n C.2.2.2.2.1 (fun w hw => ?_) rfl rfl rfl hd (by rw [C.2.2.2.2.2.2.2.2.2]; exact hR)) ⟨gPre_blind _ _ _ _, va_recv C.2.2.2.2.2.1 (gP_blk hP) hc he, g_pre C hP hD hS⟩ rfl hn (by rw [← C.2.2.1]; exact hl.1) rfl (by show 2 * 0 + _ ≤ 8; omega) d (by rw [C.2.2.2.2.2.2.2.2.2]; exact hf)) hP hD hS hl k
  rcases List.mem_append.mp hw with h | h
  · simp only [List.mem_cons, List.not_mem_nil, or_false] at h
    rcases h with rfl | rfl | rfl | rfl
    · exact ⟨ml, wsG_good _ ml⟩
    · exact ⟨im, wsG_good _ im⟩
    · exact ⟨sl, wsG_good _ sl⟩
    · exact ⟨ini, wsG_good _ ini⟩
  · exact g_good cd w h
theorem x_callI {G : gG} {X : gX} {cc : ByteArray} {nL : Nat} {R : Room} {own : String} (C : gC G X cc nL R own) {ws : va_W} {kc ks pc : Nat} {lv : List (Nat × Value)} {st : List Value} {y : MethodName} {Cn : String} {bytes : ByteArray} {maxL n idx : Nat} {ret : Option FieldType} {rm : Room} {As rest : List Value} {blk : va_W} {ov : Option Value} {blk' : (Nat → Nat) → va_W} {a : Nat} (d : decode cc pc = .ok (.invokespecial idx, 3)) (ct : CT (gX.l X) y bytes maxL none rm G (.ref a :: As) blk ov blk') (ml : Cond.methodLink own idx y ∈ wsG) (im : Cond.instanceMethod y ∈ wsG) (ini : Cond.initialized y.cls ∈ wsG) (cd : Cond.code y bytes maxL none ∈ wsG) (hy : y.name = "<init>") (hd : y.cls = Cn ∧ y.cls ≠ "java/lang/invoke/MethodHandle" ∧ y.cls ≠ "java/lang/invoke/VarHandle" ∧ (parseMethodDescriptor y.desc).map (fun d => d.parameters.length) = some n) (hst : st = As.reverse ++ .ref a :: rest) (hn : As.length = n) (hro : (rest.map fun v => v.category).sum ≤ 8) (hR : rm.frames + 1 ≤ R.frames ∧ 8 + (maxL + 11) + rm.locals ≤ R.locals) (pre post : va_W) (hws : ws = pre ++ (blk ++ post)) (hf : kc + rm.cells ≤ R.cells ∧ ks + rm.slots ≤ R.slots) (k : ∀ u, gW G X (pre ++ (blk' u ++ post)) (kc + rm.cells) (ks + rm.slots) (pc + 3) lv (ov.toList ++ rest)) : gW G X ws kc ks pc lv st := fun H locs ls hP hD hS hl => by
  subst hws; subst hst
  exact g_after C (va_runI (own := own) (Ts := wsG) ⟨C.1, C.2.1, C.2.2.1, C.2.2.2.1, C.2.2.2.2.1⟩ (ct H.size) (cwI n C.2.2.2.2.1 (g_good cd) rfl rfl rfl (C.2.2.2.2.1 _ ini) (C.2.2.2.2.1 _ ml) (C.2.2.2.2.1 _ im) hy hd.2 (by rw [C.2.2.2.2.2.2.2.2.2]; exact hR)) ⟨gPre_blind _ _ _ _, g_pre C hP hD hS⟩ rfl hn (by rw [← C.2.2.1]; exact hl.1) rfl (by show 2 * 0 + _ ≤ 8; omega) d (by rw [C.2.2.2.2.2.2.2.2.2]; exact hf)) hP hD hS hl k
theorem x_callIN {G : gG} {X : gX} {cc : ByteArray} {nL : Nat} {R : Room} {own : String} (C : gC G X cc nL R own) {ws : va_W} {kc ks pc : Nat} {lv : List (Nat × Value)} {st : List Value} {y : MethodName} {Cn : String} {bytes : ByteArray} {maxL n idx : Nat} {ret : Option FieldType} {rm : Room} {As rest : List Value} {blk : va_W} {ov : Option Value} {blk' : (Nat → Nat) → va_W} {a : Nat} (d : decode cc pc = .ok (.invokespecial idx, 3)) (ct : CT (gX.l X) y bytes maxL none rm G (.ref a :: As) blk ov blk') (ml : va_Nw (.methodLinkNest own idx y "LessonHorses") (gX.s X)) (im : Cond.instanceMethod y ∈ wsG) (ini : Cond.initialized y.cls ∈ wsG) (cd : Cond.code y bytes maxL none ∈ wsG) (hy : y.name = "<init>") (hd : y.cls = Cn ∧ y.cls ≠ "java/lang/invoke/MethodHandle" ∧ y.cls ≠ "java/lang/invoke/VarHandle" ∧ (parseMethodDescriptor y.desc).map (fun d => d.parameters.length) = some n) (hst : st = As.reverse ++ .ref a :: rest) (hn : As.length = n) (hro : (rest.map fun v => v.category).sum ≤ 8) (hR : rm.frames + 1 ≤ R.frames ∧ 8 + (maxL + 11) + rm.locals ≤ R.locals) (pre post : va_W) (hws : ws = pre ++ (blk ++ post)) (hf : kc + rm.cells ≤ R.cells ∧ ks + rm.slots ≤ R.slots) (k : ∀ u, gW G X (pre ++ (blk' u ++ post)) (kc + rm.cells) (ks + rm.slots) (pc + 3) lv (ov.toList ++ rest)) : gW G X ws kc ks pc lv st := fun H locs ls hP hD hS hl => by
  subst hws; subst hst
  exact g_after C (va_runIN (own := own) (Ts := wsG) ⟨C.1, C.2.1, C.2.2.1, C.2.2.2.1, C.2.2.2.2.1⟩ (ct H.size) ⟨va_cnB n C.2.2.2.2.1 (g_good cd) rfl rfl rfl ml (C.2.2.2.2.1 _ ini) hd.2 (by rw [C.2.2.2.2.2.2.2.2.2]; exact hR), hy, C.2.2.2.2.1 _ im⟩ ⟨gPre_blind _ _ _ _, g_pre C hP hD hS⟩ rfl hn (by rw [← C.2.2.1]; exact hl.1) rfl (by show 2 * 0 + _ ≤ 8; omega) d (by rw [C.2.2.2.2.2.2.2.2.2]; exact hf)) hP hD hS hl k
theorem x_callS {G : gG} {X : gX} {cc : ByteArray} {nL : Nat} {R : Room} {own : String} (C : gC G X cc nL R own) {ws : va_W} {kc ks pc : Nat} {lv : List (Nat × Value)} {st : List Value} {y : MethodName} {Cn : String} {bytes : ByteArray} {maxL n idx : Nat} {ret : Option FieldType} {rm : Room} {As rest : List Value} {blk : va_W} {ov : Option Value} {blk' : (Nat → Nat) → va_W} (d : decode cc pc = .ok (.invokestatic idx, 3)) (ct : CT (gX.l X) y bytes maxL ret rm G As blk ov blk') (ml : Cond.methodLink own idx y ∈ wsG) (im : Cond.static y ∈ wsG) (ini : Cond.initialized y.cls ∈ wsG) (cd : Cond.code y bytes maxL ret ∈ wsG) (hd : y.cls = Cn ∧ y.cls ≠ "java/lang/invoke/MethodHandle" ∧ y.cls ≠ "java/lang/invoke/VarHandle" ∧ (parseMethodDescriptor y.desc).map (fun d => d.parameters.length) = some n) (hst : st = As.reverse ++ rest) (hn : As.length = n) (hro : (rest.map fun v => v.category).sum ≤ 8) (hR : rm.frames + 1 ≤ R.frames ∧ 8 + (maxL + 11) + rm.locals ≤ R.locals) (pre post : va_W) (hws : ws = pre ++ (blk ++ post)) (hf : kc + rm.cells ≤ R.cells ∧ ks + rm.slots ≤ R.slots) (k : ∀ u, gW G X (pre ++ (blk' u ++ post)) (kc + rm.cells) (ks + rm.slots) (pc + 3) lv (ov.toList ++ rest)) : gW G X ws kc ks pc lv st := fun H locs ls hP hD hS hl => by
  subst hws; subst hst
  refine g_after C (va_runS (own := own) (Ts := wsG) ⟨C.1, C.2.1, C.2.2.1, C.2.2.2.1, C.2.2.2.2.1⟩ (ct H.size) (va_cwS n C.2.2.2.2.1 (fun w hw => ?_) rfl rfl rfl hd.2 (by rw [C.2.2.2.2.2.2.2.2.2]; exact hR)) ⟨gPre_blind _ _ _ _, g_pre C hP hD hS⟩ rfl hn (by rw [← C.2.2.1]; exact hl.1) rfl (by show 2 * 0 + _ ≤ 8; omega) d (by rw [C.2.2.2.2.2.2.2.2.2]; exact hf)) hP hD hS hl k
  rcases List.mem_append.mp hw with h | h
  · simp only [List.mem_cons, List.not_mem_nil, or_false] at h
    rcases h with rfl | rfl | rfl
    · exact ⟨ml, wsG_good _ ml⟩
    · exact ⟨im, wsG_good _ im⟩
    · exact ⟨ini, wsG_good _ ini⟩
  · exact g_good cd w h
theorem x_callSN {G : gG} {X : gX} {cc : ByteArray} {nL : Nat} {R : Room} {own : String} (C : gC G X cc nL R own) {ws : va_W} {kc ks pc : Nat} {lv : List (Nat × Value)} {st : List Value} {y : MethodName} {Cn : String} {bytes : ByteArray} {maxL n idx : Nat} {ret : Option FieldType} {rm : Room} {As rest : List Value} {blk : va_W} {ov : Option Value} {blk' : (Nat → Nat) → va_W} (d : decode cc pc = .ok (.invokestatic idx, 3)) (ct : CT (gX.l X) y bytes maxL ret rm G As blk ov blk') (ml : va_Nw (.methodLinkNest own idx y "LessonHorses") (gX.s X)) (im : Cond.static y ∈ wsG) (ini : Cond.initialized y.cls ∈ wsG) (cd : Cond.code y bytes maxL ret ∈ wsG) (hd : y.cls = Cn ∧ y.cls ≠ "java/lang/invoke/MethodHandle" ∧ y.cls ≠ "java/lang/invoke/VarHandle" ∧ (parseMethodDescriptor y.desc).map (fun d => d.parameters.length) = some n) (hst : st = As.reverse ++ rest) (hn : As.length = n) (hro : (rest.map fun v => v.category).sum ≤ 8) (hR : rm.frames + 1 ≤ R.frames ∧ 8 + (maxL + 11) + rm.locals ≤ R.locals) (pre post : va_W) (hws : ws = pre ++ (blk ++ post)) (hf : kc + rm.cells ≤ R.cells ∧ ks + rm.slots ≤ R.slots) (k : ∀ u, gW G X (pre ++ (blk' u ++ post)) (kc + rm.cells) (ks + rm.slots) (pc + 3) lv (ov.toList ++ rest)) : gW G X ws kc ks pc lv st := fun H locs ls hP hD hS hl => by
  subst hws; subst hst
  exact g_after C (va_runSN (own := own) (Ts := wsG) ⟨C.1, C.2.1, C.2.2.1, C.2.2.2.1, C.2.2.2.2.1⟩ (ct H.size) ⟨va_cnB n C.2.2.2.2.1 (g_good cd) rfl rfl rfl ml (C.2.2.2.2.1 _ ini) hd.2 (by rw [C.2.2.2.2.2.2.2.2.2]; exact hR), C.2.2.2.2.1 _ im, trivial⟩ ⟨gPre_blind _ _ _ _, g_pre C hP hD hS⟩ rfl hn (by rw [← C.2.2.1]; exact hl.1) rfl (by show 2 * 0 + _ ≤ 8; omega) d (by rw [C.2.2.2.2.2.2.2.2.2]; exact hf)) hP hD hS hl k
theorem x_callVd {G : gG} {X : gX} {cc : ByteArray} {nL : Nat} {R : Room} {own : String} (C : gC G X cc nL R own) {ws : va_W} {kc ks pc : Nat} {lv : List (Nat × Value)} {st : List Value} {y : MethodName} {Cn : String} {bytes : ByteArray} {maxL n idx : Nat} {ret : Option FieldType} {rm : Room} {As rest : List Value} {blk : va_W} {ov : Option Value} {blk'' ws' : va_W} {a : Nat} (d : decode cc pc = .ok (.invokevirtual idx, 3)) (ct : CT (gX.l X) y bytes maxL ret rm G (.ref a :: As) blk ov (fun _ => blk'')) (ml : Cond.methodLink own idx y ∈ wsG) (im : Cond.instanceMethod y ∈ wsG) (sl : Cond.selects Cn y y ∈ wsG) (ini : Cond.initialized Cn ∈ wsG) (cd : Cond.code y bytes maxL ret ∈ wsG) (hd : y.cls = Cn ∧ y.cls ≠ "java/lang/invoke/MethodHandle" ∧ y.cls ≠ "java/lang/invoke/VarHandle" ∧ (parseMethodDescriptor y.desc).map (fun d => d.parameters.length) = some n) {ci : Nat} {fs : List Value} {T : u_T} {N : Nat} (q0 : Nat) (he : blk[q0]? = some (a, .inr (ci, fs))) (hc : vwCl[ci]? = some (Cn, T, N)) (hst : st = As.reverse ++ .ref a :: rest) (hn : As.length = n) (hro : (rest.map fun v => v.category).sum ≤ 8) (hR : rm.frames + 1 ≤ R.frames ∧ 8 + (maxL + 11) + rm.locals ≤ R.locals) (pre post : va_W) (hws : ws = pre ++ (blk ++ post)) (hw : pre ++ (blk'' ++ post) = ws') {st' : List Value} (hs : ov.toList ++ rest = st') (hz : rm.cells = 0 ∧ rm.slots = 0) (hf : kc ≤ R.cells ∧ ks ≤ R.slots) (k : gW G X ws' kc ks (pc + 3) lv st') : gW G X ws kc ks pc lv st := x_callV C d ct ml im sl ini cd hd q0 he hc hst hn hro hR pre post hws (by rw [hz.1, hz.2]; exact hf) (fun u => by rw [hz.1, hz.2, hw, hs]; exact k)
theorem x_callSd {G : gG} {X : gX} {cc : ByteArray} {nL : Nat} {R : Room} {own : String} (C : gC G X cc nL R own) {ws : va_W} {kc ks pc : Nat} {lv : List (Nat × Value)} {st : List Value} {y : MethodName} {Cn : String} {bytes : ByteArray} {maxL n idx : Nat} {ret : Option FieldType} {rm : Room} {As rest : List Value} {blk : va_W} {ov : Option Value} {blk'' ws' : va_W} (d : decode cc pc = .ok (.invokestatic idx, 3)) (ct : CT (gX.l X) y bytes maxL ret rm G As blk ov (fun _ => blk'')) (ml : Cond.methodLink own idx y ∈ wsG) (im : Cond.static y ∈ wsG) (ini : Cond.initialized y.cls ∈ wsG) (cd : Cond.code y bytes maxL ret ∈ wsG) (hd : y.cls = Cn ∧ y.cls ≠ "java/lang/invoke/MethodHandle" ∧ y.cls ≠ "java/lang/invoke/VarHandle" ∧ (parseMethodDescriptor y.desc).map (fun d => d.parameters.length) = some n) (hst : st = As.reverse ++ rest) (hn : As.length = n) (hro : (rest.map fun v => v.category).sum ≤ 8) (hR : rm.frames + 1 ≤ R.frames ∧ 8 + (maxL + 11) + rm.locals ≤ R.locals) (pre post : va_W) (hws : ws = pre ++ (blk ++ post)) (hw : pre ++ (blk'' ++ post) = ws') {st' : List Value} (hs : ov.toList ++ rest = st') (hz : rm.cells = 0 ∧ rm.slots = 0) (hf : kc ≤ R.cells ∧ ks ≤ R.slots) (k : gW G X ws' kc ks (pc + 3) lv st') : gW G X ws kc ks pc lv st := x_callS C d ct ml im ini cd hd hst hn hro hR pre post hws (by rw [hz.1, hz.2]; exact hf) (fun u => by rw [hz.1, hz.2, hw, hs]; exact k)
theorem x_callSNd {G : gG} {X : gX} {cc : ByteArray} {nL : Nat} {R : Room} {own : String} (C : gC G X cc nL R own) {ws : va_W} {kc ks pc : Nat} {lv : List (Nat × Value)} {st : List Value} {y : MethodName} {Cn : String} {bytes : ByteArray} {maxL n idx : Nat} {ret : Option FieldType} {rm : Room} {As rest : List Value} {blk : va_W} {ov : Option Value} {blk'' ws' : va_W} (d : decode cc pc = .ok (.invokestatic idx, 3)) (ct : CT (gX.l X) y bytes maxL ret rm G As blk ov (fun _ => blk'')) (ml : va_Nw (.methodLinkNest own idx y "LessonHorses") (gX.s X)) (im : Cond.static y ∈ wsG) (ini : Cond.initialized y.cls ∈ wsG) (cd : Cond.code y bytes maxL ret ∈ wsG) (hd : y.cls = Cn ∧ y.cls ≠ "java/lang/invoke/MethodHandle" ∧ y.cls ≠ "java/lang/invoke/VarHandle" ∧ (parseMethodDescriptor y.desc).map (fun d => d.parameters.length) = some n) (hst : st = As.reverse ++ rest) (hn : As.length = n) (hro : (rest.map fun v => v.category).sum ≤ 8) (hR : rm.frames + 1 ≤ R.frames ∧ 8 + (maxL + 11) + rm.locals ≤ R.locals) (pre post : va_W) (hws : ws = pre ++ (blk ++ post)) (hw : pre ++ (blk'' ++ post) = ws') {st' : List Value} (hs : ov.toList ++ rest = st') (hz : rm.cells = 0 ∧ rm.slots = 0) (hf : kc ≤ R.cells ∧ ks ≤ R.slots) (k : gW G X ws' kc ks (pc + 3) lv st') : gW G X ws kc ks pc lv st := x_callSN C d ct ml im ini cd hd hst hn hro hR pre post hws (by rw [hz.1, hz.2]; exact hf) (fun u => by rw [hz.1, hz.2, hw, hs]; exact k)
theorem x_max {G : gG} {X : gX} {cc : ByteArray} {nL : Nat} {R : Room} {own : String} (C : gC G X cc nL R own) {ws : va_W} {kc ks pc : Nat} {lv : List (Nat × Value)} {st : List Value} {x y : Int32} {idx : Nat} (d : decode cc pc = .ok (.invokestatic idx, 3)) (ml : Cond.methodLink own idx Lib.Math.max.name ∈ wsG) (im : Cond.static Lib.Math.max.name ∈ wsG) (ini : Cond.initialized "java/lang/Math" ∈ wsG) (cd : Cond.code Lib.Math.max.name Lib.Math.max.code 2 (some .int) ∈ wsG) (hro : (st.map fun v => v.category).sum ≤ 8) (hR : 1 ≤ R.frames ∧ 21 ≤ R.locals) (hf : kc ≤ R.cells ∧ ks ≤ R.slots) (k9 : gW G X ws kc ks (pc + 3) lv (.int (mxI x y) :: st)) : gW G X ws kc ks pc lv (.int y :: .int x :: st) := fun H locs ls hP hD hS hl =>
  va_mmax C.1 C.2.1 (by rw [hl.1]) C.2.2.2.1 (C.2.2.2.2.1 _ ml) (C.2.2.2.2.1 _ im) (C.2.2.2.2.1 _ ini) (C.2.2.2.2.1 _ cd) (by rw [C.2.2.2.2.2.2.2.2.2]; exact hR.1) (by rw [C.2.2.2.2.2.2.2.2.2]; omega) (by rw [C.2.2.2.2.2.2.2.2.2]; exact hf.1) (by rw [C.2.2.2.2.2.2.2.2.2]; exact hf.2) d (k9 H locs ls hP hD hS hl)
theorem x_min {G : gG} {X : gX} {cc : ByteArray} {nL : Nat} {R : Room} {own : String} (C : gC G X cc nL R own) {ws : va_W} {kc ks pc : Nat} {lv : List (Nat × Value)} {st : List Value} {x y : Int32} {idx : Nat} (d : decode cc pc = .ok (.invokestatic idx, 3)) (ml : Cond.methodLink own idx Lib.Math.min.name ∈ wsG) (im : Cond.static Lib.Math.min.name ∈ wsG) (ini : Cond.initialized "java/lang/Math" ∈ wsG) (cd : Cond.code Lib.Math.min.name Lib.Math.min.code 2 (some .int) ∈ wsG) (hro : (st.map fun v => v.category).sum ≤ 8) (hR : 1 ≤ R.frames ∧ 21 ≤ R.locals) (hf : kc ≤ R.cells ∧ ks ≤ R.slots) (k9 : gW G X ws kc ks (pc + 3) lv (.int (mnI x y) :: st)) : gW G X ws kc ks pc lv (.int y :: .int x :: st) := fun H locs ls hP hD hS hl =>
  va_mmin C.1 C.2.1 (by rw [hl.1]) C.2.2.2.1 (C.2.2.2.2.1 _ ml) (C.2.2.2.2.1 _ im) (C.2.2.2.2.1 _ ini) (C.2.2.2.2.1 _ cd) (by rw [C.2.2.2.2.2.2.2.2.2]; exact hR.1) (by rw [C.2.2.2.2.2.2.2.2.2]; omega) (by rw [C.2.2.2.2.2.2.2.2.2]; exact hf.1) (by rw [C.2.2.2.2.2.2.2.2.2]; exact hf.2) d (k9 H locs ls hP hD hS hl)
theorem mxI_nI {a b : Nat} (ha : a < 2 ^ 31) (hb : b < 2 ^ 31) : mxI (nI a) (nI b) = nI (max a b) := by
  unfold mxI
  split
  · rename_i h; have := (nI_ltI (by assumption) (by assumption)).mp h; congr 1; omega
  · rename_i h; have := mt (nI_ltI (by assumption) (by assumption)).mpr h; congr 1; omega
theorem mnI_nI {a b : Nat} (ha : a < 2 ^ 31) (hb : b < 2 ^ 31) : mnI (nI a) (nI b) = nI (min a b) := by
  unfold mnI
  split
  · rename_i h; have := (nI_ltI (by assumption) (by assumption)).mp h; congr 1; omega
  · rename_i h; have := mt (nI_ltI (by assumption) (by assumption)).mpr h; congr 1; omega
end
section
/-- a Table's two cells -/
def wT (G : gG) (a b w n : Nat) (f : Nat → Int32) : va_W := [(a, .inr (3, [.int (nI w), .ref b])), (b, .inl (G.2.1.1, n, .inl f))]
/-- the sum of n numbers from b on -/
def sumF (f : Nat → Int32) (b : Nat) : Nat → Int32
  | 0 => 0
  | n + 1 => sumF f b n + f (b + n)
/-- n rows of a table of width w, a column written over another -/
def mvC (f : Nat → Int32) (w a b : Nat) : Nat → Nat → Int32
  | 0 => f
  | n + 1 => upd (mvC f w a b n) (n * w + b) (mvC f w a b n (n * w + a))
def rm_X3_at : Room := { frames := 0, cells := 0, slots := 0, locals := 0 }
set_option maxRecDepth 100000 in
set_option maxHeartbeats 4000000 in
theorem c_X3_at (l : Launch) (G : gG) (a b w n : Nat) (f : Nat → Int32) (r c j : Nat)  (hj : r * w + c = j) (hc : c < w) (hjn : j < n) (hn : n < 2 ^ 31) (hw : w < 2 ^ 31) : CT l yX3_at cX3_at 4 (some .int) rm_X3_at G [.ref a, .int (nI r), .int (nI c)] (wT G a b w n f) (some (.int (f j))) (fun _ => (wT G a b w n f)) := by
  refine gMet (by decide) (Nat.le_of_ble_eq_true rfl) (fun X hX C hr hin E => ?_)
  clear hX
  refine (show gW G X (wT G a b w n f) 0 0 0 [(0, .ref a), (1, .int (nI r)), (2, .int (nI c))] [] from ?_)
  refine x_iload_n C 1 rfl dX3_at_0 rfl ?_
  refine x_aload_n C 0 rfl dX3_at_1 rfl ?_
  refine x_get (k := 0) (v := .int (nI w)) C dX3_at_2 layX3 fl_X3_7 0 rfl rfl (by decide) rfl ?_
  refine x_imulN C dX3_at_5 ?_
  refine x_iload_n C 2 rfl dX3_at_6 rfl ?_
  refine x_iaddN C dX3_at_7 ?_
  refine x_top (y := nI j) (congrArg nI hj) ?_
  refine x_istore_n (lv' := [(3, .int (nI j)), (0, .ref a), (1, .int (nI r)), (2, .int (nI c))]) C dX3_at_8 rfl (by decide) rfl ?_
  refine x_iload_n C 3 rfl dX3_at_9 rfl ?_
  refine x_if_ltN (a := c) (tgt := 43) C dX3_at_10 (by decide) (by omega) (fun c1 => False.elim (by omega)) (fun c1 => ?_)
  refine x_iload_n C 3 rfl dX3_at_13 rfl ?_
  refine x_aload_n C 1 rfl dX3_at_14 rfl ?_
  refine x_get (k := 0) (v := .int (nI w)) C dX3_at_15 layX3 fl_X3_7 0 rfl rfl (by decide) rfl ?_
  refine x_icmp_geN (a := c) (b := w) (tgt := 43) C dX3_at_18 (by decide) (by omega) (by omega) (fun c2 => False.elim (by omega)) (fun c2 => ?_)
  refine x_iload_n C 0 rfl dX3_at_21 rfl ?_
  refine x_if_ltN (a := j) (tgt := 43) C dX3_at_22 (by decide) (by omega) (fun c3 => False.elim (by omega)) (fun c3 => ?_)
  refine x_iload_n C 0 rfl dX3_at_25 rfl ?_
  refine x_aload_n C 1 rfl dX3_at_26 rfl ?_
  refine x_get (k := 1) (v := .ref b) C dX3_at_27 layX3 fl_X3_13 0 rfl rfl (by decide) rfl ?_
  refine x_alenI C dX3_at_30 1 rfl ?_
  refine x_icmp_geN (a := j) (b := n) (tgt := 43) C dX3_at_31 (by decide) (by omega) (by omega) (fun c4 => False.elim (by omega)) (fun c4 => ?_)
  refine x_aload_n C 1 rfl dX3_at_34 rfl ?_
  refine x_get (k := 1) (v := .ref b) C dX3_at_35 layX3 fl_X3_13 0 rfl rfl (by decide) rfl ?_
  refine x_iload_n C 0 rfl dX3_at_38 rfl ?_
  refine x_iald (j := j) C dX3_at_39 1 rfl rfl (by omega) (by omega) ?_
  refine x_goto (tgt := 44) C dX3_at_40 (by decide) ?_
  exact x_iret C hr E dX3_at_44 (fun _ => 0) rfl rfl
def rm_X3_put : Room := { frames := 0, cells := 0, slots := 0, locals := 0 }
set_option maxRecDepth 100000 in
set_option maxHeartbeats 4000000 in
theorem c_X3_put (l : Launch) (G : gG) (a b w n : Nat) (f : Nat → Int32) (r c j : Nat) (v : Int32)  (hj : r * w + c = j) (hc : c < w) (hjn : j < n) (hn : n < 2 ^ 31) (hw : w < 2 ^ 31) : CT l yX3_put cX3_put 5 none rm_X3_put G [.ref a, .int (nI r), .int (nI c), .int v] (wT G a b w n f) none (fun _ => (wT G a b w n (upd f j v))) := by
  refine gMet (by decide) (Nat.le_of_ble_eq_true rfl) (fun X hX C hr hin E => ?_)
  clear hX
  refine (show gW G X (wT G a b w n f) 0 0 0 [(0, .ref a), (1, .int (nI r)), (2, .int (nI c)), (3, .int v)] [] from ?_)
  refine x_iload_n C 1 rfl dX3_put_0 rfl ?_
  refine x_aload_n C 0 rfl dX3_put_1 rfl ?_
  refine x_get (k := 0) (v := .int (nI w)) C dX3_put_2 layX3 fl_X3_7 0 rfl rfl (by decide) rfl ?_
  refine x_imulN C dX3_put_5 ?_
  refine x_iload_n C 2 rfl dX3_put_6 rfl ?_
  refine x_iaddN C dX3_put_7 ?_
  refine x_top (y := nI j) (congrArg nI hj) ?_
  refine x_istore (lv' := [(4, .int (nI j)), (0, .ref a), (1, .int (nI r)), (2, .int (nI c)), (3, .int v)]) C dX3_put_8 (by decide) rfl ?_
  refine x_iload_n C 3 rfl dX3_put_10 rfl ?_
  refine x_if_ltN (a := c) (tgt := 45) C dX3_put_11 (by decide) (by omega) (fun c1 => False.elim (by omega)) (fun c1 => ?_)
  refine x_iload_n C 3 rfl dX3_put_14 rfl ?_
  refine x_aload_n C 1 rfl dX3_put_15 rfl ?_
  refine x_get (k := 0) (v := .int (nI w)) C dX3_put_16 layX3 fl_X3_7 0 rfl rfl (by decide) rfl ?_
  refine x_icmp_geN (a := c) (b := w) (tgt := 45) C dX3_put_19 (by decide) (by omega) (by omega) (fun c2 => False.elim (by omega)) (fun c2 => ?_)
  refine x_iload C 0 rfl dX3_put_22 ?_
  refine x_if_ltN (a := j) (tgt := 45) C dX3_put_24 (by decide) (by omega) (fun c3 => False.elim (by omega)) (fun c3 => ?_)
  refine x_iload C 0 rfl dX3_put_27 ?_
  refine x_aload_n C 1 rfl dX3_put_29 rfl ?_
  refine x_get (k := 1) (v := .ref b) C dX3_put_30 layX3 fl_X3_13 0 rfl rfl (by decide) rfl ?_
  refine x_alenI C dX3_put_33 1 rfl ?_
  refine x_icmp_geN (a := j) (b := n) (tgt := 45) C dX3_put_34 (by decide) (by omega) (by omega) (fun c4 => False.elim (by omega)) (fun c4 => ?_)
  refine x_aload_n C 1 rfl dX3_put_37 rfl ?_
  refine x_get (k := 1) (v := .ref b) C dX3_put_38 layX3 fl_X3_13 0 rfl rfl (by decide) rfl ?_
  refine x_iload C 0 rfl dX3_put_41 ?_
  refine x_iload_n C 4 rfl dX3_put_43 rfl ?_
  refine x_iast (j := j) (x := v) (ws' := (wT G a b w n (upd f j v))) C dX3_put_44 1 rfl rfl (by omega) (by omega) rfl ?_
  exact x_vret C hr E dX3_put_45 (fun _ => 0) rfl
def rm_X3_add : Room := { frames := 1, cells := 0, slots := 0, locals := 24 }
set_option maxRecDepth 100000 in
set_option maxHeartbeats 4000000 in
theorem c_X3_add (l : Launch) (G : gG) (a b w n : Nat) (f : Nat → Int32) (r c j : Nat) (v : Int32)  (hj : r * w + c = j) (hc : c < w) (hjn : j < n) (hn : n < 2 ^ 31) (hw : w < 2 ^ 31) : CT l yX3_add cX3_add 4 none rm_X3_add G [.ref a, .int (nI r), .int (nI c), .int v] (wT G a b w n f) none (fun _ => (wT G a b w n (upd f j (f j + v)))) := by
  refine gMet (by decide) (Nat.le_of_ble_eq_true rfl) (fun X hX C hr hin E => ?_)
  clear hX
  refine (show gW G X (wT G a b w n f) 0 0 0 [(0, .ref a), (1, .int (nI r)), (2, .int (nI c)), (3, .int v)] [] from ?_)
  refine x_aload_n C 0 rfl dX3_add_0 rfl ?_
  refine x_iload_n C 1 rfl dX3_add_1 rfl ?_
  refine x_iload_n C 2 rfl dX3_add_2 rfl ?_
  refine x_aload_n C 0 rfl dX3_add_3 rfl ?_
  refine x_iload_n C 1 rfl dX3_add_4 rfl ?_
  refine x_iload_n C 2 rfl dX3_add_5 rfl ?_
  refine x_callVd (As := [.int (nI r), .int (nI c)]) (rest := [.int (nI c), .int (nI r), .ref a]) C dX3_add_6 (c_X3_at (gX.l X) G a b w n f r c j (by omega) (by omega) (by omega) (by omega) (by omega)) ml_X3_17 im_X3_at sl_X3_at in_X3 cd_X3_at hd_X3_at 0 rfl rfl rfl rfl (Nat.le_of_ble_eq_true rfl) ⟨Nat.le_of_ble_eq_true rfl, Nat.le_of_ble_eq_true rfl⟩ (List.take 0 (wT G a b w n f)) (List.drop 2 (wT G a b w n f)) rfl (ws' := (wT G a b w n f)) rfl (st' := [.int (f j), .int (nI c), .int (nI r), .ref a]) rfl ⟨rfl, rfl⟩ ⟨Nat.le_of_ble_eq_true rfl, Nat.le_of_ble_eq_true rfl⟩ ?_
  refine x_iload_n C 3 rfl dX3_add_9 rfl ?_
  refine x_iadd (x := (f j)) (y := v) C dX3_add_10 ?_
  refine x_callVd (As := [.int (nI r), .int (nI c), .int ((f j) + v)]) (rest := []) C dX3_add_11 (c_X3_put (gX.l X) G a b w n f r c j ((f j) + v) (by omega) (by omega) (by omega) (by omega) (by omega)) ml_X3_21 im_X3_put sl_X3_put in_X3 cd_X3_put hd_X3_put 0 rfl rfl rfl rfl (Nat.le_of_ble_eq_true rfl) ⟨Nat.le_of_ble_eq_true rfl, Nat.le_of_ble_eq_true rfl⟩ (List.take 0 (wT G a b w n f)) (List.drop 2 (wT G a b w n f)) rfl (ws' := (wT G a b w n (upd f j ((f j) + v)))) rfl (st' := []) rfl ⟨rfl, rfl⟩ ⟨Nat.le_of_ble_eq_true rfl, Nat.le_of_ble_eq_true rfl⟩ ?_
  exact x_vret C hr E dX3_add_14 (fun _ => 0) rfl
def rm_X3_takeAway : Room := { frames := 1, cells := 0, slots := 0, locals := 24 }
set_option maxRecDepth 100000 in
set_option maxHeartbeats 4000000 in
theorem c_X3_takeAway (l : Launch) (G : gG) (a b w n : Nat) (f : Nat → Int32) (r c j : Nat) (v : Int32)  (hj : r * w + c = j) (hc : c < w) (hjn : j < n) (hn : n < 2 ^ 31) (hw : w < 2 ^ 31) : CT l yX3_takeAway cX3_takeAway 4 none rm_X3_takeAway G [.ref a, .int (nI r), .int (nI c), .int v] (wT G a b w n f) none (fun _ => (wT G a b w n (upd f j (mxI 0 (f j - v))))) := by
  refine gMet (by decide) (Nat.le_of_ble_eq_true rfl) (fun X hX C hr hin E => ?_)
  clear hX
  refine (show gW G X (wT G a b w n f) 0 0 0 [(0, .ref a), (1, .int (nI r)), (2, .int (nI c)), (3, .int v)] [] from ?_)
  refine x_aload_n C 0 rfl dX3_takeAway_0 rfl ?_
  refine x_iload_n C 1 rfl dX3_takeAway_1 rfl ?_
  refine x_iload_n C 2 rfl dX3_takeAway_2 rfl ?_
  refine x_iconst (v := (nI 0)) C dX3_takeAway_3 (by decide) ?_
  refine x_aload_n C 0 rfl dX3_takeAway_4 rfl ?_
  refine x_iload_n C 1 rfl dX3_takeAway_5 rfl ?_
  refine x_iload_n C 2 rfl dX3_takeAway_6 rfl ?_
  refine x_callVd (As := [.int (nI r), .int (nI c)]) (rest := [.int (nI 0), .int (nI c), .int (nI r), .ref a]) C dX3_takeAway_7 (c_X3_at (gX.l X) G a b w n f r c j (by omega) (by omega) (by omega) (by omega) (by omega)) ml_X3_17 im_X3_at sl_X3_at in_X3 cd_X3_at hd_X3_at 0 rfl rfl rfl rfl (Nat.le_of_ble_eq_true rfl) ⟨Nat.le_of_ble_eq_true rfl, Nat.le_of_ble_eq_true rfl⟩ (List.take 0 (wT G a b w n f)) (List.drop 2 (wT G a b w n f)) rfl (ws' := (wT G a b w n f)) rfl (st' := [.int (f j), .int (nI 0), .int (nI c), .int (nI r), .ref a]) rfl ⟨rfl, rfl⟩ ⟨Nat.le_of_ble_eq_true rfl, Nat.le_of_ble_eq_true rfl⟩ ?_
  refine x_iload_n C 3 rfl dX3_takeAway_10 rfl ?_
  refine x_isub (x := (f j)) (y := v) C dX3_takeAway_11 ?_
  refine x_max (x := 0) (y := ((f j) - v)) C dX3_takeAway_12 ml_X3_25 st_J9_max_7cf53 in_J9 cd_J9_max_7cf53 (Nat.le_of_ble_eq_true rfl) ⟨Nat.le_of_ble_eq_true rfl, Nat.le_of_ble_eq_true rfl⟩ ⟨Nat.le_of_ble_eq_true rfl, Nat.le_of_ble_eq_true rfl⟩ ?_
  refine x_callVd (As := [.int (nI r), .int (nI c), .int (mxI 0 ((f j) - v))]) (rest := []) C dX3_takeAway_15 (c_X3_put (gX.l X) G a b w n f r c j (mxI 0 ((f j) - v)) (by omega) (by omega) (by omega) (by omega) (by omega)) ml_X3_21 im_X3_put sl_X3_put in_X3 cd_X3_put hd_X3_put 0 rfl rfl rfl rfl (Nat.le_of_ble_eq_true rfl) ⟨Nat.le_of_ble_eq_true rfl, Nat.le_of_ble_eq_true rfl⟩ (List.take 0 (wT G a b w n f)) (List.drop 2 (wT G a b w n f)) rfl (ws' := (wT G a b w n (upd f j (mxI 0 ((f j) - v))))) rfl (st' := []) rfl ⟨rfl, rfl⟩ ⟨Nat.le_of_ble_eq_true rfl, Nat.le_of_ble_eq_true rfl⟩ ?_
  exact x_vret C hr E dX3_takeAway_18 (fun _ => 0) rfl
def rm_X3_addUpTo : Room := { frames := 1, cells := 0, slots := 0, locals := 24 }
set_option maxRecDepth 100000 in
set_option maxHeartbeats 4000000 in
theorem c_X3_addUpTo (l : Launch) (G : gG) (a b w n : Nat) (f : Nat → Int32) (r c j : Nat) (v : Int32)  (hj : r * w + c = j) (hc : c < w) (hjn : j < n) (hn : n < 2 ^ 31) (hw : w < 2 ^ 31) : CT l yX3_addUpTo cX3_addUpTo 4 none rm_X3_addUpTo G [.ref a, .int (nI r), .int (nI c), .int v] (wT G a b w n f) none (fun _ => (wT G a b w n (upd f j (mnI v (f j + 1))))) := by
  refine gMet (by decide) (Nat.le_of_ble_eq_true rfl) (fun X hX C hr hin E => ?_)
  clear hX
  refine (show gW G X (wT G a b w n f) 0 0 0 [(0, .ref a), (1, .int (nI r)), (2, .int (nI c)), (3, .int v)] [] from ?_)
  refine x_aload_n C 0 rfl dX3_addUpTo_0 rfl ?_
  refine x_iload_n C 1 rfl dX3_addUpTo_1 rfl ?_
  refine x_iload_n C 2 rfl dX3_addUpTo_2 rfl ?_
  refine x_iload_n C 3 rfl dX3_addUpTo_3 rfl ?_
  refine x_aload_n C 0 rfl dX3_addUpTo_4 rfl ?_
  refine x_iload_n C 1 rfl dX3_addUpTo_5 rfl ?_
  refine x_iload_n C 2 rfl dX3_addUpTo_6 rfl ?_
  refine x_callVd (As := [.int (nI r), .int (nI c)]) (rest := [.int v, .int (nI c), .int (nI r), .ref a]) C dX3_addUpTo_7 (c_X3_at (gX.l X) G a b w n f r c j (by omega) (by omega) (by omega) (by omega) (by omega)) ml_X3_17 im_X3_at sl_X3_at in_X3 cd_X3_at hd_X3_at 0 rfl rfl rfl rfl (Nat.le_of_ble_eq_true rfl) ⟨Nat.le_of_ble_eq_true rfl, Nat.le_of_ble_eq_true rfl⟩ (List.take 0 (wT G a b w n f)) (List.drop 2 (wT G a b w n f)) rfl (ws' := (wT G a b w n f)) rfl (st' := [.int (f j), .int v, .int (nI c), .int (nI r), .ref a]) rfl ⟨rfl, rfl⟩ ⟨Nat.le_of_ble_eq_true rfl, Nat.le_of_ble_eq_true rfl⟩ ?_
  refine x_iconst (v := (nI 1)) C dX3_addUpTo_10 (by decide) ?_
  refine x_iadd (x := (f j)) (y := 1) C dX3_addUpTo_11 ?_
  refine x_min (x := v) (y := ((f j) + 1)) C dX3_addUpTo_12 ml_X3_30 st_J9_min_7cf53 in_J9 cd_J9_min_7cf53 (Nat.le_of_ble_eq_true rfl) ⟨Nat.le_of_ble_eq_true rfl, Nat.le_of_ble_eq_true rfl⟩ ⟨Nat.le_of_ble_eq_true rfl, Nat.le_of_ble_eq_true rfl⟩ ?_
  refine x_callVd (As := [.int (nI r), .int (nI c), .int (mnI v ((f j) + 1))]) (rest := []) C dX3_addUpTo_15 (c_X3_put (gX.l X) G a b w n f r c j (mnI v ((f j) + 1)) (by omega) (by omega) (by omega) (by omega) (by omega)) ml_X3_21 im_X3_put sl_X3_put in_X3 cd_X3_put hd_X3_put 0 rfl rfl rfl rfl (Nat.le_of_ble_eq_true rfl) ⟨Nat.le_of_ble_eq_true rfl, Nat.le_of_ble_eq_true rfl⟩ (List.take 0 (wT G a b w n f)) (List.drop 2 (wT G a b w n f)) rfl (ws' := (wT G a b w n (upd f j (mnI v ((f j) + 1))))) rfl (st' := []) rfl ⟨rfl, rfl⟩ ⟨Nat.le_of_ble_eq_true rfl, Nat.le_of_ble_eq_true rfl⟩ ?_
  exact x_vret C hr E dX3_addUpTo_18 (fun _ => 0) rfl
def rm_X3_sum : Room := { frames := 1, cells := 0, slots := 0, locals := 23 }
set_option maxRecDepth 100000 in
set_option maxHeartbeats 4000000 in
theorem c_X3_sum (l : Launch) (G : gG) (a b w n : Nat) (f : Nat → Int32) (r j : Nat)  (hj : r * w = j) (hjn : j + w ≤ n) (hn : n < 2 ^ 31) : CT l yX3_sum cX3_sum 4 (some .int) rm_X3_sum G [.ref a, .int (nI r)] (wT G a b w n f) (some (.int (sumF f j w))) (fun _ => (wT G a b w n f)) := by
  refine gMet (by decide) (Nat.le_of_ble_eq_true rfl) (fun X hX C hr hin E => ?_)
  clear hX
  refine (show gW G X (wT G a b w n f) 0 0 0 [(0, .ref a), (1, .int (nI r))] [] from ?_)
  refine x_iconst (v := (nI 0)) C dX3_sum_0 (by decide) ?_
  refine x_istore_n (lv' := [(2, .int (nI 0)), (0, .ref a), (1, .int (nI r))]) C dX3_sum_1 rfl (by decide) rfl ?_
  refine x_iconst (v := (nI 0)) C dX3_sum_2 (by decide) ?_
  refine x_istore_n (lv' := [(3, .int (nI 0)), (2, .int (nI 0)), (0, .ref a), (1, .int (nI r))]) C dX3_sum_3 rfl (by decide) rfl ?_
  have L1 : ∀ (fu : Nat) (i : Nat) (acc : Int32), i + fu = w → acc = sumF f j i → gW G X (wT G a b w n f) 0 0 4 [(3, .int (nI i)), (2, .int acc), (0, .ref a), (1, .int (nI r))] [] := by
    intro fu
    induction fu with
    | zero =>
      intro i acc hn ha
      have hi : i = w := by omega
      refine x_iload_n C 0 rfl dX3_sum_4 rfl ?_
      refine x_aload_n C 2 rfl dX3_sum_5 rfl ?_
      refine x_get (k := 0) (v := .int (nI w)) C dX3_sum_6 layX3 fl_X3_7 0 rfl rfl (by decide) rfl ?_
      refine x_icmp_geN (a := i) (b := w) (tgt := 27) C dX3_sum_9 (by decide) (by omega) (by omega) (fun c2 => ?_) (fun c2 => False.elim (by omega))
      refine x_iload_n C 1 rfl dX3_sum_27 rfl ?_
      exact x_iret C hr E dX3_sum_28 (fun _ => 0) (by rw [ha, hi]) rfl
    | succ fu ih =>
      intro i acc hn ha
      refine x_iload_n C 0 rfl dX3_sum_4 rfl ?_
      refine x_aload_n C 2 rfl dX3_sum_5 rfl ?_
      refine x_get (k := 0) (v := .int (nI w)) C dX3_sum_6 layX3 fl_X3_7 0 rfl rfl (by decide) rfl ?_
      refine x_icmp_geN (a := i) (b := w) (tgt := 27) C dX3_sum_9 (by decide) (by omega) (by omega) (fun c3 => False.elim (by omega)) (fun c3 => ?_)
      refine x_iload_n C 1 rfl dX3_sum_12 rfl ?_
      refine x_aload_n C 2 rfl dX3_sum_13 rfl ?_
      refine x_iload_n C 3 rfl dX3_sum_14 rfl ?_
      refine x_iload_n C 0 rfl dX3_sum_15 rfl ?_
      refine x_callVd (As := [.int (nI r), .int (nI i)]) (rest := [.int acc]) C dX3_sum_16 (c_X3_at (gX.l X) G a b w n f r i (j + i) (by omega) (by omega) (by omega) (by omega) (by omega)) ml_X3_17 im_X3_at sl_X3_at in_X3 cd_X3_at hd_X3_at 0 rfl rfl rfl rfl (Nat.le_of_ble_eq_true rfl) ⟨Nat.le_of_ble_eq_true rfl, Nat.le_of_ble_eq_true rfl⟩ (List.take 0 (wT G a b w n f)) (List.drop 2 (wT G a b w n f)) rfl (ws' := (wT G a b w n f)) rfl (st' := [.int (f (j + i)), .int acc]) rfl ⟨rfl, rfl⟩ ⟨Nat.le_of_ble_eq_true rfl, Nat.le_of_ble_eq_true rfl⟩ ?_
      refine x_iadd (x := acc) (y := (f (j + i))) C dX3_sum_19 ?_
      refine x_istore_n (lv' := [(2, .int (acc + (f (j + i)))), (3, .int (nI i)), (0, .ref a), (1, .int (nI r))]) C dX3_sum_20 rfl (by decide) rfl ?_
      refine x_iinc (v := (nI (i + 1))) (lv' := [(3, .int (nI (i + 1))), (2, .int (acc + (f (j + i)))), (0, .ref a), (1, .int (nI r))]) C 1 rfl dX3_sum_21 (by rw [show Int32.ofInt 1 = nI 1 from rfl]; exact nI_add _ _) (by decide) rfl ?_
      refine x_goto (tgt := 4) C dX3_sum_24 (by decide) ?_
      exact ih (i + 1) (acc + (f (j + i))) (by omega) (by rw [ha]; rfl)
  exact L1 w 0 0 (by omega) (by rfl)
def rm_X3_moveColumn : Room := { frames := 1, cells := 0, slots := 0, locals := 24 }
set_option maxRecDepth 100000 in
set_option maxHeartbeats 4000000 in
theorem c_X3_moveColumn (l : Launch) (G : gG) (a b : Nat) (f : Nat → Int32) (x y : Nat)  (hx : x < 40) (hy : y < 40) : CT l yX3_moveColumn cX3_moveColumn 5 none rm_X3_moveColumn G [.ref a, .int (nI x), .int (nI y), .int (nI 3)] (wT G a b 40 120 f) none (fun _ => (wT G a b 40 120 (mvC f 40 x y 3))) := by
  refine gMet (by decide) (Nat.le_of_ble_eq_true rfl) (fun X hX C hr hin E => ?_)
  clear hX
  refine (show gW G X (wT G a b 40 120 f) 0 0 0 [(0, .ref a), (1, .int (nI x)), (2, .int (nI y)), (3, .int (nI 3))] [] from ?_)
  refine x_iconst (v := (nI 0)) C dX3_moveColumn_0 (by decide) ?_
  refine x_istore (lv' := [(4, .int (nI 0)), (0, .ref a), (1, .int (nI x)), (2, .int (nI y)), (3, .int (nI 3))]) C dX3_moveColumn_1 (by decide) rfl ?_
  have L1 : ∀ (fu : Nat) (i : Nat) (g : Nat → Int32), i + fu = 3 → g = mvC f 40 x y i → gW G X (wT G a b 40 120 g) 0 0 3 [(4, .int (nI i)), (0, .ref a), (1, .int (nI x)), (2, .int (nI y)), (3, .int (nI 3))] [] := by
    intro fu
    induction fu with
    | zero =>
      intro i g hn hg
      have hi : i = 3 := by omega
      refine x_iload C 0 rfl dX3_moveColumn_3 ?_
      refine x_iload_n C 4 rfl dX3_moveColumn_5 rfl ?_
      refine x_icmp_geN (a := i) (b := 3) (tgt := 29) C dX3_moveColumn_6 (by decide) (by omega) (by omega) (fun c2 => ?_) (fun c2 => False.elim (by omega))
      exact x_vret C hr E dX3_moveColumn_29 (fun _ => 0) (by rw [hg, hi])
    | succ fu ih =>
      intro i g hn hg
      refine x_iload C 0 rfl dX3_moveColumn_3 ?_
      refine x_iload_n C 4 rfl dX3_moveColumn_5 rfl ?_
      refine x_icmp_geN (a := i) (b := 3) (tgt := 29) C dX3_moveColumn_6 (by decide) (by omega) (by omega) (fun c3 => False.elim (by omega)) (fun c3 => ?_)
      refine x_aload_n C 1 rfl dX3_moveColumn_9 rfl ?_
      refine x_iload C 0 rfl dX3_moveColumn_10 ?_
      refine x_iload_n C 3 rfl dX3_moveColumn_12 rfl ?_
      refine x_aload_n C 1 rfl dX3_moveColumn_13 rfl ?_
      refine x_iload C 0 rfl dX3_moveColumn_14 ?_
      refine x_iload_n C 2 rfl dX3_moveColumn_16 rfl ?_
      refine x_callVd (As := [.int (nI i), .int (nI x)]) (rest := [.int (nI y), .int (nI i), .ref a]) C dX3_moveColumn_17 (c_X3_at (gX.l X) G a b 40 120 g i x (i * 40 + x) (by omega) (by omega) (by omega) (by omega) (by omega)) ml_X3_17 im_X3_at sl_X3_at in_X3 cd_X3_at hd_X3_at 0 rfl rfl rfl rfl (Nat.le_of_ble_eq_true rfl) ⟨Nat.le_of_ble_eq_true rfl, Nat.le_of_ble_eq_true rfl⟩ (List.take 0 (wT G a b 40 120 g)) (List.drop 2 (wT G a b 40 120 g)) rfl (ws' := (wT G a b 40 120 g)) rfl (st' := [.int (g (i * 40 + x)), .int (nI y), .int (nI i), .ref a]) rfl ⟨rfl, rfl⟩ ⟨Nat.le_of_ble_eq_true rfl, Nat.le_of_ble_eq_true rfl⟩ ?_
      refine x_callVd (As := [.int (nI i), .int (nI y), .int (g (i * 40 + x))]) (rest := []) C dX3_moveColumn_20 (c_X3_put (gX.l X) G a b 40 120 g i y (i * 40 + y) (g (i * 40 + x)) (by omega) (by omega) (by omega) (by omega) (by omega)) ml_X3_21 im_X3_put sl_X3_put in_X3 cd_X3_put hd_X3_put 0 rfl rfl rfl rfl (Nat.le_of_ble_eq_true rfl) ⟨Nat.le_of_ble_eq_true rfl, Nat.le_of_ble_eq_true rfl⟩ (List.take 0 (wT G a b 40 120 g)) (List.drop 2 (wT G a b 40 120 g)) rfl (ws' := (wT G a b 40 120 (upd g (i * 40 + y) (g (i * 40 + x))))) rfl (st' := []) rfl ⟨rfl, rfl⟩ ⟨Nat.le_of_ble_eq_true rfl, Nat.le_of_ble_eq_true rfl⟩ ?_
      refine x_iinc (v := (nI (i + 1))) (lv' := [(4, .int (nI (i + 1))), (0, .ref a), (1, .int (nI x)), (2, .int (nI y)), (3, .int (nI 3))]) C 0 rfl dX3_moveColumn_23 (by rw [show Int32.ofInt 1 = nI 1 from rfl]; exact nI_add _ _) (by decide) rfl ?_
      refine x_goto (tgt := 3) C dX3_moveColumn_26 (by decide) ?_
      exact ih (i + 1) (upd g (i * 40 + y) (g (i * 40 + x))) (by omega) (by rw [hg]; rfl)
  exact L1 3 0 f (by omega) (by rfl)
end
section
/-- a Stable's cells: the object, and five tables -/
def wS (G : gG) (a : Nat → Nat) (ti : Nat) (se ho ri bo : Nat → Int32) (bc : Nat) (fs : Nat → Int32) (fc : Nat) : va_W := (a 0, .inr (2, [.int (nI ti), .ref (a 1), .ref (a 3), .ref (a 5), .ref (a 7), .int (nI bc), .ref (a 9), .int (nI fc)])) :: (wT G (a 1) (a 2) 5 5 se ++ (wT G (a 3) (a 4) 10 90 ho ++ (wT G (a 5) (a 6) 12 120 ri ++ (wT G (a 7) (a 8) 40 120 bo ++ wT G (a 9) (a 10) 20 60 fs))))
/-! what the methods of Stable do, on the numbers of their tables -/
def nC (x : Int32) : Nat := x.toNatClampNeg
def okH (f : Int32) : Prop := f = -5 ∨ (nC f < 10 ∧ f = nI (nC f))
def c_abil (ri : Nat → Int32) (r : Nat) : Int32 := mxI 0 (ri (12 + r) - ri (24 + r))
def c_hind (se ho ri : Nat → Int32) (h r : Nat) (fa : Int32) : Int32 := if 0 < ho (50 + h) then 1 else if nI h = fa then 2 else if ¬ ho (30 + h) < se 1 then 3 else if ¬ ho (20 + h) < se 0 then 4 else if ho h < ri r then 5 else 0
abbrev c_there (se : Nat → Int32) (t : Nat) : Prop := 0 < se 4 ∧ iR (nI (t / 10)) (se 4) = 0
def c_farL (ho : Nat → Int32) : Nat → Int32 × Int32
  | 0 => (0, -5)
  | h + 1 => if (c_farL ho h).1 < ho (30 + h) then (ho (30 + h), nI h) else c_farL ho h
def c_far (se ho : Nat → Int32) (t : Nat) : Int32 := if c_there se t then (c_farL ho 10).2 else -5
abbrev c_better (ho : Nat → Int32) (x y : Nat) (ab : Int32) : Prop := (¬ ab < ho (10 + x) ∧ ab < ho (10 + y)) ∨ ((ab < ho (10 + x) ↔ ab < ho (10 + y)) ∧ (ho (20 + x) - ho (20 + y) < 0 ∨ (ho (20 + x) - ho (20 + y) = 0 ∧ ho x - ho y < 0)))
abbrev c_in (tk : Int32) (h : Nat) : Int32 := (tk >>> (nI h &&& 31)) &&& 1
def c_bestS (se ho ri : Nat → Int32) (r : Nat) (fa tk : Int32) (h : Nat) (f : Int32) : Int32 := if ¬ c_in tk h = 0 then f else if ¬ c_hind se ho ri h r fa = 0 then f else if f = -5 then nI h else if c_better ho h (nC f) (c_abil ri r) then nI h else f
def c_bestL (se ho ri : Nat → Int32) (r : Nat) (fa tk : Int32) : Nat → Int32
  | 0 => -5
  | h + 1 => c_bestS se ho ri r fa tk h (c_bestL se ho ri r fa tk h)
def c_best (se ho ri : Nat → Int32) (r : Nat) (fa tk : Int32) : Int32 := c_bestL se ho ri r fa tk 10
def c_lame (ho : Nat → Int32) : Nat → Int32
  | 0 => 0
  | h + 1 => c_lame ho h + bI (0 < ho (50 + h))
abbrev c_isB (bo : Nat → Int32) (tm : Int32) (i : Nat) : Prop := bo i = tm
abbrev c_isBR (bo : Nat → Int32) (tm rg : Int32) (i : Nat) : Prop := (bo i = tm) ∧ (bo (40 + i) = rg)
def c_findR (bo : Nat → Int32) (tm r : Int32) : Nat → Nat → Int32
  | 0, _ => -5
  | n + 1, i => if bo i = tm then (if bo (80 + i) = r then nI i else c_findR bo tm r n (i + 1)) else c_findR bo tm r n (i + 1)
def c_find (bo : Nat → Int32) (bc : Nat) (tm r : Int32) : Int32 := c_findR bo tm r bc 0
def c_bf (bo : Nat → Int32) (tm rg : Int32) : Nat → Int32
  | 0 => 0
  | i + 1 => c_bf bo tm rg i + bI (c_isBR bo tm rg i)
def c_ball (bo : Nat → Int32) (tm : Int32) : Nat → Int32
  | 0 => 0
  | i + 1 => c_ball bo tm i + bI (bo i = tm)
def c_set (bo : Nat → Int32) (tm rg : Int32) : Nat → Int32
  | 0 => 0
  | i + 1 => if c_isBR bo tm rg i then c_set bo tm rg i ||| ((1 : Int32) <<< (bo (80 + i) &&& 31)) else c_set bo tm rg i
def c_bof (bo : Nat → Int32) (r : Int32) : Nat → Int32
  | 0 => 0
  | i + 1 => c_bof bo r i + bI (bo (80 + i) = r)
def c_bErr (bo : Nat → Int32) (bc : Nat) (tm : Int32) (rg r : Nat) : Int32 := if c_find bo bc tm (nI r) = -5 then (if c_bf bo tm (nI rg) bc < sT 0 rg then (if bc < 40 then 0 else -3) else -3) else -4
def c_rmR : Nat → Nat → (Nat → Int32) → Nat → Int32
  | 0, _, f => f
  | n + 1, i, f => c_rmR n (i + 1) (mvC f 40 i (i - 1) 3)
def c_addB (bo : Nat → Int32) (bc : Nat) (tm rg r : Int32) : Nat → Int32 := upd (upd (upd bo bc tm) (40 + bc) rg) (80 + bc) r
def c_ofFall (fs : Nat → Int32) (fc : Nat) (rk w : Nat) : Int32 := if rk < min fc 20 then fs (w * 20 + (fc - 1 - rk) % 20) else -5
def c_fallRi (ri : Nat → Int32) (r : Nat) : Nat → Int32 :=
  let a := upd ri (24 + r) (mnI 9 (ri (24 + r) + 1))
  let b := upd a (48 + r) 0
  upd b (72 + r) (b (72 + r) + 1)
def c_fallHo (ho : Nat → Int32) (h : Nat) : Nat → Int32 := upd ho (70 + h) (ho (70 + h) + 1)
def c_fallFs (fs : Nat → Int32) (fc t r h : Nat) : Nat → Int32 := upd (upd (upd fs (fc % 20) (nI t)) (20 + fc % 20) (nI r)) (40 + fc % 20) (nI h)
def c_lea1 (ri : Nat → Int32) (r : Nat) : Nat → Int32 :=
  let a := upd ri (24 + r) (mxI 0 (ri (24 + r) - 1))
  upd a (48 + r) (a (48 + r) + 1)
def c_learn (ri : Nat → Int32) (r : Nat) : Nat → Int32 := if iR (c_lea1 ri r (48 + r)) 3 = 0 then upd (c_lea1 ri r) (12 + r) (mnI 9 (c_lea1 ri r (12 + r) + 1)) else c_lea1 ri r
def c_str1 (ho : Nat → Int32) (h : Nat) : Nat → Int32 := upd ho (40 + h) (ho (40 + h) + 1)
theorem c_better_same {ho : Nat → Int32} {x y : Nat} {ab : Int32} (h : bI (¬ ab < ho (10 + x)) = bI (¬ ab < ho (10 + y))) : bI ((ho (20 + x) - ho (20 + y) < 0) ∨ ((ho (20 + x) - ho (20 + y) = 0) ∧ (ho x - ho y < 0))) = bI (c_better ho x y ab) := by
  refine bI_iff ?_
  unfold c_better
  by_cases h1 : ab < ho (10 + x) <;> by_cases h2 : ab < ho (10 + y)
  · simp only [h1, h2, not_true_eq_false, false_and, false_or, true_and]
  · simp [bI, h1, h2] at h
  · simp [bI, h1, h2] at h
  · simp only [h1, h2, not_false_eq_true, and_false, false_or, true_and]
theorem c_better_diff {ho : Nat → Int32} {x y : Nat} {ab : Int32} (h : ¬ bI (¬ ab < ho (10 + x)) = bI (¬ ab < ho (10 + y))) : bI (¬ ab < ho (10 + x)) = bI (c_better ho x y ab) := by
  refine bI_iff ?_
  unfold c_better
  by_cases h1 : ab < ho (10 + x) <;> by_cases h2 : ab < ho (10 + y)
  · simp [bI, h1, h2] at h
  · simp only [h1, h2, not_true_eq_false, false_and, false_or, iff_false, not_false_eq_true]
  · simp only [h1, h2, not_false_eq_true, true_and, true_or]
  · simp [bI, h1, h2] at h
def c_strain (se ho : Nat → Int32) (h : Nat) (w : Int32) : Nat → Int32 := if ho h < w + se 2 then (if c_str1 ho h (40 + h) < 3 then c_str1 ho h else upd (upd (c_str1 ho h) (50 + h) (se 3)) (40 + h) 0) else ho
def rm_X3_copyFrom : Room := { frames := 1, cells := 0, slots := 0, locals := 40 }
set_option maxRecDepth 100000 in
set_option maxHeartbeats 4000000 in
theorem c_X3_copyFrom (l : Launch) (G : gG) (a b c d w n : Nat) (f g : Nat → Int32)  (hn : n < 2 ^ 31) : CT l yX3_copyFrom cX3_copyFrom 2 none rm_X3_copyFrom G [.ref a, .ref c] (wT G a b w n f ++ wT G c d w n g) none (fun _ => (wT G a b w n g ++ wT G c d w n g)) := by
  refine gMet (by decide) (Nat.le_of_ble_eq_true rfl) (fun X hX C hr hin E => ?_)
  clear hX
  refine (show gW G X (wT G a b w n f ++ wT G c d w n g) 0 0 0 [(0, .ref a), (1, .ref c)] [] from ?_)
  refine x_aload_n C 1 rfl dX3_copyFrom_0 rfl ?_
  refine x_get (k := 1) (v := .ref d) C dX3_copyFrom_1 layX3 fl_X3_13 2 rfl rfl (by decide) rfl ?_
  refine x_alenI C dX3_copyFrom_4 3 rfl ?_
  refine x_aload_n C 0 rfl dX3_copyFrom_5 rfl ?_
  refine x_get (k := 1) (v := .ref b) C dX3_copyFrom_6 layX3 fl_X3_13 0 rfl rfl (by decide) rfl ?_
  refine x_alenI C dX3_copyFrom_9 1 rfl ?_
  refine x_icmp_neN (a := n) (b := n) (tgt := 31) C dX3_copyFrom_10 (by decide) (by omega) (by omega) (fun c1 => False.elim (by omega)) (fun c1 => ?_)
  refine x_aload_n C 1 rfl dX3_copyFrom_13 rfl ?_
  refine x_get (k := 1) (v := .ref d) C dX3_copyFrom_14 layX3 fl_X3_13 2 rfl rfl (by decide) rfl ?_
  refine x_iconst (v := (nI 0)) C dX3_copyFrom_17 (by decide) ?_
  refine x_aload_n C 0 rfl dX3_copyFrom_18 rfl ?_
  refine x_get (k := 1) (v := .ref b) C dX3_copyFrom_19 layX3 fl_X3_13 0 rfl rfl (by decide) rfl ?_
  refine x_iconst (v := (nI 0)) C dX3_copyFrom_22 (by decide) ?_
  refine x_aload_n C 0 rfl dX3_copyFrom_23 rfl ?_
  refine x_get (k := 1) (v := .ref b) C dX3_copyFrom_24 layX3 fl_X3_13 0 rfl rfl (by decide) rfl ?_
  refine x_alenI C dX3_copyFrom_27 1 rfl ?_
  refine x_copy C dX3_copyFrom_28 ml_X3_33 na_System_arraycopy st_System_arraycopy in_J10 3 1 rfl rfl (by omega) (Nat.le_of_ble_eq_true rfl) (Nat.le_of_ble_eq_true rfl) (ws' := (wT G a b w n g ++ wT G c d w n g)) rfl ?_
  exact x_vret C hr E dX3_copyFrom_31 (fun _ => 0) rfl
def rm_X5_entry : Room := { frames := 0, cells := 0, slots := 0, locals := 0 }
set_option maxRecDepth 100000 in
set_option maxHeartbeats 4000000 in
theorem c_X5_entry0 (l : Launch) (G : gG) (j : Nat)  (hj : j < 3) : CT l yX5_entry cX5_entry 2 (some .int) rm_X5_entry G [.ref (G.2.2 0), .int (nI j)] [] (some (.int (sT 0 j))) (fun _ => []) := by
  refine gMet (by decide) (Nat.le_of_ble_eq_true rfl) (fun X hX C hr hin E => ?_)
  clear hX
  refine (show gW G X [] 0 0 0 [(0, .ref (G.2.2 0)), (1, .int (nI j))] [] from ?_)
  refine x_iload_n C 1 rfl dX5_entry_0 rfl ?_
  refine x_if_ltN (a := j) (tgt := 16) C dX5_entry_1 (by decide) (by omega) (fun c1 => False.elim (by omega)) (fun c1 => ?_)
  refine x_iload_n C 1 rfl dX5_entry_4 rfl ?_
  refine x_aload_n C 0 rfl dX5_entry_5 rfl ?_
  refine x_tlen0 C dX5_entry_6 ?_
  refine x_icmp_geN (a := j) (b := 3) (tgt := 16) C dX5_entry_7 (by decide) (by omega) (by omega) (fun c2 => False.elim (by omega)) (fun c2 => ?_)
  refine x_aload_n C 0 rfl dX5_entry_10 rfl ?_
  refine x_iload_n C 1 rfl dX5_entry_11 rfl ?_
  refine x_ti0 C dX5_entry_12 rfl (by omega) ?_
  refine x_goto (tgt := 17) C dX5_entry_13 (by decide) ?_
  exact x_iret C hr E dX5_entry_17 (fun _ => 0) rfl rfl
set_option maxRecDepth 100000 in
set_option maxHeartbeats 4000000 in
theorem c_X5_entry1 (l : Launch) (G : gG) (j : Nat)  (hj : j < 5) : CT l yX5_entry cX5_entry 2 (some .int) rm_X5_entry G [.ref (G.2.2 1), .int (nI j)] [] (some (.int (sT 1 j))) (fun _ => []) := by
  refine gMet (by decide) (Nat.le_of_ble_eq_true rfl) (fun X hX C hr hin E => ?_)
  clear hX
  refine (show gW G X [] 0 0 0 [(0, .ref (G.2.2 1)), (1, .int (nI j))] [] from ?_)
  refine x_iload_n C 1 rfl dX5_entry_0 rfl ?_
  refine x_if_ltN (a := j) (tgt := 16) C dX5_entry_1 (by decide) (by omega) (fun c1 => False.elim (by omega)) (fun c1 => ?_)
  refine x_iload_n C 1 rfl dX5_entry_4 rfl ?_
  refine x_aload_n C 0 rfl dX5_entry_5 rfl ?_
  refine x_tlen1 C dX5_entry_6 ?_
  refine x_icmp_geN (a := j) (b := 5) (tgt := 16) C dX5_entry_7 (by decide) (by omega) (by omega) (fun c2 => False.elim (by omega)) (fun c2 => ?_)
  refine x_aload_n C 0 rfl dX5_entry_10 rfl ?_
  refine x_iload_n C 1 rfl dX5_entry_11 rfl ?_
  refine x_ti1 C dX5_entry_12 rfl (by omega) ?_
  refine x_goto (tgt := 17) C dX5_entry_13 (by decide) ?_
  exact x_iret C hr E dX5_entry_17 (fun _ => 0) rfl rfl
set_option maxRecDepth 100000 in
set_option maxHeartbeats 4000000 in
theorem c_X5_entry2 (l : Launch) (G : gG) (j : Nat)  (hj : j < 5) : CT l yX5_entry cX5_entry 2 (some .int) rm_X5_entry G [.ref (G.2.2 2), .int (nI j)] [] (some (.int (sT 2 j))) (fun _ => []) := by
  refine gMet (by decide) (Nat.le_of_ble_eq_true rfl) (fun X hX C hr hin E => ?_)
  clear hX
  refine (show gW G X [] 0 0 0 [(0, .ref (G.2.2 2)), (1, .int (nI j))] [] from ?_)
  refine x_iload_n C 1 rfl dX5_entry_0 rfl ?_
  refine x_if_ltN (a := j) (tgt := 16) C dX5_entry_1 (by decide) (by omega) (fun c1 => False.elim (by omega)) (fun c1 => ?_)
  refine x_iload_n C 1 rfl dX5_entry_4 rfl ?_
  refine x_aload_n C 0 rfl dX5_entry_5 rfl ?_
  refine x_tlen2 C dX5_entry_6 ?_
  refine x_icmp_geN (a := j) (b := 5) (tgt := 16) C dX5_entry_7 (by decide) (by omega) (by omega) (fun c2 => False.elim (by omega)) (fun c2 => ?_)
  refine x_aload_n C 0 rfl dX5_entry_10 rfl ?_
  refine x_iload_n C 1 rfl dX5_entry_11 rfl ?_
  refine x_ti2 C dX5_entry_12 rfl (by omega) ?_
  refine x_goto (tgt := 17) C dX5_entry_13 (by decide) ?_
  exact x_iret C hr E dX5_entry_17 (fun _ => 0) rfl rfl
set_option maxRecDepth 100000 in
set_option maxHeartbeats 4000000 in
theorem c_X5_entry3 (l : Launch) (G : gG) (j : Nat)  (hj : j < 5) : CT l yX5_entry cX5_entry 2 (some .int) rm_X5_entry G [.ref (G.2.2 3), .int (nI j)] [] (some (.int (sT 3 j))) (fun _ => []) := by
  refine gMet (by decide) (Nat.le_of_ble_eq_true rfl) (fun X hX C hr hin E => ?_)
  clear hX
  refine (show gW G X [] 0 0 0 [(0, .ref (G.2.2 3)), (1, .int (nI j))] [] from ?_)
  refine x_iload_n C 1 rfl dX5_entry_0 rfl ?_
  refine x_if_ltN (a := j) (tgt := 16) C dX5_entry_1 (by decide) (by omega) (fun c1 => False.elim (by omega)) (fun c1 => ?_)
  refine x_iload_n C 1 rfl dX5_entry_4 rfl ?_
  refine x_aload_n C 0 rfl dX5_entry_5 rfl ?_
  refine x_tlen3 C dX5_entry_6 ?_
  refine x_icmp_geN (a := j) (b := 5) (tgt := 16) C dX5_entry_7 (by decide) (by omega) (by omega) (fun c2 => False.elim (by omega)) (fun c2 => ?_)
  refine x_aload_n C 0 rfl dX5_entry_10 rfl ?_
  refine x_iload_n C 1 rfl dX5_entry_11 rfl ?_
  refine x_ti3 C dX5_entry_12 rfl (by omega) ?_
  refine x_goto (tgt := 17) C dX5_entry_13 (by decide) ?_
  exact x_iret C hr E dX5_entry_17 (fun _ => 0) rfl rfl
set_option maxRecDepth 100000 in
set_option maxHeartbeats 4000000 in
theorem c_X5_entry4 (l : Launch) (G : gG) (j : Nat)  (hj : j < 4) : CT l yX5_entry cX5_entry 2 (some .int) rm_X5_entry G [.ref (G.2.2 4), .int (nI j)] [] (some (.int (sT 4 j))) (fun _ => []) := by
  refine gMet (by decide) (Nat.le_of_ble_eq_true rfl) (fun X hX C hr hin E => ?_)
  clear hX
  refine (show gW G X [] 0 0 0 [(0, .ref (G.2.2 4)), (1, .int (nI j))] [] from ?_)
  refine x_iload_n C 1 rfl dX5_entry_0 rfl ?_
  refine x_if_ltN (a := j) (tgt := 16) C dX5_entry_1 (by decide) (by omega) (fun c1 => False.elim (by omega)) (fun c1 => ?_)
  refine x_iload_n C 1 rfl dX5_entry_4 rfl ?_
  refine x_aload_n C 0 rfl dX5_entry_5 rfl ?_
  refine x_tlen4 C dX5_entry_6 ?_
  refine x_icmp_geN (a := j) (b := 4) (tgt := 16) C dX5_entry_7 (by decide) (by omega) (by omega) (fun c2 => False.elim (by omega)) (fun c2 => ?_)
  refine x_aload_n C 0 rfl dX5_entry_10 rfl ?_
  refine x_iload_n C 1 rfl dX5_entry_11 rfl ?_
  refine x_ti4 C dX5_entry_12 rfl (by omega) ?_
  refine x_goto (tgt := 17) C dX5_entry_13 (by decide) ?_
  exact x_iret C hr E dX5_entry_17 (fun _ => 0) rfl rfl
def rm_X5_isOutside : Room := { frames := 0, cells := 0, slots := 0, locals := 0 }
set_option maxRecDepth 100000 in
set_option maxHeartbeats 4000000 in
theorem c_X5_isOutside (l : Launch) (G : gG) (v lo hi : Int32)  : CT l yX5_isOutside cX5_isOutside 3 (some .boolean) rm_X5_isOutside G [.int v, .int lo, .int hi] [] (some (.int (bI ((v < lo) ∨ (hi < v))))) (fun _ => []) := by
  refine gMet (by decide) (Nat.le_of_ble_eq_true rfl) (fun X hX C hr hin E => ?_)
  clear hX
  refine (show gW G X [] 0 0 0 [(0, .int v), (1, .int lo), (2, .int hi)] [] from ?_)
  refine x_iload_n C 0 rfl dX5_isOutside_0 rfl ?_
  refine x_iload_n C 1 rfl dX5_isOutside_1 rfl ?_
  have J3 : ∀ (y4 : Int32) , y4 = bI ((v < lo) ∨ (hi < v)) → gW G X [] 0 0 15 [(0, .int v), (1, .int lo), (2, .int hi)] [.int y4] := by
    intro y4 ey4
    subst ey4
    exact x_zret C hr bI_nar E dX5_isOutside_15 (fun _ => 0) rfl rfl
  refine x_icmp_lt (x := v) (y := lo) (tgt := 10) C dX5_isOutside_2 (by decide) (fun c1 => ?_) (fun c1 => ?_)
  · refine x_iconst (v := (nI 1)) C dX5_isOutside_10 (by decide) ?_
    refine x_goto (tgt := 15) C dX5_isOutside_11 (by decide) ?_
    exact J3 (nI 1) (bI_t (by simp only [c1, if_true, if_false, ite_true, ite_false, and_true, true_and, and_false, false_and, or_true, true_or, or_false, false_or, not_true_eq_false, not_false_eq_true, and_self, or_self] <;> decide)).symm
  · refine x_iload_n C 0 rfl dX5_isOutside_5 rfl ?_
    refine x_iload_n C 2 rfl dX5_isOutside_6 rfl ?_
    refine x_icmp_le (x := v) (y := hi) (tgt := 14) C dX5_isOutside_7 (by decide) (fun c2 => ?_) (fun c2 => ?_)
    · refine x_iconst (v := (nI 0)) C dX5_isOutside_14 (by decide) ?_
      exact J3 (nI 0) (bI_f (by simp only [c1, c2, if_true, if_false, ite_true, ite_false, and_true, true_and, and_false, false_and, or_true, true_or, or_false, false_or, not_true_eq_false, not_false_eq_true, and_self, or_self] <;> decide)).symm
    · refine x_iconst (v := (nI 1)) C dX5_isOutside_10 (by decide) ?_
      refine x_goto (tgt := 15) C dX5_isOutside_11 (by decide) ?_
      exact J3 (nI 1) (bI_t (by simp only [c1, c2, if_true, if_false, ite_true, ite_false, and_true, true_and, and_false, false_and, or_true, true_or, or_false, false_or, not_true_eq_false, not_false_eq_true, and_self, or_self] <;> decide)).symm
def rm_X2_time : Room := { frames := 0, cells := 0, slots := 0, locals := 0 }
set_option maxRecDepth 100000 in
set_option maxHeartbeats 4000000 in
theorem c_X2_time (l : Launch) (G : gG) (a : Nat → Nat) (ti : Nat) (se ho ri bo : Nat → Int32) (bc : Nat) (fs : Nat → Int32) (fc : Nat)  : CT l yX2_time cX2_time 1 (some .int) rm_X2_time G [.ref (a 0)] (wS G a ti se ho ri bo bc fs fc) (some (.int (nI ti))) (fun _ => (wS G a ti se ho ri bo bc fs fc)) := by
  refine gMet (by decide) (Nat.le_of_ble_eq_true rfl) (fun X hX C hr hin E => ?_)
  clear hX
  refine (show gW G X (wS G a ti se ho ri bo bc fs fc) 0 0 0 [(0, .ref (a 0))] [] from ?_)
  refine x_aload_n C 0 rfl dX2_time_0 rfl ?_
  refine x_get (k := 0) (v := .int (nI ti)) C dX2_time_1 layX2 fl_X2_44 0 rfl rfl (by decide) rfl ?_
  exact x_iret C hr E dX2_time_4 (fun _ => 0) rfl rfl
def rm_X2_bookingsWaiting : Room := { frames := 0, cells := 0, slots := 0, locals := 0 }
set_option maxRecDepth 100000 in
set_option maxHeartbeats 4000000 in
theorem c_X2_bookingsWaiting (l : Launch) (G : gG) (a : Nat → Nat) (ti : Nat) (se ho ri bo : Nat → Int32) (bc : Nat) (fs : Nat → Int32) (fc : Nat)  : CT l yX2_bookingsWaiting cX2_bookingsWaiting 1 (some .int) rm_X2_bookingsWaiting G [.ref (a 0)] (wS G a ti se ho ri bo bc fs fc) (some (.int (nI bc))) (fun _ => (wS G a ti se ho ri bo bc fs fc)) := by
  refine gMet (by decide) (Nat.le_of_ble_eq_true rfl) (fun X hX C hr hin E => ?_)
  clear hX
  refine (show gW G X (wS G a ti se ho ri bo bc fs fc) 0 0 0 [(0, .ref (a 0))] [] from ?_)
  refine x_aload_n C 0 rfl dX2_bookingsWaiting_0 rfl ?_
  refine x_get (k := 5) (v := .int (nI bc)) C dX2_bookingsWaiting_1 layX2 fl_X2_52 0 rfl rfl (by decide) rfl ?_
  exact x_iret C hr E dX2_bookingsWaiting_4 (fun _ => 0) rfl rfl
def rm_X2_fallsSoFar : Room := { frames := 0, cells := 0, slots := 0, locals := 0 }
set_option maxRecDepth 100000 in
set_option maxHeartbeats 4000000 in
theorem c_X2_fallsSoFar (l : Launch) (G : gG) (a : Nat → Nat) (ti : Nat) (se ho ri bo : Nat → Int32) (bc : Nat) (fs : Nat → Int32) (fc : Nat)  : CT l yX2_fallsSoFar cX2_fallsSoFar 1 (some .int) rm_X2_fallsSoFar G [.ref (a 0)] (wS G a ti se ho ri bo bc fs fc) (some (.int (nI fc))) (fun _ => (wS G a ti se ho ri bo bc fs fc)) := by
  refine gMet (by decide) (Nat.le_of_ble_eq_true rfl) (fun X hX C hr hin E => ?_)
  clear hX
  refine (show gW G X (wS G a ti se ho ri bo bc fs fc) 0 0 0 [(0, .ref (a 0))] [] from ?_)
  refine x_aload_n C 0 rfl dX2_fallsSoFar_0 rfl ?_
  refine x_get (k := 7) (v := .int (nI fc)) C dX2_fallsSoFar_1 layX2 fl_X2_55 0 rfl rfl (by decide) rfl ?_
  exact x_iret C hr E dX2_fallsSoFar_4 (fun _ => 0) rfl rfl
def rm_X2_setting : Room := { frames := 1, cells := 0, slots := 0, locals := 23 }
set_option maxRecDepth 100000 in
set_option maxHeartbeats 4000000 in
theorem c_X2_setting (l : Launch) (G : gG) (a : Nat → Nat) (ti : Nat) (se ho ri bo : Nat → Int32) (bc : Nat) (fs : Nat → Int32) (fc : Nat) (k : Nat)  (hk : k < 5) : CT l yX2_setting cX2_setting 2 (some .int) rm_X2_setting G [.ref (a 0), .int (nI k)] (wS G a ti se ho ri bo bc fs fc) (some (.int (se k))) (fun _ => (wS G a ti se ho ri bo bc fs fc)) := by
  refine gMet (by decide) (Nat.le_of_ble_eq_true rfl) (fun X hX C hr hin E => ?_)
  clear hX
  refine (show gW G X (wS G a ti se ho ri bo bc fs fc) 0 0 0 [(0, .ref (a 0)), (1, .int (nI k))] [] from ?_)
  refine x_aload_n C 0 rfl dX2_setting_0 rfl ?_
  refine x_get (k := 1) (v := .ref (a 1)) C dX2_setting_1 layX2 fl_X2_14 0 rfl rfl (by decide) rfl ?_
  refine x_iconst (v := (nI 0)) C dX2_setting_4 (by decide) ?_
  refine x_iload_n C 1 rfl dX2_setting_5 rfl ?_
  refine x_callVd (As := [.int (nI 0), .int (nI k)]) (rest := []) C dX2_setting_6 (c_X3_at (gX.l X) G (a 1) (a 2) 5 5 se 0 k k (by omega) (by omega) (by omega) (by omega) (by omega)) ml_X2_58 im_X3_at sl_X3_at in_X3 cd_X3_at hd_X3_at 0 rfl rfl rfl rfl (Nat.le_of_ble_eq_true rfl) ⟨Nat.le_of_ble_eq_true rfl, Nat.le_of_ble_eq_true rfl⟩ (List.take 1 (wS G a ti se ho ri bo bc fs fc)) (List.drop 3 (wS G a ti se ho ri bo bc fs fc)) rfl (ws' := (wS G a ti se ho ri bo bc fs fc)) rfl (st' := [.int (se k)]) rfl ⟨rfl, rfl⟩ ⟨Nat.le_of_ble_eq_true rfl, Nat.le_of_ble_eq_true rfl⟩ ?_
  exact x_iret C hr E dX2_setting_9 (fun _ => 0) rfl rfl
def rm_X2_changeSetting : Room := { frames := 1, cells := 0, slots := 0, locals := 24 }
set_option maxRecDepth 100000 in
set_option maxHeartbeats 4000000 in
theorem c_X2_changeSetting (l : Launch) (G : gG) (a : Nat → Nat) (ti : Nat) (se ho ri bo : Nat → Int32) (bc : Nat) (fs : Nat → Int32) (fc : Nat) (k : Nat) (v : Int32)  (hk : k < 5) : CT l yX2_changeSetting cX2_changeSetting 3 none rm_X2_changeSetting G [.ref (a 0), .int (nI k), .int v] (wS G a ti se ho ri bo bc fs fc) none (fun _ => (wS G a ti (upd se k v) ho ri bo bc fs fc)) := by
  refine gMet (by decide) (Nat.le_of_ble_eq_true rfl) (fun X hX C hr hin E => ?_)
  clear hX
  refine (show gW G X (wS G a ti se ho ri bo bc fs fc) 0 0 0 [(0, .ref (a 0)), (1, .int (nI k)), (2, .int v)] [] from ?_)
  refine x_aload_n C 0 rfl dX2_changeSetting_0 rfl ?_
  refine x_get (k := 1) (v := .ref (a 1)) C dX2_changeSetting_1 layX2 fl_X2_14 0 rfl rfl (by decide) rfl ?_
  refine x_iconst (v := (nI 0)) C dX2_changeSetting_4 (by decide) ?_
  refine x_iload_n C 1 rfl dX2_changeSetting_5 rfl ?_
  refine x_iload_n C 2 rfl dX2_changeSetting_6 rfl ?_
  refine x_callVd (As := [.int (nI 0), .int (nI k), .int v]) (rest := []) C dX2_changeSetting_7 (c_X3_put (gX.l X) G (a 1) (a 2) 5 5 se 0 k k v (by omega) (by omega) (by omega) (by omega) (by omega)) ml_X2_40 im_X3_put sl_X3_put in_X3 cd_X3_put hd_X3_put 0 rfl rfl rfl rfl (Nat.le_of_ble_eq_true rfl) ⟨Nat.le_of_ble_eq_true rfl, Nat.le_of_ble_eq_true rfl⟩ (List.take 1 (wS G a ti se ho ri bo bc fs fc)) (List.drop 3 (wS G a ti se ho ri bo bc fs fc)) rfl (ws' := (wS G a ti (upd se k v) ho ri bo bc fs fc)) rfl (st' := []) rfl ⟨rfl, rfl⟩ ⟨Nat.le_of_ble_eq_true rfl, Nat.le_of_ble_eq_true rfl⟩ ?_
  exact x_vret C hr E dX2_changeSetting_10 (fun _ => 0) rfl
def rm_X2_ofHorse : Room := { frames := 1, cells := 0, slots := 0, locals := 23 }
set_option maxRecDepth 100000 in
set_option maxHeartbeats 4000000 in
theorem c_X2_ofHorse (l : Launch) (G : gG) (a : Nat → Nat) (ti : Nat) (se ho ri bo : Nat → Int32) (bc : Nat) (fs : Nat → Int32) (fc : Nat) (h w j : Nat)  (hh : h < 10) (hw : w < 9) (hj : w * 10 + h = j) : CT l yX2_ofHorse cX2_ofHorse 3 (some .int) rm_X2_ofHorse G [.ref (a 0), .int (nI h), .int (nI w)] (wS G a ti se ho ri bo bc fs fc) (some (.int (ho j))) (fun _ => (wS G a ti se ho ri bo bc fs fc)) := by
  refine gMet (by decide) (Nat.le_of_ble_eq_true rfl) (fun X hX C hr hin E => ?_)
  clear hX
  refine (show gW G X (wS G a ti se ho ri bo bc fs fc) 0 0 0 [(0, .ref (a 0)), (1, .int (nI h)), (2, .int (nI w))] [] from ?_)
  refine x_aload_n C 0 rfl dX2_ofHorse_0 rfl ?_
  refine x_get (k := 2) (v := .ref (a 3)) C dX2_ofHorse_1 layX2 fl_X2_20 0 rfl rfl (by decide) rfl ?_
  refine x_iload_n C 2 rfl dX2_ofHorse_4 rfl ?_
  refine x_iload_n C 1 rfl dX2_ofHorse_5 rfl ?_
  refine x_callVd (As := [.int (nI w), .int (nI h)]) (rest := []) C dX2_ofHorse_6 (c_X3_at (gX.l X) G (a 3) (a 4) 10 90 ho w h j (by omega) (by omega) (by omega) (by omega) (by omega)) ml_X2_58 im_X3_at sl_X3_at in_X3 cd_X3_at hd_X3_at 0 rfl rfl rfl rfl (Nat.le_of_ble_eq_true rfl) ⟨Nat.le_of_ble_eq_true rfl, Nat.le_of_ble_eq_true rfl⟩ (List.take 3 (wS G a ti se ho ri bo bc fs fc)) (List.drop 5 (wS G a ti se ho ri bo bc fs fc)) rfl (ws' := (wS G a ti se ho ri bo bc fs fc)) rfl (st' := [.int (ho j)]) rfl ⟨rfl, rfl⟩ ⟨Nat.le_of_ble_eq_true rfl, Nat.le_of_ble_eq_true rfl⟩ ?_
  exact x_iret C hr E dX2_ofHorse_9 (fun _ => 0) rfl rfl
def rm_X2_changeHorse : Room := { frames := 1, cells := 0, slots := 0, locals := 24 }
set_option maxRecDepth 100000 in
set_option maxHeartbeats 4000000 in
theorem c_X2_changeHorse (l : Launch) (G : gG) (a : Nat → Nat) (ti : Nat) (se ho ri bo : Nat → Int32) (bc : Nat) (fs : Nat → Int32) (fc : Nat) (h : Nat) (v w : Int32)  (hh : h < 10) : CT l yX2_changeHorse cX2_changeHorse 4 none rm_X2_changeHorse G [.ref (a 0), .int (nI h), .int v, .int w] (wS G a ti se ho ri bo bc fs fc) none (fun _ => (wS G a ti se (upd (upd ho h v) (10 + h) w) ri bo bc fs fc)) := by
  refine gMet (by decide) (Nat.le_of_ble_eq_true rfl) (fun X hX C hr hin E => ?_)
  clear hX
  refine (show gW G X (wS G a ti se ho ri bo bc fs fc) 0 0 0 [(0, .ref (a 0)), (1, .int (nI h)), (2, .int v), (3, .int w)] [] from ?_)
  refine x_aload_n C 0 rfl dX2_changeHorse_0 rfl ?_
  refine x_get (k := 2) (v := .ref (a 3)) C dX2_changeHorse_1 layX2 fl_X2_20 0 rfl rfl (by decide) rfl ?_
  refine x_iconst (v := (nI 0)) C dX2_changeHorse_4 (by decide) ?_
  refine x_iload_n C 1 rfl dX2_changeHorse_5 rfl ?_
  refine x_iload_n C 2 rfl dX2_changeHorse_6 rfl ?_
  refine x_callVd (As := [.int (nI 0), .int (nI h), .int v]) (rest := []) C dX2_changeHorse_7 (c_X3_put (gX.l X) G (a 3) (a 4) 10 90 ho 0 h h v (by omega) (by omega) (by omega) (by omega) (by omega)) ml_X2_40 im_X3_put sl_X3_put in_X3 cd_X3_put hd_X3_put 0 rfl rfl rfl rfl (Nat.le_of_ble_eq_true rfl) ⟨Nat.le_of_ble_eq_true rfl, Nat.le_of_ble_eq_true rfl⟩ (List.take 3 (wS G a ti se ho ri bo bc fs fc)) (List.drop 5 (wS G a ti se ho ri bo bc fs fc)) rfl (ws' := (wS G a ti se (upd ho h v) ri bo bc fs fc)) rfl (st' := []) rfl ⟨rfl, rfl⟩ ⟨Nat.le_of_ble_eq_true rfl, Nat.le_of_ble_eq_true rfl⟩ ?_
  refine x_aload_n C 0 rfl dX2_changeHorse_10 rfl ?_
  refine x_get (k := 2) (v := .ref (a 3)) C dX2_changeHorse_11 layX2 fl_X2_20 0 rfl rfl (by decide) rfl ?_
  refine x_iconst (v := (nI 1)) C dX2_changeHorse_14 (by decide) ?_
  refine x_iload_n C 1 rfl dX2_changeHorse_15 rfl ?_
  refine x_iload_n C 3 rfl dX2_changeHorse_16 rfl ?_
  refine x_callVd (As := [.int (nI 1), .int (nI h), .int w]) (rest := []) C dX2_changeHorse_17 (c_X3_put (gX.l X) G (a 3) (a 4) 10 90 (upd ho h v) 1 h (10 + h) w (by omega) (by omega) (by omega) (by omega) (by omega)) ml_X2_40 im_X3_put sl_X3_put in_X3 cd_X3_put hd_X3_put 0 rfl rfl rfl rfl (Nat.le_of_ble_eq_true rfl) ⟨Nat.le_of_ble_eq_true rfl, Nat.le_of_ble_eq_true rfl⟩ (List.take 3 (wS G a ti se (upd ho h v) ri bo bc fs fc)) (List.drop 5 (wS G a ti se (upd ho h v) ri bo bc fs fc)) rfl (ws' := (wS G a ti se (upd (upd ho h v) (10 + h) w) ri bo bc fs fc)) rfl (st' := []) rfl ⟨rfl, rfl⟩ ⟨Nat.le_of_ble_eq_true rfl, Nat.le_of_ble_eq_true rfl⟩ ?_
  exact x_vret C hr E dX2_changeHorse_20 (fun _ => 0) rfl
def rm_X2_sumOfHorses : Room := { frames := 2, cells := 0, slots := 0, locals := 46 }
set_option maxRecDepth 100000 in
set_option maxHeartbeats 4000000 in
theorem c_X2_sumOfHorses (l : Launch) (G : gG) (a : Nat → Nat) (ti : Nat) (se ho ri bo : Nat → Int32) (bc : Nat) (fs : Nat → Int32) (fc : Nat) (w : Nat)  (hw : w < 9) : CT l yX2_sumOfHorses cX2_sumOfHorses 2 (some .int) rm_X2_sumOfHorses G [.ref (a 0), .int (nI w)] (wS G a ti se ho ri bo bc fs fc) (some (.int (sumF ho (w * 10) 10))) (fun _ => (wS G a ti se ho ri bo bc fs fc)) := by
  refine gMet (by decide) (Nat.le_of_ble_eq_true rfl) (fun X hX C hr hin E => ?_)
  clear hX
  refine (show gW G X (wS G a ti se ho ri bo bc fs fc) 0 0 0 [(0, .ref (a 0)), (1, .int (nI w))] [] from ?_)
  refine x_aload_n C 0 rfl dX2_sumOfHorses_0 rfl ?_
  refine x_get (k := 2) (v := .ref (a 3)) C dX2_sumOfHorses_1 layX2 fl_X2_20 0 rfl rfl (by decide) rfl ?_
  refine x_iload_n C 1 rfl dX2_sumOfHorses_4 rfl ?_
  refine x_callVd (As := [.int (nI w)]) (rest := []) C dX2_sumOfHorses_5 (c_X3_sum (gX.l X) G (a 3) (a 4) 10 90 ho w (w * 10) (by omega) (by omega) (by omega)) ml_X2_62 im_X3_sum sl_X3_sum in_X3 cd_X3_sum hd_X3_sum 0 rfl rfl rfl rfl (Nat.le_of_ble_eq_true rfl) ⟨Nat.le_of_ble_eq_true rfl, Nat.le_of_ble_eq_true rfl⟩ (List.take 3 (wS G a ti se ho ri bo bc fs fc)) (List.drop 5 (wS G a ti se ho ri bo bc fs fc)) rfl (ws' := (wS G a ti se ho ri bo bc fs fc)) rfl (st' := [.int (sumF ho (w * 10) 10)]) rfl ⟨rfl, rfl⟩ ⟨Nat.le_of_ble_eq_true rfl, Nat.le_of_ble_eq_true rfl⟩ ?_
  exact x_iret C hr E dX2_sumOfHorses_8 (fun _ => 0) rfl rfl
end
section
def rm_X2_sumOfRiders : Room := { frames := 2, cells := 0, slots := 0, locals := 46 }
set_option maxRecDepth 100000 in
set_option maxHeartbeats 4000000 in
theorem c_X2_sumOfRiders (l : Launch) (G : gG) (a : Nat → Nat) (ti : Nat) (se ho ri bo : Nat → Int32) (bc : Nat) (fs : Nat → Int32) (fc : Nat) (w : Nat)  (hw : w < 10) : CT l yX2_sumOfRiders cX2_sumOfRiders 2 (some .int) rm_X2_sumOfRiders G [.ref (a 0), .int (nI w)] (wS G a ti se ho ri bo bc fs fc) (some (.int (sumF ri (w * 12) 12))) (fun _ => (wS G a ti se ho ri bo bc fs fc)) := by
  refine gMet (by decide) (Nat.le_of_ble_eq_true rfl) (fun X hX C hr hin E => ?_)
  clear hX
  refine (show gW G X (wS G a ti se ho ri bo bc fs fc) 0 0 0 [(0, .ref (a 0)), (1, .int (nI w))] [] from ?_)
  refine x_aload_n C 0 rfl dX2_sumOfRiders_0 rfl ?_
  refine x_get (k := 3) (v := .ref (a 5)) C dX2_sumOfRiders_1 layX2 fl_X2_23 0 rfl rfl (by decide) rfl ?_
  refine x_iload_n C 1 rfl dX2_sumOfRiders_4 rfl ?_
  refine x_callVd (As := [.int (nI w)]) (rest := []) C dX2_sumOfRiders_5 (c_X3_sum (gX.l X) G (a 5) (a 6) 12 120 ri w (w * 12) (by omega) (by omega) (by omega)) ml_X2_62 im_X3_sum sl_X3_sum in_X3 cd_X3_sum hd_X3_sum 0 rfl rfl rfl rfl (Nat.le_of_ble_eq_true rfl) ⟨Nat.le_of_ble_eq_true rfl, Nat.le_of_ble_eq_true rfl⟩ (List.take 5 (wS G a ti se ho ri bo bc fs fc)) (List.drop 7 (wS G a ti se ho ri bo bc fs fc)) rfl (ws' := (wS G a ti se ho ri bo bc fs fc)) rfl (st' := [.int (sumF ri (w * 12) 12)]) rfl ⟨rfl, rfl⟩ ⟨Nat.le_of_ble_eq_true rfl, Nat.le_of_ble_eq_true rfl⟩ ?_
  exact x_iret C hr E dX2_sumOfRiders_8 (fun _ => 0) rfl rfl
def rm_X2_lameHorses : Room := { frames := 1, cells := 0, slots := 0, locals := 23 }
set_option maxRecDepth 100000 in
set_option maxHeartbeats 4000000 in
theorem c_X2_lameHorses (l : Launch) (G : gG) (a : Nat → Nat) (ti : Nat) (se ho ri bo : Nat → Int32) (bc : Nat) (fs : Nat → Int32) (fc : Nat)  : CT l yX2_lameHorses cX2_lameHorses 3 (some .int) rm_X2_lameHorses G [.ref (a 0)] (wS G a ti se ho ri bo bc fs fc) (some (.int (c_lame ho 10))) (fun _ => (wS G a ti se ho ri bo bc fs fc)) := by
  refine gMet (by decide) (Nat.le_of_ble_eq_true rfl) (fun X hX C hr hin E => ?_)
  clear hX
  refine (show gW G X (wS G a ti se ho ri bo bc fs fc) 0 0 0 [(0, .ref (a 0))] [] from ?_)
  refine x_iconst (v := (nI 0)) C dX2_lameHorses_0 (by decide) ?_
  refine x_istore_n (lv' := [(1, .int (nI 0)), (0, .ref (a 0))]) C dX2_lameHorses_1 rfl (by decide) rfl ?_
  refine x_iconst (v := (nI 0)) C dX2_lameHorses_2 (by decide) ?_
  refine x_istore_n (lv' := [(2, .int (nI 0)), (1, .int (nI 0)), (0, .ref (a 0))]) C dX2_lameHorses_3 rfl (by decide) rfl ?_
  have L1 : ∀ (fu : Nat) (i : Nat) (acc : Int32), i + fu = 10 → acc = c_lame ho i → gW G X (wS G a ti se ho ri bo bc fs fc) 0 0 4 [(2, .int (nI i)), (1, .int acc), (0, .ref (a 0))] [] := by
    intro fu
    induction fu with
    | zero =>
      intro i acc hn ha
      have hi : i = 10 := by omega
      refine x_iload_n C 0 rfl dX2_lameHorses_4 rfl ?_
      refine x_bipush (v := (nI 10)) C dX2_lameHorses_5 (by decide) ?_
      refine x_icmp_geN (a := i) (b := 10) (tgt := 36) C dX2_lameHorses_7 (by decide) (by omega) (by omega) (fun c2 => ?_) (fun c2 => False.elim (by omega))
      refine x_iload_n C 1 rfl dX2_lameHorses_36 rfl ?_
      exact x_iret C hr E dX2_lameHorses_37 (fun _ => 0) (by rw [ha, hi]) rfl
    | succ fu ih =>
      intro i acc hn ha
      refine x_iload_n C 0 rfl dX2_lameHorses_4 rfl ?_
      refine x_bipush (v := (nI 10)) C dX2_lameHorses_5 (by decide) ?_
      refine x_icmp_geN (a := i) (b := 10) (tgt := 36) C dX2_lameHorses_7 (by decide) (by omega) (by omega) (fun c3 => False.elim (by omega)) (fun c3 => ?_)
      refine x_iload_n C 1 rfl dX2_lameHorses_10 rfl ?_
      refine x_aload_n C 2 rfl dX2_lameHorses_11 rfl ?_
      refine x_get (k := 2) (v := .ref (a 3)) C dX2_lameHorses_12 layX2 fl_X2_20 0 rfl rfl (by decide) rfl ?_
      refine x_iconst (v := (nI 5)) C dX2_lameHorses_15 (by decide) ?_
      refine x_iload_n C 0 rfl dX2_lameHorses_16 rfl ?_
      refine x_callVd (As := [.int (nI 5), .int (nI i)]) (rest := [.int acc]) C dX2_lameHorses_17 (c_X3_at (gX.l X) G (a 3) (a 4) 10 90 ho 5 i (50 + i) (by omega) (by omega) (by omega) (by omega) (by omega)) ml_X2_58 im_X3_at sl_X3_at in_X3 cd_X3_at hd_X3_at 0 rfl rfl rfl rfl (Nat.le_of_ble_eq_true rfl) ⟨Nat.le_of_ble_eq_true rfl, Nat.le_of_ble_eq_true rfl⟩ (List.take 3 (wS G a ti se ho ri bo bc fs fc)) (List.drop 5 (wS G a ti se ho ri bo bc fs fc)) rfl (ws' := (wS G a ti se ho ri bo bc fs fc)) rfl (st' := [.int (ho (50 + i)), .int acc]) rfl ⟨rfl, rfl⟩ ⟨Nat.le_of_ble_eq_true rfl, Nat.le_of_ble_eq_true rfl⟩ ?_
      have J5 : ∀ (y6 : Int32) , y6 = bI (0 < (ho (50 + i))) → gW G X (wS G a ti se ho ri bo bc fs fc) 0 0 28 [(2, .int (nI i)), (1, .int acc), (0, .ref (a 0))] [.int y6, .int acc] := by
        intro y6 ey6
        subst ey6
        refine x_iadd (x := acc) (y := (bI (0 < (ho (50 + i))))) C dX2_lameHorses_28 ?_
        refine x_istore_n (lv' := [(1, .int (acc + (bI (0 < (ho (50 + i)))))), (2, .int (nI i)), (0, .ref (a 0))]) C dX2_lameHorses_29 rfl (by decide) rfl ?_
        refine x_iinc (v := (nI (i + 1))) (lv' := [(2, .int (nI (i + 1))), (1, .int (acc + (bI (0 < (ho (50 + i)))))), (0, .ref (a 0))]) C 1 rfl dX2_lameHorses_30 (by rw [show Int32.ofInt 1 = nI 1 from rfl]; exact nI_add _ _) (by decide) rfl ?_
        refine x_goto (tgt := 4) C dX2_lameHorses_33 (by decide) ?_
        exact ih (i + 1) (acc + (bI (0 < (ho (50 + i))))) (by omega) (by rw [ha]; rfl)
      refine x_if_le (x := (ho (50 + i))) (tgt := 27) C dX2_lameHorses_20 (by decide) (fun c4 => ?_) (fun c4 => ?_)
      · refine x_iconst (v := (nI 0)) C dX2_lameHorses_27 (by decide) ?_
        exact J5 (nI 0) (bI_f (by simp only [c4, if_true, if_false, ite_true, ite_false, and_true, true_and, and_false, false_and, or_true, true_or, or_false, false_or, not_true_eq_false, not_false_eq_true, and_self, or_self] <;> decide)).symm
      · refine x_iconst (v := (nI 1)) C dX2_lameHorses_23 (by decide) ?_
        refine x_goto (tgt := 28) C dX2_lameHorses_24 (by decide) ?_
        exact J5 (nI 1) (bI_t (by simp only [c4, if_true, if_false, ite_true, ite_false, and_true, true_and, and_false, false_and, or_true, true_or, or_false, false_or, not_true_eq_false, not_false_eq_true, and_self, or_self] <;> decide)).symm
  exact L1 10 0 0 (by omega) (by rfl)
def rm_X2_abilityOf : Room := { frames := 1, cells := 0, slots := 0, locals := 23 }
set_option maxRecDepth 100000 in
set_option maxHeartbeats 4000000 in
theorem c_X2_abilityOf (l : Launch) (G : gG) (a : Nat → Nat) (ti : Nat) (se ho ri bo : Nat → Int32) (bc : Nat) (fs : Nat → Int32) (fc : Nat) (r : Nat)  (hr0 : r < 12) : CT l yX2_abilityOf cX2_abilityOf 2 (some .int) rm_X2_abilityOf G [.ref (a 0), .int (nI r)] (wS G a ti se ho ri bo bc fs fc) (some (.int (c_abil ri r))) (fun _ => (wS G a ti se ho ri bo bc fs fc)) := by
  refine gMet (by decide) (Nat.le_of_ble_eq_true rfl) (fun X hX C hr hin E => ?_)
  clear hX
  refine (show gW G X (wS G a ti se ho ri bo bc fs fc) 0 0 0 [(0, .ref (a 0)), (1, .int (nI r))] [] from ?_)
  refine x_iconst (v := (nI 0)) C dX2_abilityOf_0 (by decide) ?_
  refine x_aload_n C 0 rfl dX2_abilityOf_1 rfl ?_
  refine x_get (k := 3) (v := .ref (a 5)) C dX2_abilityOf_2 layX2 fl_X2_23 0 rfl rfl (by decide) rfl ?_
  refine x_iconst (v := (nI 1)) C dX2_abilityOf_5 (by decide) ?_
  refine x_iload_n C 1 rfl dX2_abilityOf_6 rfl ?_
  refine x_callVd (As := [.int (nI 1), .int (nI r)]) (rest := [.int (nI 0)]) C dX2_abilityOf_7 (c_X3_at (gX.l X) G (a 5) (a 6) 12 120 ri 1 r (12 + r) (by omega) (by omega) (by omega) (by omega) (by omega)) ml_X2_58 im_X3_at sl_X3_at in_X3 cd_X3_at hd_X3_at 0 rfl rfl rfl rfl (Nat.le_of_ble_eq_true rfl) ⟨Nat.le_of_ble_eq_true rfl, Nat.le_of_ble_eq_true rfl⟩ (List.take 5 (wS G a ti se ho ri bo bc fs fc)) (List.drop 7 (wS G a ti se ho ri bo bc fs fc)) rfl (ws' := (wS G a ti se ho ri bo bc fs fc)) rfl (st' := [.int (ri (12 + r)), .int (nI 0)]) rfl ⟨rfl, rfl⟩ ⟨Nat.le_of_ble_eq_true rfl, Nat.le_of_ble_eq_true rfl⟩ ?_
  refine x_aload_n C 0 rfl dX2_abilityOf_10 rfl ?_
  refine x_get (k := 3) (v := .ref (a 5)) C dX2_abilityOf_11 layX2 fl_X2_23 0 rfl rfl (by decide) rfl ?_
  refine x_iconst (v := (nI 2)) C dX2_abilityOf_14 (by decide) ?_
  refine x_iload_n C 1 rfl dX2_abilityOf_15 rfl ?_
  refine x_callVd (As := [.int (nI 2), .int (nI r)]) (rest := [.int (ri (12 + r)), .int (nI 0)]) C dX2_abilityOf_16 (c_X3_at (gX.l X) G (a 5) (a 6) 12 120 ri 2 r (24 + r) (by omega) (by omega) (by omega) (by omega) (by omega)) ml_X2_58 im_X3_at sl_X3_at in_X3 cd_X3_at hd_X3_at 0 rfl rfl rfl rfl (Nat.le_of_ble_eq_true rfl) ⟨Nat.le_of_ble_eq_true rfl, Nat.le_of_ble_eq_true rfl⟩ (List.take 5 (wS G a ti se ho ri bo bc fs fc)) (List.drop 7 (wS G a ti se ho ri bo bc fs fc)) rfl (ws' := (wS G a ti se ho ri bo bc fs fc)) rfl (st' := [.int (ri (24 + r)), .int (ri (12 + r)), .int (nI 0)]) rfl ⟨rfl, rfl⟩ ⟨Nat.le_of_ble_eq_true rfl, Nat.le_of_ble_eq_true rfl⟩ ?_
  refine x_isub (x := (ri (12 + r))) (y := (ri (24 + r))) C dX2_abilityOf_19 ?_
  refine x_max (x := 0) (y := ((ri (12 + r)) - (ri (24 + r)))) C dX2_abilityOf_20 ml_X2_72 st_J9_max_7cf53 in_J9 cd_J9_max_7cf53 (Nat.le_of_ble_eq_true rfl) ⟨Nat.le_of_ble_eq_true rfl, Nat.le_of_ble_eq_true rfl⟩ ⟨Nat.le_of_ble_eq_true rfl, Nat.le_of_ble_eq_true rfl⟩ ?_
  exact x_iret C hr E dX2_abilityOf_23 (fun _ => 0) rfl rfl
def rm_X2_ringOfBooking : Room := { frames := 1, cells := 0, slots := 0, locals := 23 }
set_option maxRecDepth 100000 in
set_option maxHeartbeats 4000000 in
theorem c_X2_ringOfBooking (l : Launch) (G : gG) (a : Nat → Nat) (ti : Nat) (se ho ri bo : Nat → Int32) (bc : Nat) (fs : Nat → Int32) (fc : Nat) (i : Nat)  (hi : i < 40) : CT l yX2_ringOfBooking cX2_ringOfBooking 2 (some .int) rm_X2_ringOfBooking G [.ref (a 0), .int (nI i)] (wS G a ti se ho ri bo bc fs fc) (some (.int (bo (40 + i)))) (fun _ => (wS G a ti se ho ri bo bc fs fc)) := by
  refine gMet (by decide) (Nat.le_of_ble_eq_true rfl) (fun X hX C hr hin E => ?_)
  clear hX
  refine (show gW G X (wS G a ti se ho ri bo bc fs fc) 0 0 0 [(0, .ref (a 0)), (1, .int (nI i))] [] from ?_)
  refine x_aload_n C 0 rfl dX2_ringOfBooking_0 rfl ?_
  refine x_get (k := 4) (v := .ref (a 7)) C dX2_ringOfBooking_1 layX2 fl_X2_26 0 rfl rfl (by decide) rfl ?_
  refine x_iconst (v := (nI 1)) C dX2_ringOfBooking_4 (by decide) ?_
  refine x_iload_n C 1 rfl dX2_ringOfBooking_5 rfl ?_
  refine x_callVd (As := [.int (nI 1), .int (nI i)]) (rest := []) C dX2_ringOfBooking_6 (c_X3_at (gX.l X) G (a 7) (a 8) 40 120 bo 1 i (40 + i) (by omega) (by omega) (by omega) (by omega) (by omega)) ml_X2_58 im_X3_at sl_X3_at in_X3 cd_X3_at hd_X3_at 0 rfl rfl rfl rfl (Nat.le_of_ble_eq_true rfl) ⟨Nat.le_of_ble_eq_true rfl, Nat.le_of_ble_eq_true rfl⟩ (List.take 7 (wS G a ti se ho ri bo bc fs fc)) (List.drop 9 (wS G a ti se ho ri bo bc fs fc)) rfl (ws' := (wS G a ti se ho ri bo bc fs fc)) rfl (st' := [.int (bo (40 + i))]) rfl ⟨rfl, rfl⟩ ⟨Nat.le_of_ble_eq_true rfl, Nat.le_of_ble_eq_true rfl⟩ ?_
  exact x_iret C hr E dX2_ringOfBooking_9 (fun _ => 0) rfl rfl
def rm_X2_isBooked : Room := { frames := 1, cells := 0, slots := 0, locals := 23 }
set_option maxRecDepth 100000 in
set_option maxHeartbeats 4000000 in
theorem c_X2_isBooked (l : Launch) (G : gG) (a : Nat → Nat) (ti : Nat) (se ho ri bo : Nat → Int32) (bc : Nat) (fs : Nat → Int32) (fc : Nat) (i h : Nat)  (hi : i < 40) : CT l yX2_isBooked cX2_isBooked 3 (some .boolean) rm_X2_isBooked G [.ref (a 0), .int (nI i), .int (nI h)] (wS G a ti se ho ri bo bc fs fc) (some (.int (bI (bo i = nI (ti + h))))) (fun _ => (wS G a ti se ho ri bo bc fs fc)) := by
  refine gMet (by decide) (Nat.le_of_ble_eq_true rfl) (fun X hX C hr hin E => ?_)
  clear hX
  refine (show gW G X (wS G a ti se ho ri bo bc fs fc) 0 0 0 [(0, .ref (a 0)), (1, .int (nI i)), (2, .int (nI h))] [] from ?_)
  refine x_aload_n C 0 rfl dX2_isBooked_0 rfl ?_
  refine x_get (k := 4) (v := .ref (a 7)) C dX2_isBooked_1 layX2 fl_X2_26 0 rfl rfl (by decide) rfl ?_
  refine x_iconst (v := (nI 0)) C dX2_isBooked_4 (by decide) ?_
  refine x_iload_n C 1 rfl dX2_isBooked_5 rfl ?_
  refine x_callVd (As := [.int (nI 0), .int (nI i)]) (rest := []) C dX2_isBooked_6 (c_X3_at (gX.l X) G (a 7) (a 8) 40 120 bo 0 i i (by omega) (by omega) (by omega) (by omega) (by omega)) ml_X2_58 im_X3_at sl_X3_at in_X3 cd_X3_at hd_X3_at 0 rfl rfl rfl rfl (Nat.le_of_ble_eq_true rfl) ⟨Nat.le_of_ble_eq_true rfl, Nat.le_of_ble_eq_true rfl⟩ (List.take 7 (wS G a ti se ho ri bo bc fs fc)) (List.drop 9 (wS G a ti se ho ri bo bc fs fc)) rfl (ws' := (wS G a ti se ho ri bo bc fs fc)) rfl (st' := [.int (bo i)]) rfl ⟨rfl, rfl⟩ ⟨Nat.le_of_ble_eq_true rfl, Nat.le_of_ble_eq_true rfl⟩ ?_
  refine x_aload_n C 0 rfl dX2_isBooked_9 rfl ?_
  refine x_get (k := 0) (v := .int (nI ti)) C dX2_isBooked_10 layX2 fl_X2_44 0 rfl rfl (by decide) rfl ?_
  refine x_iload_n C 2 rfl dX2_isBooked_13 rfl ?_
  refine x_iaddN C dX2_isBooked_14 ?_
  have J2 : ∀ (y3 : Int32) , y3 = bI ((bo i) = (nI (ti + h))) → gW G X (wS G a ti se ho ri bo bc fs fc) 0 0 23 [(0, .ref (a 0)), (1, .int (nI i)), (2, .int (nI h))] [.int y3] := by
    intro y3 ey3
    subst ey3
    exact x_zret C hr bI_nar E dX2_isBooked_23 (fun _ => 0) (bI_iff (by simp only [if_true, if_false, ite_true, ite_false, and_true, true_and, and_false, false_and, or_true, true_or, or_false, false_or, not_true_eq_false, not_false_eq_true, and_self, or_self] <;> decide)) rfl
  refine x_icmp_ne (x := (bo i)) (y := (nI (ti + h))) (tgt := 22) C dX2_isBooked_15 (by decide) (fun c1 => ?_) (fun c1 => ?_)
  · refine x_iconst (v := (nI 0)) C dX2_isBooked_22 (by decide) ?_
    exact J2 (nI 0) (bI_f (by simp only [c1, if_true, if_false, ite_true, ite_false, and_true, true_and, and_false, false_and, or_true, true_or, or_false, false_or, not_true_eq_false, not_false_eq_true, and_self, or_self] <;> decide)).symm
  · refine x_iconst (v := (nI 1)) C dX2_isBooked_18 (by decide) ?_
    refine x_goto (tgt := 23) C dX2_isBooked_19 (by decide) ?_
    exact J2 (nI 1) (bI_t (by simp only [c1, if_true, if_false, ite_true, ite_false, and_true, true_and, and_false, false_and, or_true, true_or, or_false, false_or, not_true_eq_false, not_false_eq_true, and_self, or_self] <;> decide)).symm
def rm_X2_isBooked_ : Room := { frames := 2, cells := 0, slots := 0, locals := 45 }
set_option maxRecDepth 100000 in
set_option maxHeartbeats 4000000 in
theorem c_X2_isBooked_ (l : Launch) (G : gG) (a : Nat → Nat) (ti : Nat) (se ho ri bo : Nat → Int32) (bc : Nat) (fs : Nat → Int32) (fc : Nat) (i h g : Nat)  (hi : i < 40) : CT l yX2_isBooked_ cX2_isBooked_ 4 (some .boolean) rm_X2_isBooked_ G [.ref (a 0), .int (nI i), .int (nI h), .int (nI g)] (wS G a ti se ho ri bo bc fs fc) (some (.int (bI ((bo i = nI (ti + h)) ∧ (bo (40 + i) = nI g))))) (fun _ => (wS G a ti se ho ri bo bc fs fc)) := by
  refine gMet (by decide) (Nat.le_of_ble_eq_true rfl) (fun X hX C hr hin E => ?_)
  clear hX
  refine (show gW G X (wS G a ti se ho ri bo bc fs fc) 0 0 0 [(0, .ref (a 0)), (1, .int (nI i)), (2, .int (nI h)), (3, .int (nI g))] [] from ?_)
  refine x_aload_n C 0 rfl dX2_isBooked__0 rfl ?_
  refine x_iload_n C 1 rfl dX2_isBooked__1 rfl ?_
  refine x_iload_n C 2 rfl dX2_isBooked__2 rfl ?_
  refine x_callVd (As := [.int (nI i), .int (nI h)]) (rest := []) C dX2_isBooked__3 (c_X2_isBooked (gX.l X) G a ti se ho ri bo bc fs fc i h (by omega)) ml_X2_77 im_X2_isBooked sl_X2_isBooked in_X2 cd_X2_isBooked hd_X2_isBooked 0 rfl rfl rfl rfl (Nat.le_of_ble_eq_true rfl) ⟨Nat.le_of_ble_eq_true rfl, Nat.le_of_ble_eq_true rfl⟩ (List.take 0 (wS G a ti se ho ri bo bc fs fc)) (List.drop 11 (wS G a ti se ho ri bo bc fs fc)) rfl (ws' := (wS G a ti se ho ri bo bc fs fc)) rfl (st' := [.int (bI (bo i = nI (ti + h)))]) rfl ⟨rfl, rfl⟩ ⟨Nat.le_of_ble_eq_true rfl, Nat.le_of_ble_eq_true rfl⟩ ?_
  have J3 : ∀ (y4 : Int32) , y4 = bI ((bo i = nI (ti + h)) ∧ ((bo (40 + i)) = (nI g))) → gW G X (wS G a ti se ho ri bo bc fs fc) 0 0 27 [(0, .ref (a 0)), (1, .int (nI i)), (2, .int (nI h)), (3, .int (nI g))] [.int y4] := by
    intro y4 ey4
    subst ey4
    exact x_zret C hr bI_nar E dX2_isBooked__27 (fun _ => 0) (bI_iff (by simp only [if_true, if_false, ite_true, ite_false, and_true, true_and, and_false, false_and, or_true, true_or, or_false, false_or, not_true_eq_false, not_false_eq_true, and_self, or_self] <;> decide)) rfl
  refine x_if_eqB (P := bo i = nI (ti + h)) (tgt := 26) C dX2_isBooked__6 (by decide) (fun c1 => ?_) (fun c1 => ?_)
  · refine x_iconst (v := (nI 0)) C dX2_isBooked__26 (by decide) ?_
    exact J3 (nI 0) (bI_f (by simp only [c1, if_true, if_false, ite_true, ite_false, and_true, true_and, and_false, false_and, or_true, true_or, or_false, false_or, not_true_eq_false, not_false_eq_true, and_self, or_self] <;> decide)).symm
  · refine x_aload_n C 0 rfl dX2_isBooked__9 rfl ?_
    refine x_get (k := 4) (v := .ref (a 7)) C dX2_isBooked__10 layX2 fl_X2_26 0 rfl rfl (by decide) rfl ?_
    refine x_iconst (v := (nI 1)) C dX2_isBooked__13 (by decide) ?_
    refine x_iload_n C 1 rfl dX2_isBooked__14 rfl ?_
    refine x_callVd (As := [.int (nI 1), .int (nI i)]) (rest := []) C dX2_isBooked__15 (c_X3_at (gX.l X) G (a 7) (a 8) 40 120 bo 1 i (40 + i) (by omega) (by omega) (by omega) (by omega) (by omega)) ml_X2_58 im_X3_at sl_X3_at in_X3 cd_X3_at hd_X3_at 0 rfl rfl rfl rfl (Nat.le_of_ble_eq_true rfl) ⟨Nat.le_of_ble_eq_true rfl, Nat.le_of_ble_eq_true rfl⟩ (List.take 7 (wS G a ti se ho ri bo bc fs fc)) (List.drop 9 (wS G a ti se ho ri bo bc fs fc)) rfl (ws' := (wS G a ti se ho ri bo bc fs fc)) rfl (st' := [.int (bo (40 + i))]) rfl ⟨rfl, rfl⟩ ⟨Nat.le_of_ble_eq_true rfl, Nat.le_of_ble_eq_true rfl⟩ ?_
    refine x_iload_n C 3 rfl dX2_isBooked__18 rfl ?_
    refine x_icmp_ne (x := (bo (40 + i))) (y := (nI g)) (tgt := 26) C dX2_isBooked__19 (by decide) (fun c2 => ?_) (fun c2 => ?_)
    · refine x_iconst (v := (nI 0)) C dX2_isBooked__26 (by decide) ?_
      exact J3 (nI 0) (bI_f (by simp only [c1, c2, if_true, if_false, ite_true, ite_false, and_true, true_and, and_false, false_and, or_true, true_or, or_false, false_or, not_true_eq_false, not_false_eq_true, and_self, or_self] <;> decide)).symm
    · refine x_iconst (v := (nI 1)) C dX2_isBooked__22 (by decide) ?_
      refine x_goto (tgt := 27) C dX2_isBooked__23 (by decide) ?_
      exact J3 (nI 1) (bI_t (by simp only [c1, c2, if_true, if_false, ite_true, ite_false, and_true, true_and, and_false, false_and, or_true, true_or, or_false, false_or, not_true_eq_false, not_false_eq_true, and_self, or_self] <;> decide)).symm
def rm_X2_findBooking : Room := { frames := 2, cells := 0, slots := 0, locals := 45 }
set_option maxRecDepth 100000 in
set_option maxHeartbeats 4000000 in
theorem c_X2_findBooking (l : Launch) (G : gG) (a : Nat → Nat) (ti : Nat) (se ho ri bo : Nat → Int32) (bc : Nat) (fs : Nat → Int32) (fc : Nat) (h r : Nat)  (hbc : bc ≤ 40) : CT l yX2_findBooking cX2_findBooking 4 (some .int) rm_X2_findBooking G [.ref (a 0), .int (nI h), .int (nI r)] (wS G a ti se ho ri bo bc fs fc) (some (.int (c_find bo bc (nI (ti + h)) (nI r)))) (fun _ => (wS G a ti se ho ri bo bc fs fc)) := by
  refine gMet (by decide) (Nat.le_of_ble_eq_true rfl) (fun X hX C hr hin E => ?_)
  clear hX
  refine (show gW G X (wS G a ti se ho ri bo bc fs fc) 0 0 0 [(0, .ref (a 0)), (1, .int (nI h)), (2, .int (nI r))] [] from ?_)
  refine x_iconst (v := (nI 0)) C dX2_findBooking_0 (by decide) ?_
  refine x_istore_n (lv' := [(3, .int (nI 0)), (0, .ref (a 0)), (1, .int (nI h)), (2, .int (nI r))]) C dX2_findBooking_1 rfl (by decide) rfl ?_
  have L1 : ∀ (fu : Nat) (i : Nat), i + fu = bc → c_findR bo (nI (ti + h)) (nI r) fu i = c_find bo bc (nI (ti + h)) (nI r) → gW G X (wS G a ti se ho ri bo bc fs fc) 0 0 2 [(3, .int (nI i)), (0, .ref (a 0)), (1, .int (nI h)), (2, .int (nI r))] [] := by
    intro fu
    induction fu with
    | zero =>
      intro i hn hf
      refine x_iload_n C 0 rfl dX2_findBooking_2 rfl ?_
      refine x_aload_n C 1 rfl dX2_findBooking_3 rfl ?_
      refine x_get (k := 5) (v := .int (nI bc)) C dX2_findBooking_4 layX2 fl_X2_52 0 rfl rfl (by decide) rfl ?_
      refine x_icmp_geN (a := i) (b := bc) (tgt := 40) C dX2_findBooking_7 (by decide) (by omega) (by omega) (fun c2 => ?_) (fun c2 => False.elim (by omega))
      refine x_bipush (v := (-5)) C dX2_findBooking_40 (by decide) ?_
      exact x_iret C hr E dX2_findBooking_42 (fun _ => 0) (by rw [← hf]; rfl) rfl
    | succ fu ih =>
      intro i hn hf
      refine x_iload_n C 0 rfl dX2_findBooking_2 rfl ?_
      refine x_aload_n C 1 rfl dX2_findBooking_3 rfl ?_
      refine x_get (k := 5) (v := .int (nI bc)) C dX2_findBooking_4 layX2 fl_X2_52 0 rfl rfl (by decide) rfl ?_
      refine x_icmp_geN (a := i) (b := bc) (tgt := 40) C dX2_findBooking_7 (by decide) (by omega) (by omega) (fun c3 => False.elim (by omega)) (fun c3 => ?_)
      refine x_aload_n C 1 rfl dX2_findBooking_10 rfl ?_
      refine x_iload_n C 0 rfl dX2_findBooking_11 rfl ?_
      refine x_iload_n C 2 rfl dX2_findBooking_12 rfl ?_
      refine x_callVd (As := [.int (nI i), .int (nI h)]) (rest := []) C dX2_findBooking_13 (c_X2_isBooked (gX.l X) G a ti se ho ri bo bc fs fc i h (by omega)) ml_X2_77 im_X2_isBooked sl_X2_isBooked in_X2 cd_X2_isBooked hd_X2_isBooked 0 rfl rfl rfl rfl (Nat.le_of_ble_eq_true rfl) ⟨Nat.le_of_ble_eq_true rfl, Nat.le_of_ble_eq_true rfl⟩ (List.take 0 (wS G a ti se ho ri bo bc fs fc)) (List.drop 11 (wS G a ti se ho ri bo bc fs fc)) rfl (ws' := (wS G a ti se ho ri bo bc fs fc)) rfl (st' := [.int (bI (bo i = nI (ti + h)))]) rfl ⟨rfl, rfl⟩ ⟨Nat.le_of_ble_eq_true rfl, Nat.le_of_ble_eq_true rfl⟩ ?_
      refine x_if_eqB (P := bo i = nI (ti + h)) (tgt := 34) C dX2_findBooking_16 (by decide) (fun c4 => ?_) (fun c4 => ?_)
      · refine x_iinc (v := (nI (i + 1))) (lv' := [(3, .int (nI (i + 1))), (0, .ref (a 0)), (1, .int (nI h)), (2, .int (nI r))]) C 0 rfl dX2_findBooking_34 (by rw [show Int32.ofInt 1 = nI 1 from rfl]; exact nI_add _ _) (by decide) rfl ?_
        refine x_goto (tgt := 2) C dX2_findBooking_37 (by decide) ?_
        exact ih (i + 1) (by omega) (by rw [← hf]; simp only [c_findR, c3, c4,  if_true, if_false, ite_true, ite_false, and_true, true_and, and_false, false_and, or_true, true_or, or_false, false_or, not_true_eq_false, not_false_eq_true, and_self, or_self])
      · refine x_aload_n C 1 rfl dX2_findBooking_19 rfl ?_
        refine x_get (k := 4) (v := .ref (a 7)) C dX2_findBooking_20 layX2 fl_X2_26 0 rfl rfl (by decide) rfl ?_
        refine x_iconst (v := (nI 2)) C dX2_findBooking_23 (by decide) ?_
        refine x_iload_n C 0 rfl dX2_findBooking_24 rfl ?_
        refine x_callVd (As := [.int (nI 2), .int (nI i)]) (rest := []) C dX2_findBooking_25 (c_X3_at (gX.l X) G (a 7) (a 8) 40 120 bo 2 i (80 + i) (by omega) (by omega) (by omega) (by omega) (by omega)) ml_X2_58 im_X3_at sl_X3_at in_X3 cd_X3_at hd_X3_at 0 rfl rfl rfl rfl (Nat.le_of_ble_eq_true rfl) ⟨Nat.le_of_ble_eq_true rfl, Nat.le_of_ble_eq_true rfl⟩ (List.take 7 (wS G a ti se ho ri bo bc fs fc)) (List.drop 9 (wS G a ti se ho ri bo bc fs fc)) rfl (ws' := (wS G a ti se ho ri bo bc fs fc)) rfl (st' := [.int (bo (80 + i))]) rfl ⟨rfl, rfl⟩ ⟨Nat.le_of_ble_eq_true rfl, Nat.le_of_ble_eq_true rfl⟩ ?_
        refine x_iload_n C 3 rfl dX2_findBooking_28 rfl ?_
        refine x_icmp_ne (x := (bo (80 + i))) (y := (nI r)) (tgt := 34) C dX2_findBooking_29 (by decide) (fun c5 => ?_) (fun c5 => ?_)
        · refine x_iinc (v := (nI (i + 1))) (lv' := [(3, .int (nI (i + 1))), (0, .ref (a 0)), (1, .int (nI h)), (2, .int (nI r))]) C 0 rfl dX2_findBooking_34 (by rw [show Int32.ofInt 1 = nI 1 from rfl]; exact nI_add _ _) (by decide) rfl ?_
          refine x_goto (tgt := 2) C dX2_findBooking_37 (by decide) ?_
          exact ih (i + 1) (by omega) (by rw [← hf]; simp only [c_findR, c3, c4, c5,  if_true, if_false, ite_true, ite_false, and_true, true_and, and_false, false_and, or_true, true_or, or_false, false_or, not_true_eq_false, not_false_eq_true, and_self, or_self])
        · refine x_iload_n C 0 rfl dX2_findBooking_32 rfl ?_
          exact x_iret C hr E dX2_findBooking_33 (fun _ => 0) (by rw [← hf]; simp only [c_findR, c3, c4, c5,  if_true, if_false, ite_true, ite_false, and_true, true_and, and_false, false_and, or_true, true_or, or_false, false_or, not_true_eq_false, not_false_eq_true, and_self, or_self]) rfl
  exact L1 bc 0 (by omega) (by rfl)
def rm_X2_bookedFor : Room := { frames := 3, cells := 0, slots := 0, locals := 68 }
set_option maxRecDepth 100000 in
set_option maxHeartbeats 4000000 in
theorem c_X2_bookedFor (l : Launch) (G : gG) (a : Nat → Nat) (ti : Nat) (se ho ri bo : Nat → Int32) (bc : Nat) (fs : Nat → Int32) (fc : Nat) (h g : Nat)  (hbc : bc ≤ 40) : CT l yX2_bookedFor cX2_bookedFor 5 (some .int) rm_X2_bookedFor G [.ref (a 0), .int (nI h), .int (nI g)] (wS G a ti se ho ri bo bc fs fc) (some (.int (c_bf bo (nI (ti + h)) (nI g) bc))) (fun _ => (wS G a ti se ho ri bo bc fs fc)) := by
  refine gMet (by decide) (Nat.le_of_ble_eq_true rfl) (fun X hX C hr hin E => ?_)
  clear hX
  refine (show gW G X (wS G a ti se ho ri bo bc fs fc) 0 0 0 [(0, .ref (a 0)), (1, .int (nI h)), (2, .int (nI g))] [] from ?_)
  refine x_iconst (v := (nI 0)) C dX2_bookedFor_0 (by decide) ?_
  refine x_istore_n (lv' := [(3, .int (nI 0)), (0, .ref (a 0)), (1, .int (nI h)), (2, .int (nI g))]) C dX2_bookedFor_1 rfl (by decide) rfl ?_
  refine x_iconst (v := (nI 0)) C dX2_bookedFor_2 (by decide) ?_
  refine x_istore (lv' := [(4, .int (nI 0)), (3, .int (nI 0)), (0, .ref (a 0)), (1, .int (nI h)), (2, .int (nI g))]) C dX2_bookedFor_3 (by decide) rfl ?_
  have L1 : ∀ (fu : Nat) (i : Nat) (acc : Int32), i + fu = bc → acc = c_bf bo (nI (ti + h)) (nI g) i → gW G X (wS G a ti se ho ri bo bc fs fc) 0 0 5 [(4, .int (nI i)), (3, .int acc), (0, .ref (a 0)), (1, .int (nI h)), (2, .int (nI g))] [] := by
    intro fu
    induction fu with
    | zero =>
      intro i acc hn ha
      have hi : i = bc := by omega
      refine x_iload C 0 rfl dX2_bookedFor_5 ?_
      refine x_aload_n C 2 rfl dX2_bookedFor_7 rfl ?_
      refine x_get (k := 5) (v := .int (nI bc)) C dX2_bookedFor_8 layX2 fl_X2_52 0 rfl rfl (by decide) rfl ?_
      refine x_icmp_geN (a := i) (b := bc) (tgt := 39) C dX2_bookedFor_11 (by decide) (by omega) (by omega) (fun c2 => ?_) (fun c2 => False.elim (by omega))
      refine x_iload_n C 1 rfl dX2_bookedFor_39 rfl ?_
      exact x_iret C hr E dX2_bookedFor_40 (fun _ => 0) (by rw [ha, hi]) rfl
    | succ fu ih =>
      intro i acc hn ha
      refine x_iload C 0 rfl dX2_bookedFor_5 ?_
      refine x_aload_n C 2 rfl dX2_bookedFor_7 rfl ?_
      refine x_get (k := 5) (v := .int (nI bc)) C dX2_bookedFor_8 layX2 fl_X2_52 0 rfl rfl (by decide) rfl ?_
      refine x_icmp_geN (a := i) (b := bc) (tgt := 39) C dX2_bookedFor_11 (by decide) (by omega) (by omega) (fun c3 => False.elim (by omega)) (fun c3 => ?_)
      refine x_iload_n C 1 rfl dX2_bookedFor_14 rfl ?_
      refine x_aload_n C 2 rfl dX2_bookedFor_15 rfl ?_
      refine x_iload C 0 rfl dX2_bookedFor_16 ?_
      refine x_iload_n C 3 rfl dX2_bookedFor_18 rfl ?_
      refine x_iload_n C 4 rfl dX2_bookedFor_19 rfl ?_
      refine x_callVd (As := [.int (nI i), .int (nI h), .int (nI g)]) (rest := [.int acc]) C dX2_bookedFor_20 (c_X2_isBooked_ (gX.l X) G a ti se ho ri bo bc fs fc i h g (by omega)) ml_X2_81 im_X2_isBooked_ sl_X2_isBooked_ in_X2 cd_X2_isBooked_ hd_X2_isBooked_ 0 rfl rfl rfl rfl (Nat.le_of_ble_eq_true rfl) ⟨Nat.le_of_ble_eq_true rfl, Nat.le_of_ble_eq_true rfl⟩ (List.take 0 (wS G a ti se ho ri bo bc fs fc)) (List.drop 11 (wS G a ti se ho ri bo bc fs fc)) rfl (ws' := (wS G a ti se ho ri bo bc fs fc)) rfl (st' := [.int (bI ((bo i = nI (ti + h)) ∧ (bo (40 + i) = nI g))), .int acc]) rfl ⟨rfl, rfl⟩ ⟨Nat.le_of_ble_eq_true rfl, Nat.le_of_ble_eq_true rfl⟩ ?_
      have J5 : ∀ (y6 : Int32) , y6 = bI ((bo i = nI (ti + h)) ∧ (bo (40 + i) = nI g)) → gW G X (wS G a ti se ho ri bo bc fs fc) 0 0 31 [(4, .int (nI i)), (3, .int acc), (0, .ref (a 0)), (1, .int (nI h)), (2, .int (nI g))] [.int y6, .int acc] := by
        intro y6 ey6
        subst ey6
        refine x_iadd (x := acc) (y := (bI ((bo i = nI (ti + h)) ∧ (bo (40 + i) = nI g)))) C dX2_bookedFor_31 ?_
        refine x_istore_n (lv' := [(3, .int (acc + (bI ((bo i = nI (ti + h)) ∧ (bo (40 + i) = nI g))))), (4, .int (nI i)), (0, .ref (a 0)), (1, .int (nI h)), (2, .int (nI g))]) C dX2_bookedFor_32 rfl (by decide) rfl ?_
        refine x_iinc (v := (nI (i + 1))) (lv' := [(4, .int (nI (i + 1))), (3, .int (acc + (bI ((bo i = nI (ti + h)) ∧ (bo (40 + i) = nI g))))), (0, .ref (a 0)), (1, .int (nI h)), (2, .int (nI g))]) C 1 rfl dX2_bookedFor_33 (by rw [show Int32.ofInt 1 = nI 1 from rfl]; exact nI_add _ _) (by decide) rfl ?_
        refine x_goto (tgt := 5) C dX2_bookedFor_36 (by decide) ?_
        exact ih (i + 1) (acc + (bI ((bo i = nI (ti + h)) ∧ (bo (40 + i) = nI g)))) (by omega) (by rw [ha]; rfl)
      refine x_if_eqB (P := (bo i = nI (ti + h)) ∧ (bo (40 + i) = nI g)) (tgt := 30) C dX2_bookedFor_23 (by decide) (fun c4 => ?_) (fun c4 => ?_)
      · refine x_iconst (v := (nI 0)) C dX2_bookedFor_30 (by decide) ?_
        exact J5 (nI 0) (bI_f (by simp only [c4, if_true, if_false, ite_true, ite_false, and_true, true_and, and_false, false_and, or_true, true_or, or_false, false_or, not_true_eq_false, not_false_eq_true, and_self, or_self] <;> decide)).symm
      · refine x_iconst (v := (nI 1)) C dX2_bookedFor_26 (by decide) ?_
        refine x_goto (tgt := 31) C dX2_bookedFor_27 (by decide) ?_
        exact J5 (nI 1) (bI_t (by simp only [c4, if_true, if_false, ite_true, ite_false, and_true, true_and, and_false, false_and, or_true, true_or, or_false, false_or, not_true_eq_false, not_false_eq_true, and_self, or_self] <;> decide)).symm
  exact L1 bc 0 0 (by omega) (by rfl)
def rm_X2_bookedInAllRings : Room := { frames := 2, cells := 0, slots := 0, locals := 45 }
set_option maxRecDepth 100000 in
set_option maxHeartbeats 4000000 in
theorem c_X2_bookedInAllRings (l : Launch) (G : gG) (a : Nat → Nat) (ti : Nat) (se ho ri bo : Nat → Int32) (bc : Nat) (fs : Nat → Int32) (fc : Nat) (h : Nat)  (hbc : bc ≤ 40) : CT l yX2_bookedInAllRings cX2_bookedInAllRings 4 (some .int) rm_X2_bookedInAllRings G [.ref (a 0), .int (nI h)] (wS G a ti se ho ri bo bc fs fc) (some (.int (c_ball bo (nI (ti + h)) bc))) (fun _ => (wS G a ti se ho ri bo bc fs fc)) := by
  refine gMet (by decide) (Nat.le_of_ble_eq_true rfl) (fun X hX C hr hin E => ?_)
  clear hX
  refine (show gW G X (wS G a ti se ho ri bo bc fs fc) 0 0 0 [(0, .ref (a 0)), (1, .int (nI h))] [] from ?_)
  refine x_iconst (v := (nI 0)) C dX2_bookedInAllRings_0 (by decide) ?_
  refine x_istore_n (lv' := [(2, .int (nI 0)), (0, .ref (a 0)), (1, .int (nI h))]) C dX2_bookedInAllRings_1 rfl (by decide) rfl ?_
  refine x_iconst (v := (nI 0)) C dX2_bookedInAllRings_2 (by decide) ?_
  refine x_istore_n (lv' := [(3, .int (nI 0)), (2, .int (nI 0)), (0, .ref (a 0)), (1, .int (nI h))]) C dX2_bookedInAllRings_3 rfl (by decide) rfl ?_
  have L1 : ∀ (fu : Nat) (i : Nat) (acc : Int32), i + fu = bc → acc = c_ball bo (nI (ti + h)) i → gW G X (wS G a ti se ho ri bo bc fs fc) 0 0 4 [(3, .int (nI i)), (2, .int acc), (0, .ref (a 0)), (1, .int (nI h))] [] := by
    intro fu
    induction fu with
    | zero =>
      intro i acc hn ha
      have hi : i = bc := by omega
      refine x_iload_n C 0 rfl dX2_bookedInAllRings_4 rfl ?_
      refine x_aload_n C 2 rfl dX2_bookedInAllRings_5 rfl ?_
      refine x_get (k := 5) (v := .int (nI bc)) C dX2_bookedInAllRings_6 layX2 fl_X2_52 0 rfl rfl (by decide) rfl ?_
      refine x_icmp_geN (a := i) (b := bc) (tgt := 35) C dX2_bookedInAllRings_9 (by decide) (by omega) (by omega) (fun c2 => ?_) (fun c2 => False.elim (by omega))
      refine x_iload_n C 1 rfl dX2_bookedInAllRings_35 rfl ?_
      exact x_iret C hr E dX2_bookedInAllRings_36 (fun _ => 0) (by rw [ha, hi]) rfl
    | succ fu ih =>
      intro i acc hn ha
      refine x_iload_n C 0 rfl dX2_bookedInAllRings_4 rfl ?_
      refine x_aload_n C 2 rfl dX2_bookedInAllRings_5 rfl ?_
      refine x_get (k := 5) (v := .int (nI bc)) C dX2_bookedInAllRings_6 layX2 fl_X2_52 0 rfl rfl (by decide) rfl ?_
      refine x_icmp_geN (a := i) (b := bc) (tgt := 35) C dX2_bookedInAllRings_9 (by decide) (by omega) (by omega) (fun c3 => False.elim (by omega)) (fun c3 => ?_)
      refine x_iload_n C 1 rfl dX2_bookedInAllRings_12 rfl ?_
      refine x_aload_n C 2 rfl dX2_bookedInAllRings_13 rfl ?_
      refine x_iload_n C 0 rfl dX2_bookedInAllRings_14 rfl ?_
      refine x_iload_n C 3 rfl dX2_bookedInAllRings_15 rfl ?_
      refine x_callVd (As := [.int (nI i), .int (nI h)]) (rest := [.int acc]) C dX2_bookedInAllRings_16 (c_X2_isBooked (gX.l X) G a ti se ho ri bo bc fs fc i h (by omega)) ml_X2_77 im_X2_isBooked sl_X2_isBooked in_X2 cd_X2_isBooked hd_X2_isBooked 0 rfl rfl rfl rfl (Nat.le_of_ble_eq_true rfl) ⟨Nat.le_of_ble_eq_true rfl, Nat.le_of_ble_eq_true rfl⟩ (List.take 0 (wS G a ti se ho ri bo bc fs fc)) (List.drop 11 (wS G a ti se ho ri bo bc fs fc)) rfl (ws' := (wS G a ti se ho ri bo bc fs fc)) rfl (st' := [.int (bI (bo i = nI (ti + h))), .int acc]) rfl ⟨rfl, rfl⟩ ⟨Nat.le_of_ble_eq_true rfl, Nat.le_of_ble_eq_true rfl⟩ ?_
      have J5 : ∀ (y6 : Int32) , y6 = bI (bo i = nI (ti + h)) → gW G X (wS G a ti se ho ri bo bc fs fc) 0 0 27 [(3, .int (nI i)), (2, .int acc), (0, .ref (a 0)), (1, .int (nI h))] [.int y6, .int acc] := by
        intro y6 ey6
        subst ey6
        refine x_iadd (x := acc) (y := (bI (bo i = nI (ti + h)))) C dX2_bookedInAllRings_27 ?_
        refine x_istore_n (lv' := [(2, .int (acc + (bI (bo i = nI (ti + h))))), (3, .int (nI i)), (0, .ref (a 0)), (1, .int (nI h))]) C dX2_bookedInAllRings_28 rfl (by decide) rfl ?_
        refine x_iinc (v := (nI (i + 1))) (lv' := [(3, .int (nI (i + 1))), (2, .int (acc + (bI (bo i = nI (ti + h))))), (0, .ref (a 0)), (1, .int (nI h))]) C 1 rfl dX2_bookedInAllRings_29 (by rw [show Int32.ofInt 1 = nI 1 from rfl]; exact nI_add _ _) (by decide) rfl ?_
        refine x_goto (tgt := 4) C dX2_bookedInAllRings_32 (by decide) ?_
        exact ih (i + 1) (acc + (bI (bo i = nI (ti + h)))) (by omega) (by rw [ha]; rfl)
      refine x_if_eqB (P := bo i = nI (ti + h)) (tgt := 26) C dX2_bookedInAllRings_19 (by decide) (fun c4 => ?_) (fun c4 => ?_)
      · refine x_iconst (v := (nI 0)) C dX2_bookedInAllRings_26 (by decide) ?_
        exact J5 (nI 0) (bI_f (by simp only [c4, if_true, if_false, ite_true, ite_false, and_true, true_and, and_false, false_and, or_true, true_or, or_false, false_or, not_true_eq_false, not_false_eq_true, and_self, or_self] <;> decide)).symm
      · refine x_iconst (v := (nI 1)) C dX2_bookedInAllRings_22 (by decide) ?_
        refine x_goto (tgt := 27) C dX2_bookedInAllRings_23 (by decide) ?_
        exact J5 (nI 1) (bI_t (by simp only [c4, if_true, if_false, ite_true, ite_false, and_true, true_and, and_false, false_and, or_true, true_or, or_false, false_or, not_true_eq_false, not_false_eq_true, and_self, or_self] <;> decide)).symm
  exact L1 bc 0 0 (by omega) (by rfl)
def rm_X2_setOfRiders : Room := { frames := 3, cells := 0, slots := 0, locals := 68 }
set_option maxRecDepth 100000 in
set_option maxHeartbeats 4000000 in
theorem c_X2_setOfRiders (l : Launch) (G : gG) (a : Nat → Nat) (ti : Nat) (se ho ri bo : Nat → Int32) (bc : Nat) (fs : Nat → Int32) (fc : Nat) (h g : Nat)  (hbc : bc ≤ 40) : CT l yX2_setOfRiders cX2_setOfRiders 5 (some .int) rm_X2_setOfRiders G [.ref (a 0), .int (nI h), .int (nI g)] (wS G a ti se ho ri bo bc fs fc) (some (.int (c_set bo (nI (ti + h)) (nI g) bc))) (fun _ => (wS G a ti se ho ri bo bc fs fc)) := by
  refine gMet (by decide) (Nat.le_of_ble_eq_true rfl) (fun X hX C hr hin E => ?_)
  clear hX
  refine (show gW G X (wS G a ti se ho ri bo bc fs fc) 0 0 0 [(0, .ref (a 0)), (1, .int (nI h)), (2, .int (nI g))] [] from ?_)
  refine x_iconst (v := (nI 0)) C dX2_setOfRiders_0 (by decide) ?_
  refine x_istore_n (lv' := [(3, .int (nI 0)), (0, .ref (a 0)), (1, .int (nI h)), (2, .int (nI g))]) C dX2_setOfRiders_1 rfl (by decide) rfl ?_
  refine x_iconst (v := (nI 0)) C dX2_setOfRiders_2 (by decide) ?_
  refine x_istore (lv' := [(4, .int (nI 0)), (3, .int (nI 0)), (0, .ref (a 0)), (1, .int (nI h)), (2, .int (nI g))]) C dX2_setOfRiders_3 (by decide) rfl ?_
  have L1 : ∀ (fu : Nat) (i : Nat) (acc : Int32), i + fu = bc → acc = c_set bo (nI (ti + h)) (nI g) i → gW G X (wS G a ti se ho ri bo bc fs fc) 0 0 5 [(4, .int (nI i)), (3, .int acc), (0, .ref (a 0)), (1, .int (nI h)), (2, .int (nI g))] [] := by
    intro fu
    induction fu with
    | zero =>
      intro i acc hn ha
      have hi : i = bc := by omega
      refine x_iload C 0 rfl dX2_setOfRiders_5 ?_
      refine x_aload_n C 2 rfl dX2_setOfRiders_7 rfl ?_
      refine x_get (k := 5) (v := .int (nI bc)) C dX2_setOfRiders_8 layX2 fl_X2_52 0 rfl rfl (by decide) rfl ?_
      refine x_icmp_geN (a := i) (b := bc) (tgt := 46) C dX2_setOfRiders_11 (by decide) (by omega) (by omega) (fun c2 => ?_) (fun c2 => False.elim (by omega))
      refine x_iload_n C 1 rfl dX2_setOfRiders_46 rfl ?_
      exact x_iret C hr E dX2_setOfRiders_47 (fun _ => 0) (by rw [ha, hi]) rfl
    | succ fu ih =>
      intro i acc hn ha
      refine x_iload C 0 rfl dX2_setOfRiders_5 ?_
      refine x_aload_n C 2 rfl dX2_setOfRiders_7 rfl ?_
      refine x_get (k := 5) (v := .int (nI bc)) C dX2_setOfRiders_8 layX2 fl_X2_52 0 rfl rfl (by decide) rfl ?_
      refine x_icmp_geN (a := i) (b := bc) (tgt := 46) C dX2_setOfRiders_11 (by decide) (by omega) (by omega) (fun c3 => False.elim (by omega)) (fun c3 => ?_)
      refine x_aload_n C 2 rfl dX2_setOfRiders_14 rfl ?_
      refine x_iload C 0 rfl dX2_setOfRiders_15 ?_
      refine x_iload_n C 3 rfl dX2_setOfRiders_17 rfl ?_
      refine x_iload_n C 4 rfl dX2_setOfRiders_18 rfl ?_
      refine x_callVd (As := [.int (nI i), .int (nI h), .int (nI g)]) (rest := []) C dX2_setOfRiders_19 (c_X2_isBooked_ (gX.l X) G a ti se ho ri bo bc fs fc i h g (by omega)) ml_X2_81 im_X2_isBooked_ sl_X2_isBooked_ in_X2 cd_X2_isBooked_ hd_X2_isBooked_ 0 rfl rfl rfl rfl (Nat.le_of_ble_eq_true rfl) ⟨Nat.le_of_ble_eq_true rfl, Nat.le_of_ble_eq_true rfl⟩ (List.take 0 (wS G a ti se ho ri bo bc fs fc)) (List.drop 11 (wS G a ti se ho ri bo bc fs fc)) rfl (ws' := (wS G a ti se ho ri bo bc fs fc)) rfl (st' := [.int (bI ((bo i = nI (ti + h)) ∧ (bo (40 + i) = nI g)))]) rfl ⟨rfl, rfl⟩ ⟨Nat.le_of_ble_eq_true rfl, Nat.le_of_ble_eq_true rfl⟩ ?_
      refine x_if_eqB (P := (bo i = nI (ti + h)) ∧ (bo (40 + i) = nI g)) (tgt := 40) C dX2_setOfRiders_22 (by decide) (fun c4 => ?_) (fun c4 => ?_)
      · refine x_iinc (v := (nI (i + 1))) (lv' := [(4, .int (nI (i + 1))), (3, .int acc), (0, .ref (a 0)), (1, .int (nI h)), (2, .int (nI g))]) C 0 rfl dX2_setOfRiders_40 (by rw [show Int32.ofInt 1 = nI 1 from rfl]; exact nI_add _ _) (by decide) rfl ?_
        refine x_goto (tgt := 5) C dX2_setOfRiders_43 (by decide) ?_
        exact ih (i + 1) acc (by omega) (by rw [ha]; simp only [c_set, c_isBR, c3, c4,  if_true, if_false, ite_true, ite_false, and_true, true_and, and_false, false_and, or_true, true_or, or_false, false_or, not_true_eq_false, not_false_eq_true, and_self, or_self])
      · refine x_iload_n C 1 rfl dX2_setOfRiders_25 rfl ?_
        refine x_iconst (v := (nI 1)) C dX2_setOfRiders_26 (by decide) ?_
        refine x_aload_n C 2 rfl dX2_setOfRiders_27 rfl ?_
        refine x_get (k := 4) (v := .ref (a 7)) C dX2_setOfRiders_28 layX2 fl_X2_26 0 rfl rfl (by decide) rfl ?_
        refine x_iconst (v := (nI 2)) C dX2_setOfRiders_31 (by decide) ?_
        refine x_iload C 0 rfl dX2_setOfRiders_32 ?_
        refine x_callVd (As := [.int (nI 2), .int (nI i)]) (rest := [.int (nI 1), .int acc]) C dX2_setOfRiders_34 (c_X3_at (gX.l X) G (a 7) (a 8) 40 120 bo 2 i (80 + i) (by omega) (by omega) (by omega) (by omega) (by omega)) ml_X2_58 im_X3_at sl_X3_at in_X3 cd_X3_at hd_X3_at 0 rfl rfl rfl rfl (Nat.le_of_ble_eq_true rfl) ⟨Nat.le_of_ble_eq_true rfl, Nat.le_of_ble_eq_true rfl⟩ (List.take 7 (wS G a ti se ho ri bo bc fs fc)) (List.drop 9 (wS G a ti se ho ri bo bc fs fc)) rfl (ws' := (wS G a ti se ho ri bo bc fs fc)) rfl (st' := [.int (bo (80 + i)), .int (nI 1), .int acc]) rfl ⟨rfl, rfl⟩ ⟨Nat.le_of_ble_eq_true rfl, Nat.le_of_ble_eq_true rfl⟩ ?_
        refine x_ishl (x := 1) (y := (bo (80 + i))) C dX2_setOfRiders_37 ?_
        refine x_ior (x := acc) (y := (1 <<< ((bo (80 + i)) &&& 31))) C dX2_setOfRiders_38 ?_
        refine x_istore_n (lv' := [(3, .int (acc ||| (1 <<< ((bo (80 + i)) &&& 31)))), (4, .int (nI i)), (0, .ref (a 0)), (1, .int (nI h)), (2, .int (nI g))]) C dX2_setOfRiders_39 rfl (by decide) rfl ?_
        refine x_iinc (v := (nI (i + 1))) (lv' := [(4, .int (nI (i + 1))), (3, .int (acc ||| (1 <<< ((bo (80 + i)) &&& 31)))), (0, .ref (a 0)), (1, .int (nI h)), (2, .int (nI g))]) C 1 rfl dX2_setOfRiders_40 (by rw [show Int32.ofInt 1 = nI 1 from rfl]; exact nI_add _ _) (by decide) rfl ?_
        refine x_goto (tgt := 5) C dX2_setOfRiders_43 (by decide) ?_
        exact ih (i + 1) (acc ||| (1 <<< ((bo (80 + i)) &&& 31))) (by omega) (by rw [ha]; simp only [c_set, c_isBR, c3, c4,  if_true, if_false, ite_true, ite_false, and_true, true_and, and_false, false_and, or_true, true_or, or_false, false_or, not_true_eq_false, not_false_eq_true, and_self, or_self])
  exact L1 bc 0 0 (by omega) (by rfl)
def rm_X2_bookingsOf : Room := { frames := 1, cells := 0, slots := 0, locals := 23 }
set_option maxRecDepth 100000 in
set_option maxHeartbeats 4000000 in
theorem c_X2_bookingsOf (l : Launch) (G : gG) (a : Nat → Nat) (ti : Nat) (se ho ri bo : Nat → Int32) (bc : Nat) (fs : Nat → Int32) (fc : Nat) (r : Nat)  (hbc : bc ≤ 40) : CT l yX2_bookingsOf cX2_bookingsOf 4 (some .int) rm_X2_bookingsOf G [.ref (a 0), .int (nI r)] (wS G a ti se ho ri bo bc fs fc) (some (.int (c_bof bo (nI r) bc))) (fun _ => (wS G a ti se ho ri bo bc fs fc)) := by
  refine gMet (by decide) (Nat.le_of_ble_eq_true rfl) (fun X hX C hr hin E => ?_)
  clear hX
  refine (show gW G X (wS G a ti se ho ri bo bc fs fc) 0 0 0 [(0, .ref (a 0)), (1, .int (nI r))] [] from ?_)
  refine x_iconst (v := (nI 0)) C dX2_bookingsOf_0 (by decide) ?_
  refine x_istore_n (lv' := [(2, .int (nI 0)), (0, .ref (a 0)), (1, .int (nI r))]) C dX2_bookingsOf_1 rfl (by decide) rfl ?_
  refine x_iconst (v := (nI 0)) C dX2_bookingsOf_2 (by decide) ?_
  refine x_istore_n (lv' := [(3, .int (nI 0)), (2, .int (nI 0)), (0, .ref (a 0)), (1, .int (nI r))]) C dX2_bookingsOf_3 rfl (by decide) rfl ?_
  have L1 : ∀ (fu : Nat) (i : Nat) (acc : Int32), i + fu = bc → acc = c_bof bo (nI r) i → gW G X (wS G a ti se ho ri bo bc fs fc) 0 0 4 [(3, .int (nI i)), (2, .int acc), (0, .ref (a 0)), (1, .int (nI r))] [] := by
    intro fu
    induction fu with
    | zero =>
      intro i acc hn ha
      have hi : i = bc := by omega
      refine x_iload_n C 0 rfl dX2_bookingsOf_4 rfl ?_
      refine x_aload_n C 2 rfl dX2_bookingsOf_5 rfl ?_
      refine x_get (k := 5) (v := .int (nI bc)) C dX2_bookingsOf_6 layX2 fl_X2_52 0 rfl rfl (by decide) rfl ?_
      refine x_icmp_geN (a := i) (b := bc) (tgt := 39) C dX2_bookingsOf_9 (by decide) (by omega) (by omega) (fun c2 => ?_) (fun c2 => False.elim (by omega))
      refine x_iload_n C 1 rfl dX2_bookingsOf_39 rfl ?_
      exact x_iret C hr E dX2_bookingsOf_40 (fun _ => 0) (by rw [ha, hi]) rfl
    | succ fu ih =>
      intro i acc hn ha
      refine x_iload_n C 0 rfl dX2_bookingsOf_4 rfl ?_
      refine x_aload_n C 2 rfl dX2_bookingsOf_5 rfl ?_
      refine x_get (k := 5) (v := .int (nI bc)) C dX2_bookingsOf_6 layX2 fl_X2_52 0 rfl rfl (by decide) rfl ?_
      refine x_icmp_geN (a := i) (b := bc) (tgt := 39) C dX2_bookingsOf_9 (by decide) (by omega) (by omega) (fun c3 => False.elim (by omega)) (fun c3 => ?_)
      refine x_iload_n C 1 rfl dX2_bookingsOf_12 rfl ?_
      refine x_aload_n C 2 rfl dX2_bookingsOf_13 rfl ?_
      refine x_get (k := 4) (v := .ref (a 7)) C dX2_bookingsOf_14 layX2 fl_X2_26 0 rfl rfl (by decide) rfl ?_
      refine x_iconst (v := (nI 2)) C dX2_bookingsOf_17 (by decide) ?_
      refine x_iload_n C 0 rfl dX2_bookingsOf_18 rfl ?_
      refine x_callVd (As := [.int (nI 2), .int (nI i)]) (rest := [.int acc]) C dX2_bookingsOf_19 (c_X3_at (gX.l X) G (a 7) (a 8) 40 120 bo 2 i (80 + i) (by omega) (by omega) (by omega) (by omega) (by omega)) ml_X2_58 im_X3_at sl_X3_at in_X3 cd_X3_at hd_X3_at 0 rfl rfl rfl rfl (Nat.le_of_ble_eq_true rfl) ⟨Nat.le_of_ble_eq_true rfl, Nat.le_of_ble_eq_true rfl⟩ (List.take 7 (wS G a ti se ho ri bo bc fs fc)) (List.drop 9 (wS G a ti se ho ri bo bc fs fc)) rfl (ws' := (wS G a ti se ho ri bo bc fs fc)) rfl (st' := [.int (bo (80 + i)), .int acc]) rfl ⟨rfl, rfl⟩ ⟨Nat.le_of_ble_eq_true rfl, Nat.le_of_ble_eq_true rfl⟩ ?_
      refine x_iload_n C 3 rfl dX2_bookingsOf_22 rfl ?_
      have J5 : ∀ (y6 : Int32) , y6 = bI ((bo (80 + i)) = (nI r)) → gW G X (wS G a ti se ho ri bo bc fs fc) 0 0 31 [(3, .int (nI i)), (2, .int acc), (0, .ref (a 0)), (1, .int (nI r))] [.int y6, .int acc] := by
        intro y6 ey6
        subst ey6
        refine x_iadd (x := acc) (y := (bI ((bo (80 + i)) = (nI r)))) C dX2_bookingsOf_31 ?_
        refine x_istore_n (lv' := [(2, .int (acc + (bI ((bo (80 + i)) = (nI r))))), (3, .int (nI i)), (0, .ref (a 0)), (1, .int (nI r))]) C dX2_bookingsOf_32 rfl (by decide) rfl ?_
        refine x_iinc (v := (nI (i + 1))) (lv' := [(3, .int (nI (i + 1))), (2, .int (acc + (bI ((bo (80 + i)) = (nI r))))), (0, .ref (a 0)), (1, .int (nI r))]) C 1 rfl dX2_bookingsOf_33 (by rw [show Int32.ofInt 1 = nI 1 from rfl]; exact nI_add _ _) (by decide) rfl ?_
        refine x_goto (tgt := 4) C dX2_bookingsOf_36 (by decide) ?_
        exact ih (i + 1) (acc + (bI ((bo (80 + i)) = (nI r)))) (by omega) (by rw [ha]; rfl)
      refine x_icmp_ne (x := (bo (80 + i))) (y := (nI r)) (tgt := 30) C dX2_bookingsOf_23 (by decide) (fun c4 => ?_) (fun c4 => ?_)
      · refine x_iconst (v := (nI 0)) C dX2_bookingsOf_30 (by decide) ?_
        exact J5 (nI 0) (bI_f (by simp only [c4, if_true, if_false, ite_true, ite_false, and_true, true_and, and_false, false_and, or_true, true_or, or_false, false_or, not_true_eq_false, not_false_eq_true, and_self, or_self] <;> decide)).symm
      · refine x_iconst (v := (nI 1)) C dX2_bookingsOf_26 (by decide) ?_
        refine x_goto (tgt := 31) C dX2_bookingsOf_27 (by decide) ?_
        exact J5 (nI 1) (bI_t (by simp only [c4, if_true, if_false, ite_true, ite_false, and_true, true_and, and_false, false_and, or_true, true_or, or_false, false_or, not_true_eq_false, not_false_eq_true, and_self, or_self] <;> decide)).symm
  exact L1 bc 0 0 (by omega) (by rfl)
end
section
def rm_X2_isFarrierThere : Room := { frames := 1, cells := 0, slots := 0, locals := 23 }
set_option maxRecDepth 100000 in
set_option maxHeartbeats 4000000 in
theorem c_X2_isFarrierThere (l : Launch) (G : gG) (a : Nat → Nat) (ti : Nat) (se ho ri bo : Nat → Int32) (bc : Nat) (fs : Nat → Int32) (fc : Nat)  (ht : ti < 2 ^ 30) : CT l yX2_isFarrierThere cX2_isFarrierThere 2 (some .boolean) rm_X2_isFarrierThere G [.ref (a 0)] (wS G a ti se ho ri bo bc fs fc) (some (.int (bI (c_there se ti)))) (fun _ => (wS G a ti se ho ri bo bc fs fc)) := by
  refine gMet (by decide) (Nat.le_of_ble_eq_true rfl) (fun X hX C hr hin E => ?_)
  clear hX
  refine (show gW G X (wS G a ti se ho ri bo bc fs fc) 0 0 0 [(0, .ref (a 0))] [] from ?_)
  refine x_aload_n C 0 rfl dX2_isFarrierThere_0 rfl ?_
  refine x_get (k := 1) (v := .ref (a 1)) C dX2_isFarrierThere_1 layX2 fl_X2_14 0 rfl rfl (by decide) rfl ?_
  refine x_iconst (v := (nI 0)) C dX2_isFarrierThere_4 (by decide) ?_
  refine x_iconst (v := (nI 4)) C dX2_isFarrierThere_5 (by decide) ?_
  refine x_callVd (As := [.int (nI 0), .int (nI 4)]) (rest := []) C dX2_isFarrierThere_6 (c_X3_at (gX.l X) G (a 1) (a 2) 5 5 se 0 4 4 (by omega) (by omega) (by omega) (by omega) (by omega)) ml_X2_58 im_X3_at sl_X3_at in_X3 cd_X3_at hd_X3_at 0 rfl rfl rfl rfl (Nat.le_of_ble_eq_true rfl) ⟨Nat.le_of_ble_eq_true rfl, Nat.le_of_ble_eq_true rfl⟩ (List.take 1 (wS G a ti se ho ri bo bc fs fc)) (List.drop 3 (wS G a ti se ho ri bo bc fs fc)) rfl (ws' := (wS G a ti se ho ri bo bc fs fc)) rfl (st' := [.int (se 4)]) rfl ⟨rfl, rfl⟩ ⟨Nat.le_of_ble_eq_true rfl, Nat.le_of_ble_eq_true rfl⟩ ?_
  refine x_istore_n (lv' := [(1, .int (se 4)), (0, .ref (a 0))]) C dX2_isFarrierThere_9 rfl (by decide) rfl ?_
  refine x_iload_n C 0 rfl dX2_isFarrierThere_10 rfl ?_
  have J3 : ∀ (y4 : Int32) , y4 = bI ((0 < (se 4)) ∧ ((iR (nI (ti / 10)) (se 4)) = 0)) → gW G X (wS G a ti se ho ri bo bc fs fc) 0 0 31 [(1, .int (se 4)), (0, .ref (a 0))] [.int y4] := by
    intro y4 ey4
    subst ey4
    exact x_zret C hr bI_nar E dX2_isFarrierThere_31 (fun _ => 0) (bI_iff (by simp only [if_true, if_false, ite_true, ite_false, and_true, true_and, and_false, false_and, or_true, true_or, or_false, false_or, not_true_eq_false, not_false_eq_true, and_self, or_self] <;> decide)) rfl
  refine x_if_le (x := (se 4)) (tgt := 30) C dX2_isFarrierThere_11 (by decide) (fun c1 => ?_) (fun c1 => ?_)
  · refine x_iconst (v := (nI 0)) C dX2_isFarrierThere_30 (by decide) ?_
    exact J3 (nI 0) (bI_f (by simp only [c1, if_true, if_false, ite_true, ite_false, and_true, true_and, and_false, false_and, or_true, true_or, or_false, false_or, not_true_eq_false, not_false_eq_true, and_self, or_self] <;> decide)).symm
  · refine x_aload_n C 1 rfl dX2_isFarrierThere_14 rfl ?_
    refine x_get (k := 0) (v := .int (nI ti)) C dX2_isFarrierThere_15 layX2 fl_X2_44 0 rfl rfl (by decide) rfl ?_
    refine x_bipush (v := (nI 10)) C dX2_isFarrierThere_18 (by decide) ?_
    refine x_idivN C dX2_isFarrierThere_20 (by omega) (by omega) (by omega) ?_
    refine x_iload_n C 0 rfl dX2_isFarrierThere_21 rfl ?_
    refine x_irem (x := (nI (ti / 10))) (y := (se 4)) C (fun h0 => by rw [h0] at c1; exact absurd c1 (by decide)) dX2_isFarrierThere_22 ?_
    refine x_if_ne (x := (iR (nI (ti / 10)) (se 4))) (tgt := 30) C dX2_isFarrierThere_23 (by decide) (fun c2 => ?_) (fun c2 => ?_)
    · refine x_iconst (v := (nI 0)) C dX2_isFarrierThere_30 (by decide) ?_
      exact J3 (nI 0) (bI_f (by simp only [c1, c2, if_true, if_false, ite_true, ite_false, and_true, true_and, and_false, false_and, or_true, true_or, or_false, false_or, not_true_eq_false, not_false_eq_true, and_self, or_self] <;> decide)).symm
    · refine x_iconst (v := (nI 1)) C dX2_isFarrierThere_26 (by decide) ?_
      refine x_goto (tgt := 31) C dX2_isFarrierThere_27 (by decide) ?_
      exact J3 (nI 1) (bI_t (by simp only [c1, c2, if_true, if_false, ite_true, ite_false, and_true, true_and, and_false, false_and, or_true, true_or, or_false, false_or, not_true_eq_false, not_false_eq_true, and_self, or_self] <;> decide)).symm
def rm_X2_farriersHorse : Room := { frames := 2, cells := 0, slots := 0, locals := 44 }
set_option maxRecDepth 100000 in
set_option maxHeartbeats 4000000 in
theorem c_X2_farriersHorse (l : Launch) (G : gG) (a : Nat → Nat) (ti : Nat) (se ho ri bo : Nat → Int32) (bc : Nat) (fs : Nat → Int32) (fc : Nat)  (ht : ti < 2 ^ 30) : CT l yX2_farriersHorse cX2_farriersHorse 5 (some .int) rm_X2_farriersHorse G [.ref (a 0)] (wS G a ti se ho ri bo bc fs fc) (some (.int (c_far se ho ti))) (fun _ => (wS G a ti se ho ri bo bc fs fc)) := by
  refine gMet (by decide) (Nat.le_of_ble_eq_true rfl) (fun X hX C hr hin E => ?_)
  clear hX
  refine (show gW G X (wS G a ti se ho ri bo bc fs fc) 0 0 0 [(0, .ref (a 0))] [] from ?_)
  refine x_iconst (v := (nI 0)) C dX2_farriersHorse_0 (by decide) ?_
  refine x_istore_n (lv' := [(1, .int (nI 0)), (0, .ref (a 0))]) C dX2_farriersHorse_1 rfl (by decide) rfl ?_
  refine x_bipush (v := (-5)) C dX2_farriersHorse_2 (by decide) ?_
  refine x_istore_n (lv' := [(2, .int (-5)), (1, .int (nI 0)), (0, .ref (a 0))]) C dX2_farriersHorse_4 rfl (by decide) rfl ?_
  refine x_aload_n C 2 rfl dX2_farriersHorse_5 rfl ?_
  refine x_callVd (As := []) (rest := []) C dX2_farriersHorse_6 (c_X2_isFarrierThere (gX.l X) G a ti se ho ri bo bc fs fc (by omega)) ml_X2_99 im_X2_isFarrierThere sl_X2_isFarrierThere in_X2 cd_X2_isFarrierThere hd_X2_isFarrierThere 0 rfl rfl rfl rfl (Nat.le_of_ble_eq_true rfl) ⟨Nat.le_of_ble_eq_true rfl, Nat.le_of_ble_eq_true rfl⟩ (List.take 0 (wS G a ti se ho ri bo bc fs fc)) (List.drop 11 (wS G a ti se ho ri bo bc fs fc)) rfl (ws' := (wS G a ti se ho ri bo bc fs fc)) rfl (st' := [.int (bI (c_there se ti))]) rfl ⟨rfl, rfl⟩ ⟨Nat.le_of_ble_eq_true rfl, Nat.le_of_ble_eq_true rfl⟩ ?_
  refine x_if_neB (P := c_there se ti) (tgt := 14) C dX2_farriersHorse_9 (by decide) (fun c1 => ?_) (fun c1 => ?_)
  · refine x_iconst (v := (nI 0)) C dX2_farriersHorse_14 (by decide) ?_
    refine x_istore_n (lv' := [(3, .int (nI 0)), (2, .int (-5)), (1, .int (nI 0)), (0, .ref (a 0))]) C dX2_farriersHorse_15 rfl (by decide) rfl ?_
    have L2 : ∀ (fu : Nat) (h : Nat) (g : Int32) (f : Int32), h + fu = 10 → (g, f) = c_farL ho h → gW G X (wS G a ti se ho ri bo bc fs fc) 0 0 16 [(3, .int (nI h)), (2, .int f), (1, .int g), (0, .ref (a 0))] [] := by
      intro fu
      induction fu with
      | zero =>
        intro h g f hn ha
        have hi : h = 10 := by omega
        refine x_iload_n C 0 rfl dX2_farriersHorse_16 rfl ?_
        refine x_bipush (v := (nI 10)) C dX2_farriersHorse_17 (by decide) ?_
        refine x_icmp_geN (a := h) (b := 10) (tgt := 50) C dX2_farriersHorse_19 (by decide) (by omega) (by omega) (fun c3 => ?_) (fun c3 => False.elim (by omega))
        refine x_iload_n C 1 rfl dX2_farriersHorse_50 rfl ?_
        exact x_iret C hr E dX2_farriersHorse_51 (fun _ => 0) (by rw [hi] at ha; rw [c_far, if_pos (by assumption), ← ha]) rfl
      | succ fu ih =>
        intro h g f hn ha
        refine x_iload_n C 0 rfl dX2_farriersHorse_16 rfl ?_
        refine x_bipush (v := (nI 10)) C dX2_farriersHorse_17 (by decide) ?_
        refine x_icmp_geN (a := h) (b := 10) (tgt := 50) C dX2_farriersHorse_19 (by decide) (by omega) (by omega) (fun c4 => False.elim (by omega)) (fun c4 => ?_)
        refine x_aload_n C 3 rfl dX2_farriersHorse_22 rfl ?_
        refine x_get (k := 2) (v := .ref (a 3)) C dX2_farriersHorse_23 layX2 fl_X2_20 0 rfl rfl (by decide) rfl ?_
        refine x_iconst (v := (nI 3)) C dX2_farriersHorse_26 (by decide) ?_
        refine x_iload_n C 0 rfl dX2_farriersHorse_27 rfl ?_
        refine x_callVd (As := [.int (nI 3), .int (nI h)]) (rest := []) C dX2_farriersHorse_28 (c_X3_at (gX.l X) G (a 3) (a 4) 10 90 ho 3 h (30 + h) (by omega) (by omega) (by omega) (by omega) (by omega)) ml_X2_58 im_X3_at sl_X3_at in_X3 cd_X3_at hd_X3_at 0 rfl rfl rfl rfl (Nat.le_of_ble_eq_true rfl) ⟨Nat.le_of_ble_eq_true rfl, Nat.le_of_ble_eq_true rfl⟩ (List.take 3 (wS G a ti se ho ri bo bc fs fc)) (List.drop 5 (wS G a ti se ho ri bo bc fs fc)) rfl (ws' := (wS G a ti se ho ri bo bc fs fc)) rfl (st' := [.int (ho (30 + h))]) rfl ⟨rfl, rfl⟩ ⟨Nat.le_of_ble_eq_true rfl, Nat.le_of_ble_eq_true rfl⟩ ?_
        refine x_istore (lv' := [(4, .int (ho (30 + h))), (3, .int (nI h)), (2, .int f), (1, .int g), (0, .ref (a 0))]) C dX2_farriersHorse_31 (by decide) rfl ?_
        refine x_iload C 0 rfl dX2_farriersHorse_33 ?_
        refine x_iload_n C 3 rfl dX2_farriersHorse_35 rfl ?_
        refine x_icmp_le (x := (ho (30 + h))) (y := g) (tgt := 44) C dX2_farriersHorse_36 (by decide) (fun c5 => ?_) (fun c5 => ?_)
        · refine x_iinc (v := (nI (h + 1))) (lv' := [(3, .int (nI (h + 1))), (4, .int (ho (30 + h))), (2, .int f), (1, .int g), (0, .ref (a 0))]) C 1 rfl dX2_farriersHorse_44 (by rw [show Int32.ofInt 1 = nI 1 from rfl]; exact nI_add _ _) (by decide) rfl ?_
          refine x_goto (tgt := 16) C dX2_farriersHorse_47 (by decide) ?_
          refine x_lv [0, 2, 3, 4] (lv' := [(3, .int (nI (h + 1))), (2, .int f), (1, .int g), (0, .ref (a 0))]) rfl ?_
          exact ih (h + 1) g f (by omega) (by simp only [c_farL, ← ha, c4, c5,  if_true, if_false, ite_true, ite_false, and_true, true_and, and_false, false_and, or_true, true_or, or_false, false_or, not_true_eq_false, not_false_eq_true, and_self, or_self])
        · refine x_iload C 0 rfl dX2_farriersHorse_39 ?_
          refine x_istore_n (lv' := [(1, .int (ho (30 + h))), (4, .int (ho (30 + h))), (3, .int (nI h)), (2, .int f), (0, .ref (a 0))]) C dX2_farriersHorse_41 rfl (by decide) rfl ?_
          refine x_iload_n C 2 rfl dX2_farriersHorse_42 rfl ?_
          refine x_istore_n (lv' := [(2, .int (nI h)), (1, .int (ho (30 + h))), (4, .int (ho (30 + h))), (3, .int (nI h)), (0, .ref (a 0))]) C dX2_farriersHorse_43 rfl (by decide) rfl ?_
          refine x_iinc (v := (nI (h + 1))) (lv' := [(3, .int (nI (h + 1))), (2, .int (nI h)), (1, .int (ho (30 + h))), (4, .int (ho (30 + h))), (0, .ref (a 0))]) C 3 rfl dX2_farriersHorse_44 (by rw [show Int32.ofInt 1 = nI 1 from rfl]; exact nI_add _ _) (by decide) rfl ?_
          refine x_goto (tgt := 16) C dX2_farriersHorse_47 (by decide) ?_
          refine x_lv [0, 1, 2, 4] (lv' := [(3, .int (nI (h + 1))), (2, .int (nI h)), (1, .int (ho (30 + h))), (0, .ref (a 0))]) rfl ?_
          exact ih (h + 1) (ho (30 + h)) (nI h) (by omega) (by simp only [c_farL, ← ha, c4, c5,  if_true, if_false, ite_true, ite_false, and_true, true_and, and_false, false_and, or_true, true_or, or_false, false_or, not_true_eq_false, not_false_eq_true, and_self, or_self])
    exact L2 10 0 0 (-5) (by omega) (by rfl)
  · refine x_iload_n C 0 rfl dX2_farriersHorse_12 rfl ?_
    exact x_iret C hr E dX2_farriersHorse_13 (fun _ => 0) (by simp only [c_far, c1,  if_true, if_false, ite_true, ite_false, and_true, true_and, and_false, false_and, or_true, true_or, or_false, false_or, not_true_eq_false, not_false_eq_true, and_self, or_self]) rfl
def rm_X2_hindrance : Room := { frames := 1, cells := 0, slots := 0, locals := 23 }
set_option maxRecDepth 100000 in
set_option maxHeartbeats 4000000 in
theorem c_X2_hindrance (l : Launch) (G : gG) (a : Nat → Nat) (ti : Nat) (se ho ri bo : Nat → Int32) (bc : Nat) (fs : Nat → Int32) (fc : Nat) (h r : Nat) (fa : Int32)  (hh : h < 10) (hr0 : r < 12) : CT l yX2_hindrance cX2_hindrance 4 (some .int) rm_X2_hindrance G [.ref (a 0), .int (nI h), .int (nI r), .int fa] (wS G a ti se ho ri bo bc fs fc) (some (.int (c_hind se ho ri h r fa))) (fun _ => (wS G a ti se ho ri bo bc fs fc)) := by
  refine gMet (by decide) (Nat.le_of_ble_eq_true rfl) (fun X hX C hr hin E => ?_)
  clear hX
  refine (show gW G X (wS G a ti se ho ri bo bc fs fc) 0 0 0 [(0, .ref (a 0)), (1, .int (nI h)), (2, .int (nI r)), (3, .int fa)] [] from ?_)
  refine x_aload_n C 0 rfl dX2_hindrance_0 rfl ?_
  refine x_get (k := 2) (v := .ref (a 3)) C dX2_hindrance_1 layX2 fl_X2_20 0 rfl rfl (by decide) rfl ?_
  refine x_iconst (v := (nI 5)) C dX2_hindrance_4 (by decide) ?_
  refine x_iload_n C 1 rfl dX2_hindrance_5 rfl ?_
  refine x_callVd (As := [.int (nI 5), .int (nI h)]) (rest := []) C dX2_hindrance_6 (c_X3_at (gX.l X) G (a 3) (a 4) 10 90 ho 5 h (50 + h) (by omega) (by omega) (by omega) (by omega) (by omega)) ml_X2_58 im_X3_at sl_X3_at in_X3 cd_X3_at hd_X3_at 0 rfl rfl rfl rfl (Nat.le_of_ble_eq_true rfl) ⟨Nat.le_of_ble_eq_true rfl, Nat.le_of_ble_eq_true rfl⟩ (List.take 3 (wS G a ti se ho ri bo bc fs fc)) (List.drop 5 (wS G a ti se ho ri bo bc fs fc)) rfl (ws' := (wS G a ti se ho ri bo bc fs fc)) rfl (st' := [.int (ho (50 + h))]) rfl ⟨rfl, rfl⟩ ⟨Nat.le_of_ble_eq_true rfl, Nat.le_of_ble_eq_true rfl⟩ ?_
  refine x_if_le (x := (ho (50 + h))) (tgt := 14) C dX2_hindrance_9 (by decide) (fun c1 => ?_) (fun c1 => ?_)
  · refine x_iload_n C 1 rfl dX2_hindrance_14 rfl ?_
    refine x_iload_n C 3 rfl dX2_hindrance_15 rfl ?_
    refine x_icmp_ne (x := (nI h)) (y := fa) (tgt := 21) C dX2_hindrance_16 (by decide) (fun c2 => ?_) (fun c2 => ?_)
    · refine x_aload_n C 0 rfl dX2_hindrance_21 rfl ?_
      refine x_get (k := 2) (v := .ref (a 3)) C dX2_hindrance_22 layX2 fl_X2_20 0 rfl rfl (by decide) rfl ?_
      refine x_iconst (v := (nI 3)) C dX2_hindrance_25 (by decide) ?_
      refine x_iload_n C 1 rfl dX2_hindrance_26 rfl ?_
      refine x_callVd (As := [.int (nI 3), .int (nI h)]) (rest := []) C dX2_hindrance_27 (c_X3_at (gX.l X) G (a 3) (a 4) 10 90 ho 3 h (30 + h) (by omega) (by omega) (by omega) (by omega) (by omega)) ml_X2_58 im_X3_at sl_X3_at in_X3 cd_X3_at hd_X3_at 0 rfl rfl rfl rfl (Nat.le_of_ble_eq_true rfl) ⟨Nat.le_of_ble_eq_true rfl, Nat.le_of_ble_eq_true rfl⟩ (List.take 3 (wS G a ti se ho ri bo bc fs fc)) (List.drop 5 (wS G a ti se ho ri bo bc fs fc)) rfl (ws' := (wS G a ti se ho ri bo bc fs fc)) rfl (st' := [.int (ho (30 + h))]) rfl ⟨rfl, rfl⟩ ⟨Nat.le_of_ble_eq_true rfl, Nat.le_of_ble_eq_true rfl⟩ ?_
      refine x_aload_n C 0 rfl dX2_hindrance_30 rfl ?_
      refine x_get (k := 1) (v := .ref (a 1)) C dX2_hindrance_31 layX2 fl_X2_14 0 rfl rfl (by decide) rfl ?_
      refine x_iconst (v := (nI 0)) C dX2_hindrance_34 (by decide) ?_
      refine x_iconst (v := (nI 1)) C dX2_hindrance_35 (by decide) ?_
      refine x_callVd (As := [.int (nI 0), .int (nI 1)]) (rest := [.int (ho (30 + h))]) C dX2_hindrance_36 (c_X3_at (gX.l X) G (a 1) (a 2) 5 5 se 0 1 1 (by omega) (by omega) (by omega) (by omega) (by omega)) ml_X2_58 im_X3_at sl_X3_at in_X3 cd_X3_at hd_X3_at 0 rfl rfl rfl rfl (Nat.le_of_ble_eq_true rfl) ⟨Nat.le_of_ble_eq_true rfl, Nat.le_of_ble_eq_true rfl⟩ (List.take 1 (wS G a ti se ho ri bo bc fs fc)) (List.drop 3 (wS G a ti se ho ri bo bc fs fc)) rfl (ws' := (wS G a ti se ho ri bo bc fs fc)) rfl (st' := [.int (se 1), .int (ho (30 + h))]) rfl ⟨rfl, rfl⟩ ⟨Nat.le_of_ble_eq_true rfl, Nat.le_of_ble_eq_true rfl⟩ ?_
      refine x_icmp_lt (x := (ho (30 + h))) (y := (se 1)) (tgt := 44) C dX2_hindrance_39 (by decide) (fun c3 => ?_) (fun c3 => ?_)
      · refine x_aload_n C 0 rfl dX2_hindrance_44 rfl ?_
        refine x_get (k := 2) (v := .ref (a 3)) C dX2_hindrance_45 layX2 fl_X2_20 0 rfl rfl (by decide) rfl ?_
        refine x_iconst (v := (nI 2)) C dX2_hindrance_48 (by decide) ?_
        refine x_iload_n C 1 rfl dX2_hindrance_49 rfl ?_
        refine x_callVd (As := [.int (nI 2), .int (nI h)]) (rest := []) C dX2_hindrance_50 (c_X3_at (gX.l X) G (a 3) (a 4) 10 90 ho 2 h (20 + h) (by omega) (by omega) (by omega) (by omega) (by omega)) ml_X2_58 im_X3_at sl_X3_at in_X3 cd_X3_at hd_X3_at 0 rfl rfl rfl rfl (Nat.le_of_ble_eq_true rfl) ⟨Nat.le_of_ble_eq_true rfl, Nat.le_of_ble_eq_true rfl⟩ (List.take 3 (wS G a ti se ho ri bo bc fs fc)) (List.drop 5 (wS G a ti se ho ri bo bc fs fc)) rfl (ws' := (wS G a ti se ho ri bo bc fs fc)) rfl (st' := [.int (ho (20 + h))]) rfl ⟨rfl, rfl⟩ ⟨Nat.le_of_ble_eq_true rfl, Nat.le_of_ble_eq_true rfl⟩ ?_
        refine x_aload_n C 0 rfl dX2_hindrance_53 rfl ?_
        refine x_get (k := 1) (v := .ref (a 1)) C dX2_hindrance_54 layX2 fl_X2_14 0 rfl rfl (by decide) rfl ?_
        refine x_iconst (v := (nI 0)) C dX2_hindrance_57 (by decide) ?_
        refine x_iconst (v := (nI 0)) C dX2_hindrance_58 (by decide) ?_
        refine x_callVd (As := [.int (nI 0), .int (nI 0)]) (rest := [.int (ho (20 + h))]) C dX2_hindrance_59 (c_X3_at (gX.l X) G (a 1) (a 2) 5 5 se 0 0 0 (by omega) (by omega) (by omega) (by omega) (by omega)) ml_X2_58 im_X3_at sl_X3_at in_X3 cd_X3_at hd_X3_at 0 rfl rfl rfl rfl (Nat.le_of_ble_eq_true rfl) ⟨Nat.le_of_ble_eq_true rfl, Nat.le_of_ble_eq_true rfl⟩ (List.take 1 (wS G a ti se ho ri bo bc fs fc)) (List.drop 3 (wS G a ti se ho ri bo bc fs fc)) rfl (ws' := (wS G a ti se ho ri bo bc fs fc)) rfl (st' := [.int (se 0), .int (ho (20 + h))]) rfl ⟨rfl, rfl⟩ ⟨Nat.le_of_ble_eq_true rfl, Nat.le_of_ble_eq_true rfl⟩ ?_
        refine x_icmp_lt (x := (ho (20 + h))) (y := (se 0)) (tgt := 67) C dX2_hindrance_62 (by decide) (fun c4 => ?_) (fun c4 => ?_)
        · refine x_aload_n C 0 rfl dX2_hindrance_67 rfl ?_
          refine x_get (k := 2) (v := .ref (a 3)) C dX2_hindrance_68 layX2 fl_X2_20 0 rfl rfl (by decide) rfl ?_
          refine x_iconst (v := (nI 0)) C dX2_hindrance_71 (by decide) ?_
          refine x_iload_n C 1 rfl dX2_hindrance_72 rfl ?_
          refine x_callVd (As := [.int (nI 0), .int (nI h)]) (rest := []) C dX2_hindrance_73 (c_X3_at (gX.l X) G (a 3) (a 4) 10 90 ho 0 h h (by omega) (by omega) (by omega) (by omega) (by omega)) ml_X2_58 im_X3_at sl_X3_at in_X3 cd_X3_at hd_X3_at 0 rfl rfl rfl rfl (Nat.le_of_ble_eq_true rfl) ⟨Nat.le_of_ble_eq_true rfl, Nat.le_of_ble_eq_true rfl⟩ (List.take 3 (wS G a ti se ho ri bo bc fs fc)) (List.drop 5 (wS G a ti se ho ri bo bc fs fc)) rfl (ws' := (wS G a ti se ho ri bo bc fs fc)) rfl (st' := [.int (ho h)]) rfl ⟨rfl, rfl⟩ ⟨Nat.le_of_ble_eq_true rfl, Nat.le_of_ble_eq_true rfl⟩ ?_
          refine x_aload_n C 0 rfl dX2_hindrance_76 rfl ?_
          refine x_get (k := 3) (v := .ref (a 5)) C dX2_hindrance_77 layX2 fl_X2_23 0 rfl rfl (by decide) rfl ?_
          refine x_iconst (v := (nI 0)) C dX2_hindrance_80 (by decide) ?_
          refine x_iload_n C 2 rfl dX2_hindrance_81 rfl ?_
          refine x_callVd (As := [.int (nI 0), .int (nI r)]) (rest := [.int (ho h)]) C dX2_hindrance_82 (c_X3_at (gX.l X) G (a 5) (a 6) 12 120 ri 0 r r (by omega) (by omega) (by omega) (by omega) (by omega)) ml_X2_58 im_X3_at sl_X3_at in_X3 cd_X3_at hd_X3_at 0 rfl rfl rfl rfl (Nat.le_of_ble_eq_true rfl) ⟨Nat.le_of_ble_eq_true rfl, Nat.le_of_ble_eq_true rfl⟩ (List.take 5 (wS G a ti se ho ri bo bc fs fc)) (List.drop 7 (wS G a ti se ho ri bo bc fs fc)) rfl (ws' := (wS G a ti se ho ri bo bc fs fc)) rfl (st' := [.int (ri r), .int (ho h)]) rfl ⟨rfl, rfl⟩ ⟨Nat.le_of_ble_eq_true rfl, Nat.le_of_ble_eq_true rfl⟩ ?_
          refine x_icmp_ge (x := (ho h)) (y := (ri r)) (tgt := 92) C dX2_hindrance_85 (by decide) (fun c5 => ?_) (fun c5 => ?_)
          · refine x_iconst (v := (nI 0)) C dX2_hindrance_92 (by decide) ?_
            exact x_iret C hr E dX2_hindrance_93 (fun _ => 0) (by simp only [c_hind, c1, c2, c3, c4, c5,  if_true, if_false, ite_true, ite_false, and_true, true_and, and_false, false_and, or_true, true_or, or_false, false_or, not_true_eq_false, not_false_eq_true, and_self, or_self] <;> rfl) rfl
          · refine x_iconst (v := (nI 5)) C dX2_hindrance_88 (by decide) ?_
            refine x_goto (tgt := 93) C dX2_hindrance_89 (by decide) ?_
            exact x_iret C hr E dX2_hindrance_93 (fun _ => 0) (by simp only [c_hind, c1, c2, c3, c4, c5,  if_true, if_false, ite_true, ite_false, and_true, true_and, and_false, false_and, or_true, true_or, or_false, false_or, not_true_eq_false, not_false_eq_true, and_self, or_self] <;> rfl) rfl
        · refine x_iconst (v := (nI 4)) C dX2_hindrance_65 (by decide) ?_
          exact x_iret C hr E dX2_hindrance_66 (fun _ => 0) (by simp only [c_hind, c1, c2, c3, c4,  if_true, if_false, ite_true, ite_false, and_true, true_and, and_false, false_and, or_true, true_or, or_false, false_or, not_true_eq_false, not_false_eq_true, and_self, or_self] <;> rfl) rfl
      · refine x_iconst (v := (nI 3)) C dX2_hindrance_42 (by decide) ?_
        exact x_iret C hr E dX2_hindrance_43 (fun _ => 0) (by simp only [c_hind, c1, c2, c3,  if_true, if_false, ite_true, ite_false, and_true, true_and, and_false, false_and, or_true, true_or, or_false, false_or, not_true_eq_false, not_false_eq_true, and_self, or_self] <;> rfl) rfl
    · refine x_iconst (v := (nI 2)) C dX2_hindrance_19 (by decide) ?_
      exact x_iret C hr E dX2_hindrance_20 (fun _ => 0) (by simp only [c_hind, c1, c2,  if_true, if_false, ite_true, ite_false, and_true, true_and, and_false, false_and, or_true, true_or, or_false, false_or, not_true_eq_false, not_false_eq_true, and_self, or_self] <;> rfl) rfl
  · refine x_iconst (v := (nI 1)) C dX2_hindrance_12 (by decide) ?_
    exact x_iret C hr E dX2_hindrance_13 (fun _ => 0) (by simp only [c_hind, c1,  if_true, if_false, ite_true, ite_false, and_true, true_and, and_false, false_and, or_true, true_or, or_false, false_or, not_true_eq_false, not_false_eq_true, and_self, or_self] <;> rfl) rfl
def rm_X2_isBetter : Room := { frames := 1, cells := 0, slots := 0, locals := 23 }
set_option maxRecDepth 100000 in
set_option maxHeartbeats 4000000 in
theorem c_X2_isBetter (l : Launch) (G : gG) (a : Nat → Nat) (ti : Nat) (se ho ri bo : Nat → Int32) (bc : Nat) (fs : Nat → Int32) (fc : Nat) (x y : Nat) (ab : Int32)  (hx : x < 10) (hy : y < 10) : CT l yX2_isBetter cX2_isBetter 8 (some .boolean) rm_X2_isBetter G [.ref (a 0), .int (nI x), .int (nI y), .int ab] (wS G a ti se ho ri bo bc fs fc) (some (.int (bI (c_better ho x y ab)))) (fun _ => (wS G a ti se ho ri bo bc fs fc)) := by
  refine gMet (by decide) (Nat.le_of_ble_eq_true rfl) (fun X hX C hr hin E => ?_)
  clear hX
  refine (show gW G X (wS G a ti se ho ri bo bc fs fc) 0 0 0 [(0, .ref (a 0)), (1, .int (nI x)), (2, .int (nI y)), (3, .int ab)] [] from ?_)
  refine x_aload_n C 0 rfl dX2_isBetter_0 rfl ?_
  refine x_get (k := 2) (v := .ref (a 3)) C dX2_isBetter_1 layX2 fl_X2_20 0 rfl rfl (by decide) rfl ?_
  refine x_iconst (v := (nI 1)) C dX2_isBetter_4 (by decide) ?_
  refine x_iload_n C 1 rfl dX2_isBetter_5 rfl ?_
  refine x_callVd (As := [.int (nI 1), .int (nI x)]) (rest := []) C dX2_isBetter_6 (c_X3_at (gX.l X) G (a 3) (a 4) 10 90 ho 1 x (10 + x) (by omega) (by omega) (by omega) (by omega) (by omega)) ml_X2_58 im_X3_at sl_X3_at in_X3 cd_X3_at hd_X3_at 0 rfl rfl rfl rfl (Nat.le_of_ble_eq_true rfl) ⟨Nat.le_of_ble_eq_true rfl, Nat.le_of_ble_eq_true rfl⟩ (List.take 3 (wS G a ti se ho ri bo bc fs fc)) (List.drop 5 (wS G a ti se ho ri bo bc fs fc)) rfl (ws' := (wS G a ti se ho ri bo bc fs fc)) rfl (st' := [.int (ho (10 + x))]) rfl ⟨rfl, rfl⟩ ⟨Nat.le_of_ble_eq_true rfl, Nat.le_of_ble_eq_true rfl⟩ ?_
  refine x_iload_n C 3 rfl dX2_isBetter_9 rfl ?_
  have J2 : ∀ (y3 : Int32) , y3 = bI (¬ (ab < (ho (10 + x)))) → gW G X (wS G a ti se ho ri bo bc fs fc) 0 0 18 [(0, .ref (a 0)), (1, .int (nI x)), (2, .int (nI y)), (3, .int ab)] [.int y3] := by
    intro y3 ey3
    subst ey3
    refine x_istore (lv' := [(4, .int (bI (¬ (ab < (ho (10 + x)))))), (0, .ref (a 0)), (1, .int (nI x)), (2, .int (nI y)), (3, .int ab)]) C dX2_isBetter_18 (by decide) rfl ?_
    refine x_aload_n C 1 rfl dX2_isBetter_20 rfl ?_
    refine x_get (k := 2) (v := .ref (a 3)) C dX2_isBetter_21 layX2 fl_X2_20 0 rfl rfl (by decide) rfl ?_
    refine x_iconst (v := (nI 1)) C dX2_isBetter_24 (by decide) ?_
    refine x_iload_n C 3 rfl dX2_isBetter_25 rfl ?_
    refine x_callVd (As := [.int (nI 1), .int (nI y)]) (rest := []) C dX2_isBetter_26 (c_X3_at (gX.l X) G (a 3) (a 4) 10 90 ho 1 y (10 + y) (by omega) (by omega) (by omega) (by omega) (by omega)) ml_X2_58 im_X3_at sl_X3_at in_X3 cd_X3_at hd_X3_at 0 rfl rfl rfl rfl (Nat.le_of_ble_eq_true rfl) ⟨Nat.le_of_ble_eq_true rfl, Nat.le_of_ble_eq_true rfl⟩ (List.take 3 (wS G a ti se ho ri bo bc fs fc)) (List.drop 5 (wS G a ti se ho ri bo bc fs fc)) rfl (ws' := (wS G a ti se ho ri bo bc fs fc)) rfl (st' := [.int (ho (10 + y))]) rfl ⟨rfl, rfl⟩ ⟨Nat.le_of_ble_eq_true rfl, Nat.le_of_ble_eq_true rfl⟩ ?_
    refine x_iload_n C 4 rfl dX2_isBetter_29 rfl ?_
    have J5 : ∀ (y6 : Int32) , y6 = bI (¬ (ab < (ho (10 + y)))) → gW G X (wS G a ti se ho ri bo bc fs fc) 0 0 38 [(4, .int (bI (¬ (ab < (ho (10 + x)))))), (0, .ref (a 0)), (1, .int (nI x)), (2, .int (nI y)), (3, .int ab)] [.int y6] := by
      intro y6 ey6
      subst ey6
      refine x_istore (lv' := [(5, .int (bI (¬ (ab < (ho (10 + y)))))), (4, .int (bI (¬ (ab < (ho (10 + x)))))), (0, .ref (a 0)), (1, .int (nI x)), (2, .int (nI y)), (3, .int ab)]) C dX2_isBetter_38 (by decide) rfl ?_
      refine x_iload C 1 rfl dX2_isBetter_40 ?_
      refine x_iload C 0 rfl dX2_isBetter_42 ?_
      refine x_icmp_eq (x := (bI (¬ (ab < (ho (10 + x)))))) (y := (bI (¬ (ab < (ho (10 + y)))))) (tgt := 50) C dX2_isBetter_44 (by decide) (fun c7 => ?_) (fun c7 => ?_)
      · refine x_aload_n C 2 rfl dX2_isBetter_50 rfl ?_
        refine x_get (k := 2) (v := .ref (a 3)) C dX2_isBetter_51 layX2 fl_X2_20 0 rfl rfl (by decide) rfl ?_
        refine x_iconst (v := (nI 2)) C dX2_isBetter_54 (by decide) ?_
        refine x_iload_n C 3 rfl dX2_isBetter_55 rfl ?_
        refine x_callVd (As := [.int (nI 2), .int (nI x)]) (rest := []) C dX2_isBetter_56 (c_X3_at (gX.l X) G (a 3) (a 4) 10 90 ho 2 x (20 + x) (by omega) (by omega) (by omega) (by omega) (by omega)) ml_X2_58 im_X3_at sl_X3_at in_X3 cd_X3_at hd_X3_at 0 rfl rfl rfl rfl (Nat.le_of_ble_eq_true rfl) ⟨Nat.le_of_ble_eq_true rfl, Nat.le_of_ble_eq_true rfl⟩ (List.take 3 (wS G a ti se ho ri bo bc fs fc)) (List.drop 5 (wS G a ti se ho ri bo bc fs fc)) rfl (ws' := (wS G a ti se ho ri bo bc fs fc)) rfl (st' := [.int (ho (20 + x))]) rfl ⟨rfl, rfl⟩ ⟨Nat.le_of_ble_eq_true rfl, Nat.le_of_ble_eq_true rfl⟩ ?_
        refine x_aload_n C 2 rfl dX2_isBetter_59 rfl ?_
        refine x_get (k := 2) (v := .ref (a 3)) C dX2_isBetter_60 layX2 fl_X2_20 0 rfl rfl (by decide) rfl ?_
        refine x_iconst (v := (nI 2)) C dX2_isBetter_63 (by decide) ?_
        refine x_iload_n C 4 rfl dX2_isBetter_64 rfl ?_
        refine x_callVd (As := [.int (nI 2), .int (nI y)]) (rest := [.int (ho (20 + x))]) C dX2_isBetter_65 (c_X3_at (gX.l X) G (a 3) (a 4) 10 90 ho 2 y (20 + y) (by omega) (by omega) (by omega) (by omega) (by omega)) ml_X2_58 im_X3_at sl_X3_at in_X3 cd_X3_at hd_X3_at 0 rfl rfl rfl rfl (Nat.le_of_ble_eq_true rfl) ⟨Nat.le_of_ble_eq_true rfl, Nat.le_of_ble_eq_true rfl⟩ (List.take 3 (wS G a ti se ho ri bo bc fs fc)) (List.drop 5 (wS G a ti se ho ri bo bc fs fc)) rfl (ws' := (wS G a ti se ho ri bo bc fs fc)) rfl (st' := [.int (ho (20 + y)), .int (ho (20 + x))]) rfl ⟨rfl, rfl⟩ ⟨Nat.le_of_ble_eq_true rfl, Nat.le_of_ble_eq_true rfl⟩ ?_
        refine x_isub (x := (ho (20 + x))) (y := (ho (20 + y))) C dX2_isBetter_68 ?_
        refine x_istore (lv' := [(6, .int ((ho (20 + x)) - (ho (20 + y)))), (5, .int (bI (¬ (ab < (ho (10 + y)))))), (4, .int (bI (¬ (ab < (ho (10 + x)))))), (0, .ref (a 0)), (1, .int (nI x)), (2, .int (nI y)), (3, .int ab)]) C dX2_isBetter_69 (by decide) rfl ?_
        refine x_aload_n C 3 rfl dX2_isBetter_71 rfl ?_
        refine x_get (k := 2) (v := .ref (a 3)) C dX2_isBetter_72 layX2 fl_X2_20 0 rfl rfl (by decide) rfl ?_
        refine x_iconst (v := (nI 0)) C dX2_isBetter_75 (by decide) ?_
        refine x_iload_n C 4 rfl dX2_isBetter_76 rfl ?_
        refine x_callVd (As := [.int (nI 0), .int (nI x)]) (rest := []) C dX2_isBetter_77 (c_X3_at (gX.l X) G (a 3) (a 4) 10 90 ho 0 x x (by omega) (by omega) (by omega) (by omega) (by omega)) ml_X2_58 im_X3_at sl_X3_at in_X3 cd_X3_at hd_X3_at 0 rfl rfl rfl rfl (Nat.le_of_ble_eq_true rfl) ⟨Nat.le_of_ble_eq_true rfl, Nat.le_of_ble_eq_true rfl⟩ (List.take 3 (wS G a ti se ho ri bo bc fs fc)) (List.drop 5 (wS G a ti se ho ri bo bc fs fc)) rfl (ws' := (wS G a ti se ho ri bo bc fs fc)) rfl (st' := [.int (ho x)]) rfl ⟨rfl, rfl⟩ ⟨Nat.le_of_ble_eq_true rfl, Nat.le_of_ble_eq_true rfl⟩ ?_
        refine x_aload_n C 3 rfl dX2_isBetter_80 rfl ?_
        refine x_get (k := 2) (v := .ref (a 3)) C dX2_isBetter_81 layX2 fl_X2_20 0 rfl rfl (by decide) rfl ?_
        refine x_iconst (v := (nI 0)) C dX2_isBetter_84 (by decide) ?_
        refine x_iload_n C 5 rfl dX2_isBetter_85 rfl ?_
        refine x_callVd (As := [.int (nI 0), .int (nI y)]) (rest := [.int (ho x)]) C dX2_isBetter_86 (c_X3_at (gX.l X) G (a 3) (a 4) 10 90 ho 0 y y (by omega) (by omega) (by omega) (by omega) (by omega)) ml_X2_58 im_X3_at sl_X3_at in_X3 cd_X3_at hd_X3_at 0 rfl rfl rfl rfl (Nat.le_of_ble_eq_true rfl) ⟨Nat.le_of_ble_eq_true rfl, Nat.le_of_ble_eq_true rfl⟩ (List.take 3 (wS G a ti se ho ri bo bc fs fc)) (List.drop 5 (wS G a ti se ho ri bo bc fs fc)) rfl (ws' := (wS G a ti se ho ri bo bc fs fc)) rfl (st' := [.int (ho y), .int (ho x)]) rfl ⟨rfl, rfl⟩ ⟨Nat.le_of_ble_eq_true rfl, Nat.le_of_ble_eq_true rfl⟩ ?_
        refine x_isub (x := (ho x)) (y := (ho y)) C dX2_isBetter_89 ?_
        refine x_istore (lv' := [(7, .int ((ho x) - (ho y))), (6, .int ((ho (20 + x)) - (ho (20 + y)))), (5, .int (bI (¬ (ab < (ho (10 + y)))))), (4, .int (bI (¬ (ab < (ho (10 + x)))))), (0, .ref (a 0)), (1, .int (nI x)), (2, .int (nI y)), (3, .int ab)]) C dX2_isBetter_90 (by decide) rfl ?_
        refine x_iload C 1 rfl dX2_isBetter_92 ?_
        have J11 : ∀ (y12 : Int32) , y12 = bI ((((ho (20 + x)) - (ho (20 + y))) < 0) ∨ ((((ho (20 + x)) - (ho (20 + y))) = 0) ∧ (((ho x) - (ho y)) < 0))) → gW G X (wS G a ti se ho ri bo bc fs fc) 0 0 112 [(7, .int ((ho x) - (ho y))), (6, .int ((ho (20 + x)) - (ho (20 + y)))), (5, .int (bI (¬ (ab < (ho (10 + y)))))), (4, .int (bI (¬ (ab < (ho (10 + x)))))), (0, .ref (a 0)), (1, .int (nI x)), (2, .int (nI y)), (3, .int ab)] [.int y12] := by
          intro y12 ey12
          subst ey12
          exact x_zret C hr bI_nar E dX2_isBetter_112 (fun _ => 0) (c_better_same (by assumption)) rfl
        refine x_if_lt (x := ((ho (20 + x)) - (ho (20 + y)))) (tgt := 107) C dX2_isBetter_94 (by decide) (fun c8 => ?_) (fun c8 => ?_)
        · refine x_iconst (v := (nI 1)) C dX2_isBetter_107 (by decide) ?_
          refine x_goto (tgt := 112) C dX2_isBetter_108 (by decide) ?_
          exact J11 (nI 1) (bI_t (by simp only [c8, if_true, if_false, ite_true, ite_false, and_true, true_and, and_false, false_and, or_true, true_or, or_false, false_or, not_true_eq_false, not_false_eq_true, and_self, or_self] <;> decide)).symm
        · refine x_iload C 1 rfl dX2_isBetter_97 ?_
          refine x_if_ne (x := ((ho (20 + x)) - (ho (20 + y)))) (tgt := 111) C dX2_isBetter_99 (by decide) (fun c9 => ?_) (fun c9 => ?_)
          · refine x_iconst (v := (nI 0)) C dX2_isBetter_111 (by decide) ?_
            exact J11 (nI 0) (bI_f (by simp only [c8, c9, if_true, if_false, ite_true, ite_false, and_true, true_and, and_false, false_and, or_true, true_or, or_false, false_or, not_true_eq_false, not_false_eq_true, and_self, or_self] <;> decide)).symm
          · refine x_iload C 0 rfl dX2_isBetter_102 ?_
            refine x_if_ge (x := ((ho x) - (ho y))) (tgt := 111) C dX2_isBetter_104 (by decide) (fun c10 => ?_) (fun c10 => ?_)
            · refine x_iconst (v := (nI 0)) C dX2_isBetter_111 (by decide) ?_
              exact J11 (nI 0) (bI_f (by simp only [c8, c9, c10, if_true, if_false, ite_true, ite_false, and_true, true_and, and_false, false_and, or_true, true_or, or_false, false_or, not_true_eq_false, not_false_eq_true, and_self, or_self] <;> decide)).symm
            · refine x_iconst (v := (nI 1)) C dX2_isBetter_107 (by decide) ?_
              refine x_goto (tgt := 112) C dX2_isBetter_108 (by decide) ?_
              exact J11 (nI 1) (bI_t (by simp only [c8, c9, c10, if_true, if_false, ite_true, ite_false, and_true, true_and, and_false, false_and, or_true, true_or, or_false, false_or, not_true_eq_false, not_false_eq_true, and_self, or_self] <;> decide)).symm
      · refine x_iload C 1 rfl dX2_isBetter_47 ?_
        exact x_zret C hr bI_nar E dX2_isBetter_49 (fun _ => 0) (c_better_diff (by assumption)) rfl
    refine x_icmp_gt (x := (ho (10 + y))) (y := ab) (tgt := 37) C dX2_isBetter_30 (by decide) (fun c4 => ?_) (fun c4 => ?_)
    · refine x_iconst (v := (nI 0)) C dX2_isBetter_37 (by decide) ?_
      exact J5 (nI 0) (bI_f (by simp only [c4, if_true, if_false, ite_true, ite_false, and_true, true_and, and_false, false_and, or_true, true_or, or_false, false_or, not_true_eq_false, not_false_eq_true, and_self, or_self] <;> decide)).symm
    · refine x_iconst (v := (nI 1)) C dX2_isBetter_33 (by decide) ?_
      refine x_goto (tgt := 38) C dX2_isBetter_34 (by decide) ?_
      exact J5 (nI 1) (bI_t (by simp only [c4, if_true, if_false, ite_true, ite_false, and_true, true_and, and_false, false_and, or_true, true_or, or_false, false_or, not_true_eq_false, not_false_eq_true, and_self, or_self] <;> decide)).symm
  refine x_icmp_gt (x := (ho (10 + x))) (y := ab) (tgt := 17) C dX2_isBetter_10 (by decide) (fun c1 => ?_) (fun c1 => ?_)
  · refine x_iconst (v := (nI 0)) C dX2_isBetter_17 (by decide) ?_
    exact J2 (nI 0) (bI_f (by simp only [c1, if_true, if_false, ite_true, ite_false, and_true, true_and, and_false, false_and, or_true, true_or, or_false, false_or, not_true_eq_false, not_false_eq_true, and_self, or_self] <;> decide)).symm
  · refine x_iconst (v := (nI 1)) C dX2_isBetter_13 (by decide) ?_
    refine x_goto (tgt := 18) C dX2_isBetter_14 (by decide) ?_
    exact J2 (nI 1) (bI_t (by simp only [c1, if_true, if_false, ite_true, ite_false, and_true, true_and, and_false, false_and, or_true, true_or, or_false, false_or, not_true_eq_false, not_false_eq_true, and_self, or_self] <;> decide)).symm
def rm_X2_bestHorse : Room := { frames := 2, cells := 0, slots := 0, locals := 50 }
set_option maxRecDepth 100000 in
set_option maxHeartbeats 4000000 in
theorem c_X2_bestHorse (l : Launch) (G : gG) (a : Nat → Nat) (ti : Nat) (se ho ri bo : Nat → Int32) (bc : Nat) (fs : Nat → Int32) (fc : Nat) (r : Nat) (fa tk : Int32)  (hr0 : r < 12) : CT l yX2_bestHorse cX2_bestHorse 7 (some .int) rm_X2_bestHorse G [.ref (a 0), .int (nI r), .int fa, .int tk] (wS G a ti se ho ri bo bc fs fc) (some (.int (c_best se ho ri r fa tk))) (fun _ => (wS G a ti se ho ri bo bc fs fc)) := by
  refine gMet (by decide) (Nat.le_of_ble_eq_true rfl) (fun X hX C hr hin E => ?_)
  clear hX
  refine (show gW G X (wS G a ti se ho ri bo bc fs fc) 0 0 0 [(0, .ref (a 0)), (1, .int (nI r)), (2, .int fa), (3, .int tk)] [] from ?_)
  refine x_aload_n C 0 rfl dX2_bestHorse_0 rfl ?_
  refine x_iload_n C 1 rfl dX2_bestHorse_1 rfl ?_
  refine x_callVd (As := [.int (nI r)]) (rest := []) C dX2_bestHorse_2 (c_X2_abilityOf (gX.l X) G a ti se ho ri bo bc fs fc r (by omega)) ml_X2_66 im_X2_abilityOf sl_X2_abilityOf in_X2 cd_X2_abilityOf hd_X2_abilityOf 0 rfl rfl rfl rfl (Nat.le_of_ble_eq_true rfl) ⟨Nat.le_of_ble_eq_true rfl, Nat.le_of_ble_eq_true rfl⟩ (List.take 0 (wS G a ti se ho ri bo bc fs fc)) (List.drop 11 (wS G a ti se ho ri bo bc fs fc)) rfl (ws' := (wS G a ti se ho ri bo bc fs fc)) rfl (st' := [.int (c_abil ri r)]) rfl ⟨rfl, rfl⟩ ⟨Nat.le_of_ble_eq_true rfl, Nat.le_of_ble_eq_true rfl⟩ ?_
  refine x_istore (lv' := [(4, .int (c_abil ri r)), (0, .ref (a 0)), (1, .int (nI r)), (2, .int fa), (3, .int tk)]) C dX2_bestHorse_5 (by decide) rfl ?_
  refine x_bipush (v := (-5)) C dX2_bestHorse_7 (by decide) ?_
  refine x_istore (lv' := [(5, .int (-5)), (4, .int (c_abil ri r)), (0, .ref (a 0)), (1, .int (nI r)), (2, .int fa), (3, .int tk)]) C dX2_bestHorse_9 (by decide) rfl ?_
  refine x_iconst (v := (nI 0)) C dX2_bestHorse_11 (by decide) ?_
  refine x_istore (lv' := [(6, .int (nI 0)), (5, .int (-5)), (4, .int (c_abil ri r)), (0, .ref (a 0)), (1, .int (nI r)), (2, .int fa), (3, .int tk)]) C dX2_bestHorse_12 (by decide) rfl ?_
  have L1 : ∀ (fu : Nat) (h : Nat) (f : Int32), h + fu = 10 → f = c_bestL se ho ri r fa tk h → okH f → gW G X (wS G a ti se ho ri bo bc fs fc) 0 0 14 [(6, .int (nI h)), (5, .int f), (4, .int (c_abil ri r)), (0, .ref (a 0)), (1, .int (nI r)), (2, .int fa), (3, .int tk)] [] := by
    intro fu
    induction fu with
    | zero =>
      intro h f hn ha hf
      have hi : h = 10 := by omega
      refine x_iload C 0 rfl dX2_bestHorse_14 ?_
      refine x_bipush (v := (nI 10)) C dX2_bestHorse_16 (by decide) ?_
      refine x_icmp_geN (a := h) (b := 10) (tgt := 71) C dX2_bestHorse_18 (by decide) (by omega) (by omega) (fun c2 => ?_) (fun c2 => False.elim (by omega))
      refine x_iload C 1 rfl dX2_bestHorse_71 ?_
      exact x_iret C hr E dX2_bestHorse_73 (fun _ => 0) (by rw [ha, hi]; rfl) rfl
    | succ fu ih =>
      intro h f hn ha hf
      refine x_iload C 0 rfl dX2_bestHorse_14 ?_
      refine x_bipush (v := (nI 10)) C dX2_bestHorse_16 (by decide) ?_
      refine x_icmp_geN (a := h) (b := 10) (tgt := 71) C dX2_bestHorse_18 (by decide) (by omega) (by omega) (fun c3 => False.elim (by omega)) (fun c3 => ?_)
      refine x_iload_n C 6 rfl dX2_bestHorse_21 rfl ?_
      refine x_iload C 0 rfl dX2_bestHorse_22 ?_
      refine x_ishr (x := tk) (y := (nI h)) C dX2_bestHorse_24 ?_
      refine x_iconst (v := (nI 1)) C dX2_bestHorse_25 (by decide) ?_
      refine x_iand (x := (tk >>> ((nI h) &&& 31))) (y := 1) C dX2_bestHorse_26 ?_
      refine x_if_ne (x := ((tk >>> ((nI h) &&& 31)) &&& 1)) (tgt := 65) C dX2_bestHorse_27 (by decide) (fun c4 => ?_) (fun c4 => ?_)
      · refine x_iinc (v := (nI (h + 1))) (lv' := [(6, .int (nI (h + 1))), (5, .int f), (4, .int (c_abil ri r)), (0, .ref (a 0)), (1, .int (nI r)), (2, .int fa), (3, .int tk)]) C 0 rfl dX2_bestHorse_65 (by rw [show Int32.ofInt 1 = nI 1 from rfl]; exact nI_add _ _) (by decide) rfl ?_
        refine x_goto (tgt := 14) C dX2_bestHorse_68 (by decide) ?_
        exact ih (h + 1) f (by omega) (by simp only [c_bestL, ← ha, c_bestS, c_in, c3, c4,  if_true, if_false, ite_true, ite_false, and_true, true_and, and_false, false_and, or_true, true_or, or_false, false_or, not_true_eq_false, not_false_eq_true, and_self, or_self]) (by first | exact hf | exact Or.inr ⟨by rw [nC, nI_clamp (by omega)]; omega, by rw [nC, nI_clamp (by omega)]⟩)
      · refine x_aload_n C 3 rfl dX2_bestHorse_30 rfl ?_
        refine x_iload C 0 rfl dX2_bestHorse_31 ?_
        refine x_iload_n C 4 rfl dX2_bestHorse_33 rfl ?_
        refine x_iload_n C 5 rfl dX2_bestHorse_34 rfl ?_
        refine x_callVd (As := [.int (nI h), .int (nI r), .int fa]) (rest := []) C dX2_bestHorse_35 (c_X2_hindrance (gX.l X) G a ti se ho ri bo bc fs fc h r fa (by omega) (by omega)) ml_X2_103 im_X2_hindrance sl_X2_hindrance in_X2 cd_X2_hindrance hd_X2_hindrance 0 rfl rfl rfl rfl (Nat.le_of_ble_eq_true rfl) ⟨Nat.le_of_ble_eq_true rfl, Nat.le_of_ble_eq_true rfl⟩ (List.take 0 (wS G a ti se ho ri bo bc fs fc)) (List.drop 11 (wS G a ti se ho ri bo bc fs fc)) rfl (ws' := (wS G a ti se ho ri bo bc fs fc)) rfl (st' := [.int (c_hind se ho ri h r fa)]) rfl ⟨rfl, rfl⟩ ⟨Nat.le_of_ble_eq_true rfl, Nat.le_of_ble_eq_true rfl⟩ ?_
        refine x_if_ne (x := (c_hind se ho ri h r fa)) (tgt := 65) C dX2_bestHorse_38 (by decide) (fun c5 => ?_) (fun c5 => ?_)
        · refine x_iinc (v := (nI (h + 1))) (lv' := [(6, .int (nI (h + 1))), (5, .int f), (4, .int (c_abil ri r)), (0, .ref (a 0)), (1, .int (nI r)), (2, .int fa), (3, .int tk)]) C 0 rfl dX2_bestHorse_65 (by rw [show Int32.ofInt 1 = nI 1 from rfl]; exact nI_add _ _) (by decide) rfl ?_
          refine x_goto (tgt := 14) C dX2_bestHorse_68 (by decide) ?_
          exact ih (h + 1) f (by omega) (by simp only [c_bestL, ← ha, c_bestS, c_in, c3, c4, c5,  if_true, if_false, ite_true, ite_false, and_true, true_and, and_false, false_and, or_true, true_or, or_false, false_or, not_true_eq_false, not_false_eq_true, and_self, or_self]) (by first | exact hf | exact Or.inr ⟨by rw [nC, nI_clamp (by omega)]; omega, by rw [nC, nI_clamp (by omega)]⟩)
        · refine x_iload C 1 rfl dX2_bestHorse_41 ?_
          refine x_bipush (v := (-5)) C dX2_bestHorse_43 (by decide) ?_
          refine x_icmp_eq (x := f) (y := (-5)) (tgt := 61) C dX2_bestHorse_45 (by decide) (fun c6 => ?_) (fun c6 => ?_)
          · refine x_iload C 0 rfl dX2_bestHorse_61 ?_
            refine x_istore (lv' := [(5, .int (nI h)), (6, .int (nI h)), (4, .int (c_abil ri r)), (0, .ref (a 0)), (1, .int (nI r)), (2, .int fa), (3, .int tk)]) C dX2_bestHorse_63 (by decide) rfl ?_
            refine x_iinc (v := (nI (h + 1))) (lv' := [(6, .int (nI (h + 1))), (5, .int (nI h)), (4, .int (c_abil ri r)), (0, .ref (a 0)), (1, .int (nI r)), (2, .int fa), (3, .int tk)]) C 1 rfl dX2_bestHorse_65 (by rw [show Int32.ofInt 1 = nI 1 from rfl]; exact nI_add _ _) (by decide) rfl ?_
            refine x_goto (tgt := 14) C dX2_bestHorse_68 (by decide) ?_
            exact ih (h + 1) (nI h) (by omega) (by simp only [c_bestL, ← ha, c_bestS, c_in, c3, c4, c5, c6,  if_true, if_false, ite_true, ite_false, and_true, true_and, and_false, false_and, or_true, true_or, or_false, false_or, not_true_eq_false, not_false_eq_true, and_self, or_self]) (by first | exact hf | exact Or.inr ⟨by rw [nC, nI_clamp (by omega)]; omega, by rw [nC, nI_clamp (by omega)]⟩)
          · have hfn : nC f < 10 ∧ f = nI (nC f) := by
              rcases hf with h9 | h9
              · exact absurd h9 (by assumption)
              · exact h9
            refine x_aload_n C 3 rfl dX2_bestHorse_48 rfl ?_
            refine x_iload C 0 rfl dX2_bestHorse_49 ?_
            refine x_iload C 1 rfl dX2_bestHorse_51 ?_
            refine x_top (y := (nI (nC f))) hfn.2 ?_
            refine x_iload C 2 rfl dX2_bestHorse_53 ?_
            refine x_callVd (As := [.int (nI h), .int (nI (nC f)), .int (c_abil ri r)]) (rest := []) C dX2_bestHorse_55 (c_X2_isBetter (gX.l X) G a ti se ho ri bo bc fs fc h (nC f) (c_abil ri r) (by omega) (by omega)) ml_X2_107 im_X2_isBetter sl_X2_isBetter in_X2 cd_X2_isBetter hd_X2_isBetter 0 rfl rfl rfl rfl (Nat.le_of_ble_eq_true rfl) ⟨Nat.le_of_ble_eq_true rfl, Nat.le_of_ble_eq_true rfl⟩ (List.take 0 (wS G a ti se ho ri bo bc fs fc)) (List.drop 11 (wS G a ti se ho ri bo bc fs fc)) rfl (ws' := (wS G a ti se ho ri bo bc fs fc)) rfl (st' := [.int (bI (c_better ho h (nC f) (c_abil ri r)))]) rfl ⟨rfl, rfl⟩ ⟨Nat.le_of_ble_eq_true rfl, Nat.le_of_ble_eq_true rfl⟩ ?_
            refine x_if_eqB (P := c_better ho h (nC f) (c_abil ri r)) (tgt := 65) C dX2_bestHorse_58 (by decide) (fun c7 => ?_) (fun c7 => ?_)
            · refine x_iinc (v := (nI (h + 1))) (lv' := [(6, .int (nI (h + 1))), (5, .int f), (4, .int (c_abil ri r)), (0, .ref (a 0)), (1, .int (nI r)), (2, .int fa), (3, .int tk)]) C 0 rfl dX2_bestHorse_65 (by rw [show Int32.ofInt 1 = nI 1 from rfl]; exact nI_add _ _) (by decide) rfl ?_
              refine x_goto (tgt := 14) C dX2_bestHorse_68 (by decide) ?_
              exact ih (h + 1) f (by omega) (by simp only [c_bestL, ← ha, c_bestS, c_in, c3, c4, c5, c6, c7,  if_true, if_false, ite_true, ite_false, and_true, true_and, and_false, false_and, or_true, true_or, or_false, false_or, not_true_eq_false, not_false_eq_true, and_self, or_self]) (by first | exact hf | exact Or.inr ⟨by rw [nC, nI_clamp (by omega)]; omega, by rw [nC, nI_clamp (by omega)]⟩)
            · refine x_iload C 0 rfl dX2_bestHorse_61 ?_
              refine x_istore (lv' := [(5, .int (nI h)), (6, .int (nI h)), (4, .int (c_abil ri r)), (0, .ref (a 0)), (1, .int (nI r)), (2, .int fa), (3, .int tk)]) C dX2_bestHorse_63 (by decide) rfl ?_
              refine x_iinc (v := (nI (h + 1))) (lv' := [(6, .int (nI (h + 1))), (5, .int (nI h)), (4, .int (c_abil ri r)), (0, .ref (a 0)), (1, .int (nI r)), (2, .int fa), (3, .int tk)]) C 1 rfl dX2_bestHorse_65 (by rw [show Int32.ofInt 1 = nI 1 from rfl]; exact nI_add _ _) (by decide) rfl ?_
              refine x_goto (tgt := 14) C dX2_bestHorse_68 (by decide) ?_
              exact ih (h + 1) (nI h) (by omega) (by simp only [c_bestL, ← ha, c_bestS, c_in, c3, c4, c5, c6, c7,  if_true, if_false, ite_true, ite_false, and_true, true_and, and_false, false_and, or_true, true_or, or_false, false_or, not_true_eq_false, not_false_eq_true, and_self, or_self]) (by first | exact hf | exact Or.inr ⟨by rw [nC, nI_clamp (by omega)]; omega, by rw [nC, nI_clamp (by omega)]⟩)
  exact L1 10 0 (-5) (by omega) (by rfl) (by exact Or.inl rfl)
end
section
def rm_X2_bookingError : Room := { frames := 4, cells := 0, slots := 0, locals := 92 }
set_option maxRecDepth 100000 in
set_option maxHeartbeats 4000000 in
theorem c_X2_bookingError (l : Launch) (G : gG) (a : Nat → Nat) (ti : Nat) (se ho ri bo : Nat → Int32) (bc : Nat) (fs : Nat → Int32) (fc : Nat) (h g r : Nat)  (hbc : bc ≤ 40) (hg : g < 3) : CT l yX2_bookingError cX2_bookingError 5 (some .int) rm_X2_bookingError G [.ref (a 0), .int (nI h), .int (nI g), .int (nI r)] (wS G a ti se ho ri bo bc fs fc) (some (.int (c_bErr bo bc (nI (ti + h)) g r))) (fun _ => (wS G a ti se ho ri bo bc fs fc)) := by
  refine gMet (by decide) (Nat.le_of_ble_eq_true rfl) (fun X hX C hr hin E => ?_)
  clear hX
  refine (show gW G X (wS G a ti se ho ri bo bc fs fc) 0 0 0 [(0, .ref (a 0)), (1, .int (nI h)), (2, .int (nI g)), (3, .int (nI r))] [] from ?_)
  refine x_aload_n C 0 rfl dX2_bookingError_0 rfl ?_
  refine x_iload_n C 1 rfl dX2_bookingError_1 rfl ?_
  refine x_iload_n C 3 rfl dX2_bookingError_2 rfl ?_
  refine x_callVd (As := [.int (nI h), .int (nI r)]) (rest := []) C dX2_bookingError_3 (c_X2_findBooking (gX.l X) G a ti se ho ri bo bc fs fc h r (by omega)) ml_X2_84 im_X2_findBooking sl_X2_findBooking in_X2 cd_X2_findBooking hd_X2_findBooking 0 rfl rfl rfl rfl (Nat.le_of_ble_eq_true rfl) ⟨Nat.le_of_ble_eq_true rfl, Nat.le_of_ble_eq_true rfl⟩ (List.take 0 (wS G a ti se ho ri bo bc fs fc)) (List.drop 11 (wS G a ti se ho ri bo bc fs fc)) rfl (ws' := (wS G a ti se ho ri bo bc fs fc)) rfl (st' := [.int (c_find bo bc (nI (ti + h)) (nI r))]) rfl ⟨rfl, rfl⟩ ⟨Nat.le_of_ble_eq_true rfl, Nat.le_of_ble_eq_true rfl⟩ ?_
  refine x_bipush (v := (-5)) C dX2_bookingError_6 (by decide) ?_
  refine x_icmp_eq (x := (c_find bo bc (nI (ti + h)) (nI r))) (y := (-5)) (tgt := 14) C dX2_bookingError_8 (by decide) (fun c1 => ?_) (fun c1 => ?_)
  · refine x_aload_n C 0 rfl dX2_bookingError_14 rfl ?_
    refine x_iload_n C 1 rfl dX2_bookingError_15 rfl ?_
    refine x_iload_n C 2 rfl dX2_bookingError_16 rfl ?_
    refine x_callVd (As := [.int (nI h), .int (nI g)]) (rest := []) C dX2_bookingError_17 (c_X2_bookedFor (gX.l X) G a ti se ho ri bo bc fs fc h g (by omega)) ml_X2_87 im_X2_bookedFor sl_X2_bookedFor in_X2 cd_X2_bookedFor hd_X2_bookedFor 0 rfl rfl rfl rfl (Nat.le_of_ble_eq_true rfl) ⟨Nat.le_of_ble_eq_true rfl, Nat.le_of_ble_eq_true rfl⟩ (List.take 0 (wS G a ti se ho ri bo bc fs fc)) (List.drop 11 (wS G a ti se ho ri bo bc fs fc)) rfl (ws' := (wS G a ti se ho ri bo bc fs fc)) rfl (st' := [.int (c_bf bo (nI (ti + h)) (nI g) bc)]) rfl ⟨rfl, rfl⟩ ⟨Nat.le_of_ble_eq_true rfl, Nat.le_of_ble_eq_true rfl⟩ ?_
    refine x_getsN0 C dX2_bookingError_20 rfl ?_
    refine x_iload_n C 2 rfl dX2_bookingError_23 rfl ?_
    refine x_callSNd (As := [.ref (G.2.2 0), .int (nI g)]) (rest := [.int (c_bf bo (nI (ti + h)) (nI g) bc)]) C dX2_bookingError_24 (c_X5_entry0 (gX.l X) G g (by omega)) C.2.2.2.2.2.2.1.2.2.2.2.2.1 st_X5_entry in_X5 cd_X5_entry hd_X5_entry rfl rfl (Nat.le_of_ble_eq_true rfl) ⟨Nat.le_of_ble_eq_true rfl, Nat.le_of_ble_eq_true rfl⟩ [] (wS G a ti se ho ri bo bc fs fc) rfl (ws' := (wS G a ti se ho ri bo bc fs fc)) rfl (st' := [.int (sT 0 g), .int (c_bf bo (nI (ti + h)) (nI g) bc)]) rfl ⟨rfl, rfl⟩ ⟨Nat.le_of_ble_eq_true rfl, Nat.le_of_ble_eq_true rfl⟩ ?_
    refine x_icmp_lt (x := (c_bf bo (nI (ti + h)) (nI g) bc)) (y := (sT 0 g)) (tgt := 34) C dX2_bookingError_27 (by decide) (fun c2 => ?_) (fun c2 => ?_)
    · refine x_iconst (v := (nI 0)) C dX2_bookingError_34 (by decide) ?_
      refine x_istore (lv' := [(4, .int (nI 0)), (0, .ref (a 0)), (1, .int (nI h)), (2, .int (nI g)), (3, .int (nI r))]) C dX2_bookingError_35 (by decide) rfl ?_
      refine x_iload C 0 rfl dX2_bookingError_37 ?_
      refine x_if_neN (a := 0) (tgt := 51) C dX2_bookingError_39 (by decide) (by omega) (fun c3 => False.elim (by omega)) (fun c3 => ?_)
      refine x_aload_n C 1 rfl dX2_bookingError_42 rfl ?_
      refine x_get (k := 5) (v := .int (nI bc)) C dX2_bookingError_43 layX2 fl_X2_52 0 rfl rfl (by decide) rfl ?_
      refine x_bipush (v := (nI 40)) C dX2_bookingError_46 (by decide) ?_
      refine x_icmp_ltN (a := bc) (b := 40) (tgt := 56) C dX2_bookingError_48 (by decide) (by omega) (by omega) (fun c4 => ?_) (fun c4 => ?_)
      · refine x_iconst (v := (nI 0)) C dX2_bookingError_56 (by decide) ?_
        exact x_iret C hr E dX2_bookingError_57 (fun _ => 0) (by simp only [c_bErr, c1, c2, c3, c4,  if_true, if_false, ite_true, ite_false, and_true, true_and, and_false, false_and, or_true, true_or, or_false, false_or, not_true_eq_false, not_false_eq_true, and_self, or_self] <;> rfl) rfl
      · refine x_bipush (v := (-3)) C dX2_bookingError_51 (by decide) ?_
        refine x_goto (tgt := 57) C dX2_bookingError_53 (by decide) ?_
        exact x_iret C hr E dX2_bookingError_57 (fun _ => 0) (by simp only [c_bErr, c1, c2, c3, c4,  if_true, if_false, ite_true, ite_false, and_true, true_and, and_false, false_and, or_true, true_or, or_false, false_or, not_true_eq_false, not_false_eq_true, and_self, or_self] <;> rfl) rfl
    · refine x_iconst (v := (nI 1)) C dX2_bookingError_30 (by decide) ?_
      refine x_goto (tgt := 35) C dX2_bookingError_31 (by decide) ?_
      refine x_istore (lv' := [(4, .int (nI 1)), (0, .ref (a 0)), (1, .int (nI h)), (2, .int (nI g)), (3, .int (nI r))]) C dX2_bookingError_35 (by decide) rfl ?_
      refine x_iload C 0 rfl dX2_bookingError_37 ?_
      refine x_if_neN (a := 1) (tgt := 51) C dX2_bookingError_39 (by decide) (by omega) (fun c5 => ?_) (fun c5 => False.elim (by omega))
      refine x_bipush (v := (-3)) C dX2_bookingError_51 (by decide) ?_
      refine x_goto (tgt := 57) C dX2_bookingError_53 (by decide) ?_
      exact x_iret C hr E dX2_bookingError_57 (fun _ => 0) (by simp only [c_bErr, c1, c2, c5,  if_true, if_false, ite_true, ite_false, and_true, true_and, and_false, false_and, or_true, true_or, or_false, false_or, not_true_eq_false, not_false_eq_true, and_self, or_self] <;> rfl) rfl
  · refine x_bipush (v := (-4)) C dX2_bookingError_11 (by decide) ?_
    exact x_iret C hr E dX2_bookingError_13 (fun _ => 0) (by simp only [c_bErr, c1,  if_true, if_false, ite_true, ite_false, and_true, true_and, and_false, false_and, or_true, true_or, or_false, false_or, not_true_eq_false, not_false_eq_true, and_self, or_self] <;> rfl) rfl
def rm_X2_addBooking : Room := { frames := 1, cells := 0, slots := 0, locals := 24 }
set_option maxRecDepth 100000 in
set_option maxHeartbeats 4000000 in
theorem c_X2_addBooking (l : Launch) (G : gG) (a : Nat → Nat) (ti : Nat) (se ho ri bo : Nat → Int32) (bc : Nat) (fs : Nat → Int32) (fc : Nat) (h : Nat) (g r : Int32)  (hbc : bc < 40) : CT l yX2_addBooking cX2_addBooking 4 none rm_X2_addBooking G [.ref (a 0), .int (nI h), .int g, .int r] (wS G a ti se ho ri bo bc fs fc) none (fun _ => (wS G a ti se ho ri (c_addB bo bc (nI (ti + h)) g r) (bc + 1) fs fc)) := by
  refine gMet (by decide) (Nat.le_of_ble_eq_true rfl) (fun X hX C hr hin E => ?_)
  clear hX
  refine (show gW G X (wS G a ti se ho ri bo bc fs fc) 0 0 0 [(0, .ref (a 0)), (1, .int (nI h)), (2, .int g), (3, .int r)] [] from ?_)
  refine x_aload_n C 0 rfl dX2_addBooking_0 rfl ?_
  refine x_get (k := 4) (v := .ref (a 7)) C dX2_addBooking_1 layX2 fl_X2_26 0 rfl rfl (by decide) rfl ?_
  refine x_iconst (v := (nI 0)) C dX2_addBooking_4 (by decide) ?_
  refine x_aload_n C 0 rfl dX2_addBooking_5 rfl ?_
  refine x_get (k := 5) (v := .int (nI bc)) C dX2_addBooking_6 layX2 fl_X2_52 0 rfl rfl (by decide) rfl ?_
  refine x_aload_n C 0 rfl dX2_addBooking_9 rfl ?_
  refine x_get (k := 0) (v := .int (nI ti)) C dX2_addBooking_10 layX2 fl_X2_44 0 rfl rfl (by decide) rfl ?_
  refine x_iload_n C 1 rfl dX2_addBooking_13 rfl ?_
  refine x_iaddN C dX2_addBooking_14 ?_
  refine x_callVd (As := [.int (nI 0), .int (nI bc), .int (nI (ti + h))]) (rest := []) C dX2_addBooking_15 (c_X3_put (gX.l X) G (a 7) (a 8) 40 120 bo 0 bc bc (nI (ti + h)) (by omega) (by omega) (by omega) (by omega) (by omega)) ml_X2_40 im_X3_put sl_X3_put in_X3 cd_X3_put hd_X3_put 0 rfl rfl rfl rfl (Nat.le_of_ble_eq_true rfl) ⟨Nat.le_of_ble_eq_true rfl, Nat.le_of_ble_eq_true rfl⟩ (List.take 7 (wS G a ti se ho ri bo bc fs fc)) (List.drop 9 (wS G a ti se ho ri bo bc fs fc)) rfl (ws' := (wS G a ti se ho ri (upd bo bc (nI (ti + h))) bc fs fc)) rfl (st' := []) rfl ⟨rfl, rfl⟩ ⟨Nat.le_of_ble_eq_true rfl, Nat.le_of_ble_eq_true rfl⟩ ?_
  refine x_aload_n C 0 rfl dX2_addBooking_18 rfl ?_
  refine x_get (k := 4) (v := .ref (a 7)) C dX2_addBooking_19 layX2 fl_X2_26 0 rfl rfl (by decide) rfl ?_
  refine x_iconst (v := (nI 1)) C dX2_addBooking_22 (by decide) ?_
  refine x_aload_n C 0 rfl dX2_addBooking_23 rfl ?_
  refine x_get (k := 5) (v := .int (nI bc)) C dX2_addBooking_24 layX2 fl_X2_52 0 rfl rfl (by decide) rfl ?_
  refine x_iload_n C 2 rfl dX2_addBooking_27 rfl ?_
  refine x_callVd (As := [.int (nI 1), .int (nI bc), .int g]) (rest := []) C dX2_addBooking_28 (c_X3_put (gX.l X) G (a 7) (a 8) 40 120 (upd bo bc (nI (ti + h))) 1 bc (40 + bc) g (by omega) (by omega) (by omega) (by omega) (by omega)) ml_X2_40 im_X3_put sl_X3_put in_X3 cd_X3_put hd_X3_put 0 rfl rfl rfl rfl (Nat.le_of_ble_eq_true rfl) ⟨Nat.le_of_ble_eq_true rfl, Nat.le_of_ble_eq_true rfl⟩ (List.take 7 (wS G a ti se ho ri (upd bo bc (nI (ti + h))) bc fs fc)) (List.drop 9 (wS G a ti se ho ri (upd bo bc (nI (ti + h))) bc fs fc)) rfl (ws' := (wS G a ti se ho ri (upd (upd bo bc (nI (ti + h))) (40 + bc) g) bc fs fc)) rfl (st' := []) rfl ⟨rfl, rfl⟩ ⟨Nat.le_of_ble_eq_true rfl, Nat.le_of_ble_eq_true rfl⟩ ?_
  refine x_aload_n C 0 rfl dX2_addBooking_31 rfl ?_
  refine x_get (k := 4) (v := .ref (a 7)) C dX2_addBooking_32 layX2 fl_X2_26 0 rfl rfl (by decide) rfl ?_
  refine x_iconst (v := (nI 2)) C dX2_addBooking_35 (by decide) ?_
  refine x_aload_n C 0 rfl dX2_addBooking_36 rfl ?_
  refine x_get (k := 5) (v := .int (nI bc)) C dX2_addBooking_37 layX2 fl_X2_52 0 rfl rfl (by decide) rfl ?_
  refine x_iload_n C 3 rfl dX2_addBooking_40 rfl ?_
  refine x_callVd (As := [.int (nI 2), .int (nI bc), .int r]) (rest := []) C dX2_addBooking_41 (c_X3_put (gX.l X) G (a 7) (a 8) 40 120 (upd (upd bo bc (nI (ti + h))) (40 + bc) g) 2 bc (80 + bc) r (by omega) (by omega) (by omega) (by omega) (by omega)) ml_X2_40 im_X3_put sl_X3_put in_X3 cd_X3_put hd_X3_put 0 rfl rfl rfl rfl (Nat.le_of_ble_eq_true rfl) ⟨Nat.le_of_ble_eq_true rfl, Nat.le_of_ble_eq_true rfl⟩ (List.take 7 (wS G a ti se ho ri (upd (upd bo bc (nI (ti + h))) (40 + bc) g) bc fs fc)) (List.drop 9 (wS G a ti se ho ri (upd (upd bo bc (nI (ti + h))) (40 + bc) g) bc fs fc)) rfl (ws' := (wS G a ti se ho ri (upd (upd (upd bo bc (nI (ti + h))) (40 + bc) g) (80 + bc) r) bc fs fc)) rfl (st' := []) rfl ⟨rfl, rfl⟩ ⟨Nat.le_of_ble_eq_true rfl, Nat.le_of_ble_eq_true rfl⟩ ?_
  refine x_aload_n C 0 rfl dX2_addBooking_44 rfl ?_
  refine x_aload_n C 0 rfl dX2_addBooking_45 rfl ?_
  refine x_get (k := 5) (v := .int (nI bc)) C dX2_addBooking_46 layX2 fl_X2_52 0 rfl rfl (by decide) rfl ?_
  refine x_iconst (v := (nI 1)) C dX2_addBooking_49 (by decide) ?_
  refine x_iaddN C dX2_addBooking_50 ?_
  refine x_bipush (v := (nI 40)) C dX2_addBooking_51 (by decide) ?_
  refine x_min (x := (nI (bc + 1))) (y := 40) C dX2_addBooking_53 ml_X2_93 st_J9_min_7cf53 in_J9 cd_J9_min_7cf53 (Nat.le_of_ble_eq_true rfl) ⟨Nat.le_of_ble_eq_true rfl, Nat.le_of_ble_eq_true rfl⟩ ⟨Nat.le_of_ble_eq_true rfl, Nat.le_of_ble_eq_true rfl⟩ ?_
  refine x_top (y := (nI (bc + 1))) (by rw [show (40 : Int32) = nI 40 from rfl, mnI_nI (by omega) (by omega), Nat.min_eq_left (by omega)]) ?_
  refine x_put (k := 5) (ws' := (wS G a ti se ho ri (upd (upd (upd bo bc (nI (ti + h))) (40 + bc) g) (80 + bc) r) (bc + 1) fs fc)) C dX2_addBooking_56 layX2 tyX2 tyX2_ok nmX2 fl_X2_52 0 rfl rfl (by decide) rfl rfl rfl rfl (Nat.le_of_ble_eq_true rfl) rfl ?_
  exact x_vret C hr E dX2_addBooking_59 (fun _ => 0) rfl
def rm_X2_removeBooking : Room := { frames := 2, cells := 0, slots := 0, locals := 48 }
set_option maxRecDepth 100000 in
set_option maxHeartbeats 4000000 in
theorem c_X2_removeBooking (l : Launch) (G : gG) (a : Nat → Nat) (ti : Nat) (se ho ri bo : Nat → Int32) (bc : Nat) (fs : Nat → Int32) (fc : Nat) (k : Nat)  (hbc : bc ≤ 40) (hk : k < bc) : CT l yX2_removeBooking cX2_removeBooking 3 none rm_X2_removeBooking G [.ref (a 0), .int (nI k)] (wS G a ti se ho ri bo bc fs fc) none (fun _ => (wS G a ti se ho ri (c_rmR (bc - (k + 1)) (k + 1) bo) (bc - 1) fs fc)) := by
  refine gMet (by decide) (Nat.le_of_ble_eq_true rfl) (fun X hX C hr hin E => ?_)
  clear hX
  refine (show gW G X (wS G a ti se ho ri bo bc fs fc) 0 0 0 [(0, .ref (a 0)), (1, .int (nI k))] [] from ?_)
  refine x_iload_n C 1 rfl dX2_removeBooking_0 rfl ?_
  refine x_iconst (v := (nI 1)) C dX2_removeBooking_1 (by decide) ?_
  refine x_iaddN C dX2_removeBooking_2 ?_
  refine x_istore_n (lv' := [(2, .int (nI (k + 1))), (0, .ref (a 0)), (1, .int (nI k))]) C dX2_removeBooking_3 rfl (by decide) rfl ?_
  have L1 : ∀ (fu : Nat) (i : Nat) (g : Nat → Int32), i + fu = bc → c_rmR fu i g = c_rmR (bc - (k + 1)) (k + 1) bo → 1 ≤ i → gW G X (wS G a ti se ho ri g bc fs fc) 0 0 4 [(2, .int (nI i)), (0, .ref (a 0)), (1, .int (nI k))] [] := by
    intro fu
    induction fu with
    | zero =>
      intro i g hn hg h1
      refine x_iload_n C 0 rfl dX2_removeBooking_4 rfl ?_
      refine x_aload_n C 1 rfl dX2_removeBooking_5 rfl ?_
      refine x_get (k := 5) (v := .int (nI bc)) C dX2_removeBooking_6 layX2 fl_X2_52 0 rfl rfl (by decide) rfl ?_
      refine x_icmp_geN (a := i) (b := bc) (tgt := 30) C dX2_removeBooking_9 (by decide) (by omega) (by omega) (fun c2 => ?_) (fun c2 => False.elim (by omega))
      refine x_aload_n C 1 rfl dX2_removeBooking_30 rfl ?_
      refine x_aload_n C 1 rfl dX2_removeBooking_31 rfl ?_
      refine x_get (k := 5) (v := .int (nI bc)) C dX2_removeBooking_32 layX2 fl_X2_52 0 rfl rfl (by decide) rfl ?_
      refine x_iconst (v := (nI 1)) C dX2_removeBooking_35 (by decide) ?_
      refine x_isubN C dX2_removeBooking_36 (by omega) ?_
      refine x_iconst (v := (nI 0)) C dX2_removeBooking_37 (by decide) ?_
      refine x_max (x := (nI (bc - 1))) (y := 0) C dX2_removeBooking_38 ml_X2_72 st_J9_max_7cf53 in_J9 cd_J9_max_7cf53 (Nat.le_of_ble_eq_true rfl) ⟨Nat.le_of_ble_eq_true rfl, Nat.le_of_ble_eq_true rfl⟩ ⟨Nat.le_of_ble_eq_true rfl, Nat.le_of_ble_eq_true rfl⟩ ?_
      refine x_top (y := (nI (bc - 1))) (by rw [show (0 : Int32) = nI 0 from rfl, mxI_nI (by omega) (by omega), Nat.max_eq_left (by omega)]) ?_
      refine x_put (k := 5) (ws' := (wS G a ti se ho ri g (bc - 1) fs fc)) C dX2_removeBooking_41 layX2 tyX2 tyX2_ok nmX2 fl_X2_52 0 rfl rfl (by decide) rfl rfl rfl rfl (Nat.le_of_ble_eq_true rfl) rfl ?_
      exact x_vret C hr E dX2_removeBooking_44 (fun _ => 0) (by rw [← hg]; rfl)
    | succ fu ih =>
      intro i g hn hg h1
      refine x_iload_n C 0 rfl dX2_removeBooking_4 rfl ?_
      refine x_aload_n C 1 rfl dX2_removeBooking_5 rfl ?_
      refine x_get (k := 5) (v := .int (nI bc)) C dX2_removeBooking_6 layX2 fl_X2_52 0 rfl rfl (by decide) rfl ?_
      refine x_icmp_geN (a := i) (b := bc) (tgt := 30) C dX2_removeBooking_9 (by decide) (by omega) (by omega) (fun c3 => False.elim (by omega)) (fun c3 => ?_)
      refine x_aload_n C 1 rfl dX2_removeBooking_12 rfl ?_
      refine x_get (k := 4) (v := .ref (a 7)) C dX2_removeBooking_13 layX2 fl_X2_26 0 rfl rfl (by decide) rfl ?_
      refine x_iload_n C 0 rfl dX2_removeBooking_16 rfl ?_
      refine x_iload_n C 0 rfl dX2_removeBooking_17 rfl ?_
      refine x_iconst (v := (nI 1)) C dX2_removeBooking_18 (by decide) ?_
      refine x_isubN C dX2_removeBooking_19 (by omega) ?_
      refine x_iconst (v := (nI 3)) C dX2_removeBooking_20 (by decide) ?_
      refine x_callVd (As := [.int (nI i), .int (nI (i - 1)), .int (nI 3)]) (rest := []) C dX2_removeBooking_21 (c_X3_moveColumn (gX.l X) G (a 7) (a 8) g i (i - 1) (by omega) (by omega)) ml_X2_96 im_X3_moveColumn sl_X3_moveColumn in_X3 cd_X3_moveColumn hd_X3_moveColumn 0 rfl rfl rfl rfl (Nat.le_of_ble_eq_true rfl) ⟨Nat.le_of_ble_eq_true rfl, Nat.le_of_ble_eq_true rfl⟩ (List.take 7 (wS G a ti se ho ri g bc fs fc)) (List.drop 9 (wS G a ti se ho ri g bc fs fc)) rfl (ws' := (wS G a ti se ho ri (mvC g 40 i (i - 1) 3) bc fs fc)) rfl (st' := []) rfl ⟨rfl, rfl⟩ ⟨Nat.le_of_ble_eq_true rfl, Nat.le_of_ble_eq_true rfl⟩ ?_
      refine x_iinc (v := (nI (i + 1))) (lv' := [(2, .int (nI (i + 1))), (0, .ref (a 0)), (1, .int (nI k))]) C 0 rfl dX2_removeBooking_24 (by rw [show Int32.ofInt 1 = nI 1 from rfl]; exact nI_add _ _) (by decide) rfl ?_
      refine x_goto (tgt := 4) C dX2_removeBooking_27 (by decide) ?_
      exact ih (i + 1) (mvC g 40 i (i - 1) 3) (by omega) (by exact hg) (by omega)
  exact L1 (bc - (k + 1)) (k + 1) bo (by omega) (by rfl) (by omega)
def rm_X2_ofFall : Room := { frames := 1, cells := 0, slots := 0, locals := 23 }
set_option maxRecDepth 100000 in
set_option maxHeartbeats 4000000 in
theorem c_X2_ofFall (l : Launch) (G : gG) (a : Nat → Nat) (ti : Nat) (se ho ri bo : Nat → Int32) (bc : Nat) (fs : Nat → Int32) (fc : Nat) (k w : Nat)  (hw : w < 3) (hfc : fc < 2 ^ 30) (hk : k < 2 ^ 31) : CT l yX2_ofFall cX2_ofFall 3 (some .int) rm_X2_ofFall G [.ref (a 0), .int (nI k), .int (nI w)] (wS G a ti se ho ri bo bc fs fc) (some (.int (c_ofFall fs fc k w))) (fun _ => (wS G a ti se ho ri bo bc fs fc)) := by
  refine gMet (by decide) (Nat.le_of_ble_eq_true rfl) (fun X hX C hr hin E => ?_)
  clear hX
  refine (show gW G X (wS G a ti se ho ri bo bc fs fc) 0 0 0 [(0, .ref (a 0)), (1, .int (nI k)), (2, .int (nI w))] [] from ?_)
  refine x_iload_n C 1 rfl dX2_ofFall_0 rfl ?_
  refine x_if_ltN (a := k) (tgt := 17) C dX2_ofFall_1 (by decide) (by omega) (fun c1 => False.elim (by omega)) (fun c1 => ?_)
  refine x_iload_n C 1 rfl dX2_ofFall_4 rfl ?_
  refine x_aload_n C 0 rfl dX2_ofFall_5 rfl ?_
  refine x_get (k := 7) (v := .int (nI fc)) C dX2_ofFall_6 layX2 fl_X2_55 0 rfl rfl (by decide) rfl ?_
  refine x_bipush (v := (nI 20)) C dX2_ofFall_9 (by decide) ?_
  refine x_min (x := (nI fc)) (y := 20) C dX2_ofFall_11 ml_X2_93 st_J9_min_7cf53 in_J9 cd_J9_min_7cf53 (Nat.le_of_ble_eq_true rfl) ⟨Nat.le_of_ble_eq_true rfl, Nat.le_of_ble_eq_true rfl⟩ ⟨Nat.le_of_ble_eq_true rfl, Nat.le_of_ble_eq_true rfl⟩ ?_
  refine x_top (y := (nI (min fc 20))) (by rw [show (20 : Int32) = nI 20 from rfl, mnI_nI (by omega) (by omega)]) ?_
  refine x_icmp_ltN (a := k) (b := (min fc 20)) (tgt := 20) C dX2_ofFall_14 (by decide) (by omega) (by omega) (fun c2 => ?_) (fun c2 => ?_)
  · refine x_aload_n C 0 rfl dX2_ofFall_20 rfl ?_
    refine x_get (k := 6) (v := .ref (a 9)) C dX2_ofFall_21 layX2 fl_X2_29 0 rfl rfl (by decide) rfl ?_
    refine x_iload_n C 2 rfl dX2_ofFall_24 rfl ?_
    refine x_aload_n C 0 rfl dX2_ofFall_25 rfl ?_
    refine x_get (k := 7) (v := .int (nI fc)) C dX2_ofFall_26 layX2 fl_X2_55 0 rfl rfl (by decide) rfl ?_
    refine x_iconst (v := (nI 1)) C dX2_ofFall_29 (by decide) ?_
    refine x_isubN C dX2_ofFall_30 (by omega) ?_
    refine x_iload_n C 1 rfl dX2_ofFall_31 rfl ?_
    refine x_isubN C dX2_ofFall_32 (by omega) ?_
    refine x_bipush (v := (nI 20)) C dX2_ofFall_33 (by decide) ?_
    refine x_iremN C dX2_ofFall_35 (by omega) (by omega) (by omega) ?_
    refine x_callVd (As := [.int (nI w), .int (nI (((fc - 1) - k) % 20))]) (rest := []) C dX2_ofFall_36 (c_X3_at (gX.l X) G (a 9) (a 10) 20 60 fs w (((fc - 1) - k) % 20) (w * 20 + (((fc - 1) - k) % 20)) (by omega) (by omega) (by omega) (by omega) (by omega)) ml_X2_58 im_X3_at sl_X3_at in_X3 cd_X3_at hd_X3_at 0 rfl rfl rfl rfl (Nat.le_of_ble_eq_true rfl) ⟨Nat.le_of_ble_eq_true rfl, Nat.le_of_ble_eq_true rfl⟩ (List.take 9 (wS G a ti se ho ri bo bc fs fc)) (List.drop 11 (wS G a ti se ho ri bo bc fs fc)) rfl (ws' := (wS G a ti se ho ri bo bc fs fc)) rfl (st' := [.int (fs (w * 20 + (((fc - 1) - k) % 20)))]) rfl ⟨rfl, rfl⟩ ⟨Nat.le_of_ble_eq_true rfl, Nat.le_of_ble_eq_true rfl⟩ ?_
    exact x_iret C hr E dX2_ofFall_39 (fun _ => 0) (by simp only [c_ofFall, c1, c2,  if_true, if_false, ite_true, ite_false, and_true, true_and, and_false, false_and, or_true, true_or, or_false, false_or, not_true_eq_false, not_false_eq_true, and_self, or_self] <;> rfl) rfl
  · refine x_bipush (v := (-5)) C dX2_ofFall_17 (by decide) ?_
    exact x_iret C hr E dX2_ofFall_19 (fun _ => 0) (by simp only [c_ofFall, c1, c2,  if_true, if_false, ite_true, ite_false, and_true, true_and, and_false, false_and, or_true, true_or, or_false, false_or, not_true_eq_false, not_false_eq_true, and_self, or_self] <;> rfl) rfl
def rm_X2_letFall : Room := { frames := 2, cells := 0, slots := 0, locals := 47 }
set_option maxRecDepth 100000 in
set_option maxHeartbeats 4000000 in
theorem c_X2_letFall (l : Launch) (G : gG) (a : Nat → Nat) (ti : Nat) (se ho ri bo : Nat → Int32) (bc : Nat) (fs : Nat → Int32) (fc : Nat) (r h : Nat)  (hr0 : r < 12) (hh : h < 10) (hfc : fc < 2 ^ 30) : CT l yX2_letFall cX2_letFall 4 none rm_X2_letFall G [.ref (a 0), .int (nI r), .int (nI h)] (wS G a ti se ho ri bo bc fs fc) none (fun _ => (wS G a ti se (c_fallHo ho h) (c_fallRi ri r) bo bc (c_fallFs fs fc ti r h) (fc + 1))) := by
  refine gMet (by decide) (Nat.le_of_ble_eq_true rfl) (fun X hX C hr hin E => ?_)
  clear hX
  refine (show gW G X (wS G a ti se ho ri bo bc fs fc) 0 0 0 [(0, .ref (a 0)), (1, .int (nI r)), (2, .int (nI h))] [] from ?_)
  refine x_aload_n C 0 rfl dX2_letFall_0 rfl ?_
  refine x_get (k := 3) (v := .ref (a 5)) C dX2_letFall_1 layX2 fl_X2_23 0 rfl rfl (by decide) rfl ?_
  refine x_iconst (v := (nI 2)) C dX2_letFall_4 (by decide) ?_
  refine x_iload_n C 1 rfl dX2_letFall_5 rfl ?_
  refine x_bipush (v := (nI 9)) C dX2_letFall_6 (by decide) ?_
  refine x_callVd (As := [.int (nI 2), .int (nI r), .int (nI 9)]) (rest := []) C dX2_letFall_8 (c_X3_addUpTo (gX.l X) G (a 5) (a 6) 12 120 ri 2 r (24 + r) 9 (by omega) (by omega) (by omega) (by omega) (by omega)) ml_X2_139 im_X3_addUpTo sl_X3_addUpTo in_X3 cd_X3_addUpTo hd_X3_addUpTo 0 rfl rfl rfl rfl (Nat.le_of_ble_eq_true rfl) ⟨Nat.le_of_ble_eq_true rfl, Nat.le_of_ble_eq_true rfl⟩ (List.take 5 (wS G a ti se ho ri bo bc fs fc)) (List.drop 7 (wS G a ti se ho ri bo bc fs fc)) rfl (ws' := (wS G a ti se ho (upd ri (24 + r) (mnI 9 (ri (24 + r) + 1))) bo bc fs fc)) rfl (st' := []) rfl ⟨rfl, rfl⟩ ⟨Nat.le_of_ble_eq_true rfl, Nat.le_of_ble_eq_true rfl⟩ ?_
  refine x_aload_n C 0 rfl dX2_letFall_11 rfl ?_
  refine x_get (k := 3) (v := .ref (a 5)) C dX2_letFall_12 layX2 fl_X2_23 0 rfl rfl (by decide) rfl ?_
  refine x_iconst (v := (nI 4)) C dX2_letFall_15 (by decide) ?_
  refine x_iload_n C 1 rfl dX2_letFall_16 rfl ?_
  refine x_iconst (v := (nI 0)) C dX2_letFall_17 (by decide) ?_
  refine x_callVd (As := [.int (nI 4), .int (nI r), .int (nI 0)]) (rest := []) C dX2_letFall_18 (c_X3_put (gX.l X) G (a 5) (a 6) 12 120 (upd ri (24 + r) (mnI 9 (ri (24 + r) + 1))) 4 r (48 + r) 0 (by omega) (by omega) (by omega) (by omega) (by omega)) ml_X2_40 im_X3_put sl_X3_put in_X3 cd_X3_put hd_X3_put 0 rfl rfl rfl rfl (Nat.le_of_ble_eq_true rfl) ⟨Nat.le_of_ble_eq_true rfl, Nat.le_of_ble_eq_true rfl⟩ (List.take 5 (wS G a ti se ho (upd ri (24 + r) (mnI 9 (ri (24 + r) + 1))) bo bc fs fc)) (List.drop 7 (wS G a ti se ho (upd ri (24 + r) (mnI 9 (ri (24 + r) + 1))) bo bc fs fc)) rfl (ws' := (wS G a ti se ho (upd (upd ri (24 + r) (mnI 9 (ri (24 + r) + 1))) (48 + r) 0) bo bc fs fc)) rfl (st' := []) rfl ⟨rfl, rfl⟩ ⟨Nat.le_of_ble_eq_true rfl, Nat.le_of_ble_eq_true rfl⟩ ?_
  refine x_aload_n C 0 rfl dX2_letFall_21 rfl ?_
  refine x_get (k := 3) (v := .ref (a 5)) C dX2_letFall_22 layX2 fl_X2_23 0 rfl rfl (by decide) rfl ?_
  refine x_bipush (v := (nI 6)) C dX2_letFall_25 (by decide) ?_
  refine x_iload_n C 1 rfl dX2_letFall_27 rfl ?_
  refine x_iconst (v := (nI 1)) C dX2_letFall_28 (by decide) ?_
  refine x_callVd (As := [.int (nI 6), .int (nI r), .int (nI 1)]) (rest := []) C dX2_letFall_29 (c_X3_add (gX.l X) G (a 5) (a 6) 12 120 (upd (upd ri (24 + r) (mnI 9 (ri (24 + r) + 1))) (48 + r) 0) 6 r (72 + r) 1 (by omega) (by omega) (by omega) (by omega) (by omega)) ml_X2_117 im_X3_add sl_X3_add in_X3 cd_X3_add hd_X3_add 0 rfl rfl rfl rfl (Nat.le_of_ble_eq_true rfl) ⟨Nat.le_of_ble_eq_true rfl, Nat.le_of_ble_eq_true rfl⟩ (List.take 5 (wS G a ti se ho (upd (upd ri (24 + r) (mnI 9 (ri (24 + r) + 1))) (48 + r) 0) bo bc fs fc)) (List.drop 7 (wS G a ti se ho (upd (upd ri (24 + r) (mnI 9 (ri (24 + r) + 1))) (48 + r) 0) bo bc fs fc)) rfl (ws' := (wS G a ti se ho (upd (upd (upd ri (24 + r) (mnI 9 (ri (24 + r) + 1))) (48 + r) 0) (72 + r) ((upd (upd ri (24 + r) (mnI 9 (ri (24 + r) + 1))) (48 + r) 0) (72 + r) + 1)) bo bc fs fc)) rfl (st' := []) rfl ⟨rfl, rfl⟩ ⟨Nat.le_of_ble_eq_true rfl, Nat.le_of_ble_eq_true rfl⟩ ?_
  refine x_aload_n C 0 rfl dX2_letFall_32 rfl ?_
  refine x_get (k := 2) (v := .ref (a 3)) C dX2_letFall_33 layX2 fl_X2_20 0 rfl rfl (by decide) rfl ?_
  refine x_bipush (v := (nI 7)) C dX2_letFall_36 (by decide) ?_
  refine x_iload_n C 2 rfl dX2_letFall_38 rfl ?_
  refine x_iconst (v := (nI 1)) C dX2_letFall_39 (by decide) ?_
  refine x_callVd (As := [.int (nI 7), .int (nI h), .int (nI 1)]) (rest := []) C dX2_letFall_40 (c_X3_add (gX.l X) G (a 3) (a 4) 10 90 ho 7 h (70 + h) 1 (by omega) (by omega) (by omega) (by omega) (by omega)) ml_X2_117 im_X3_add sl_X3_add in_X3 cd_X3_add hd_X3_add 0 rfl rfl rfl rfl (Nat.le_of_ble_eq_true rfl) ⟨Nat.le_of_ble_eq_true rfl, Nat.le_of_ble_eq_true rfl⟩ (List.take 3 (wS G a ti se ho (upd (upd (upd ri (24 + r) (mnI 9 (ri (24 + r) + 1))) (48 + r) 0) (72 + r) ((upd (upd ri (24 + r) (mnI 9 (ri (24 + r) + 1))) (48 + r) 0) (72 + r) + 1)) bo bc fs fc)) (List.drop 5 (wS G a ti se ho (upd (upd (upd ri (24 + r) (mnI 9 (ri (24 + r) + 1))) (48 + r) 0) (72 + r) ((upd (upd ri (24 + r) (mnI 9 (ri (24 + r) + 1))) (48 + r) 0) (72 + r) + 1)) bo bc fs fc)) rfl (ws' := (wS G a ti se (upd ho (70 + h) (ho (70 + h) + 1)) (upd (upd (upd ri (24 + r) (mnI 9 (ri (24 + r) + 1))) (48 + r) 0) (72 + r) ((upd (upd ri (24 + r) (mnI 9 (ri (24 + r) + 1))) (48 + r) 0) (72 + r) + 1)) bo bc fs fc)) rfl (st' := []) rfl ⟨rfl, rfl⟩ ⟨Nat.le_of_ble_eq_true rfl, Nat.le_of_ble_eq_true rfl⟩ ?_
  refine x_aload_n C 0 rfl dX2_letFall_43 rfl ?_
  refine x_get (k := 7) (v := .int (nI fc)) C dX2_letFall_44 layX2 fl_X2_55 0 rfl rfl (by decide) rfl ?_
  refine x_bipush (v := (nI 20)) C dX2_letFall_47 (by decide) ?_
  refine x_iremN C dX2_letFall_49 (by omega) (by omega) (by omega) ?_
  refine x_istore_n (lv' := [(3, .int (nI (fc % 20))), (0, .ref (a 0)), (1, .int (nI r)), (2, .int (nI h))]) C dX2_letFall_50 rfl (by decide) rfl ?_
  refine x_aload_n C 1 rfl dX2_letFall_51 rfl ?_
  refine x_get (k := 6) (v := .ref (a 9)) C dX2_letFall_52 layX2 fl_X2_29 0 rfl rfl (by decide) rfl ?_
  refine x_iconst (v := (nI 0)) C dX2_letFall_55 (by decide) ?_
  refine x_iload_n C 0 rfl dX2_letFall_56 rfl ?_
  refine x_aload_n C 1 rfl dX2_letFall_57 rfl ?_
  refine x_get (k := 0) (v := .int (nI ti)) C dX2_letFall_58 layX2 fl_X2_44 0 rfl rfl (by decide) rfl ?_
  refine x_callVd (As := [.int (nI 0), .int (nI (fc % 20)), .int (nI ti)]) (rest := []) C dX2_letFall_61 (c_X3_put (gX.l X) G (a 9) (a 10) 20 60 fs 0 (fc % 20) (fc % 20) (nI ti) (by omega) (by omega) (by omega) (by omega) (by omega)) ml_X2_40 im_X3_put sl_X3_put in_X3 cd_X3_put hd_X3_put 0 rfl rfl rfl rfl (Nat.le_of_ble_eq_true rfl) ⟨Nat.le_of_ble_eq_true rfl, Nat.le_of_ble_eq_true rfl⟩ (List.take 9 (wS G a ti se (upd ho (70 + h) (ho (70 + h) + 1)) (upd (upd (upd ri (24 + r) (mnI 9 (ri (24 + r) + 1))) (48 + r) 0) (72 + r) ((upd (upd ri (24 + r) (mnI 9 (ri (24 + r) + 1))) (48 + r) 0) (72 + r) + 1)) bo bc fs fc)) (List.drop 11 (wS G a ti se (upd ho (70 + h) (ho (70 + h) + 1)) (upd (upd (upd ri (24 + r) (mnI 9 (ri (24 + r) + 1))) (48 + r) 0) (72 + r) ((upd (upd ri (24 + r) (mnI 9 (ri (24 + r) + 1))) (48 + r) 0) (72 + r) + 1)) bo bc fs fc)) rfl (ws' := (wS G a ti se (upd ho (70 + h) (ho (70 + h) + 1)) (upd (upd (upd ri (24 + r) (mnI 9 (ri (24 + r) + 1))) (48 + r) 0) (72 + r) ((upd (upd ri (24 + r) (mnI 9 (ri (24 + r) + 1))) (48 + r) 0) (72 + r) + 1)) bo bc (upd fs (fc % 20) (nI ti)) fc)) rfl (st' := []) rfl ⟨rfl, rfl⟩ ⟨Nat.le_of_ble_eq_true rfl, Nat.le_of_ble_eq_true rfl⟩ ?_
  refine x_aload_n C 1 rfl dX2_letFall_64 rfl ?_
  refine x_get (k := 6) (v := .ref (a 9)) C dX2_letFall_65 layX2 fl_X2_29 0 rfl rfl (by decide) rfl ?_
  refine x_iconst (v := (nI 1)) C dX2_letFall_68 (by decide) ?_
  refine x_iload_n C 0 rfl dX2_letFall_69 rfl ?_
  refine x_iload_n C 2 rfl dX2_letFall_70 rfl ?_
  refine x_callVd (As := [.int (nI 1), .int (nI (fc % 20)), .int (nI r)]) (rest := []) C dX2_letFall_71 (c_X3_put (gX.l X) G (a 9) (a 10) 20 60 (upd fs (fc % 20) (nI ti)) 1 (fc % 20) (20 + (fc % 20)) (nI r) (by omega) (by omega) (by omega) (by omega) (by omega)) ml_X2_40 im_X3_put sl_X3_put in_X3 cd_X3_put hd_X3_put 0 rfl rfl rfl rfl (Nat.le_of_ble_eq_true rfl) ⟨Nat.le_of_ble_eq_true rfl, Nat.le_of_ble_eq_true rfl⟩ (List.take 9 (wS G a ti se (upd ho (70 + h) (ho (70 + h) + 1)) (upd (upd (upd ri (24 + r) (mnI 9 (ri (24 + r) + 1))) (48 + r) 0) (72 + r) ((upd (upd ri (24 + r) (mnI 9 (ri (24 + r) + 1))) (48 + r) 0) (72 + r) + 1)) bo bc (upd fs (fc % 20) (nI ti)) fc)) (List.drop 11 (wS G a ti se (upd ho (70 + h) (ho (70 + h) + 1)) (upd (upd (upd ri (24 + r) (mnI 9 (ri (24 + r) + 1))) (48 + r) 0) (72 + r) ((upd (upd ri (24 + r) (mnI 9 (ri (24 + r) + 1))) (48 + r) 0) (72 + r) + 1)) bo bc (upd fs (fc % 20) (nI ti)) fc)) rfl (ws' := (wS G a ti se (upd ho (70 + h) (ho (70 + h) + 1)) (upd (upd (upd ri (24 + r) (mnI 9 (ri (24 + r) + 1))) (48 + r) 0) (72 + r) ((upd (upd ri (24 + r) (mnI 9 (ri (24 + r) + 1))) (48 + r) 0) (72 + r) + 1)) bo bc (upd (upd fs (fc % 20) (nI ti)) (20 + (fc % 20)) (nI r)) fc)) rfl (st' := []) rfl ⟨rfl, rfl⟩ ⟨Nat.le_of_ble_eq_true rfl, Nat.le_of_ble_eq_true rfl⟩ ?_
  refine x_aload_n C 1 rfl dX2_letFall_74 rfl ?_
  refine x_get (k := 6) (v := .ref (a 9)) C dX2_letFall_75 layX2 fl_X2_29 0 rfl rfl (by decide) rfl ?_
  refine x_iconst (v := (nI 2)) C dX2_letFall_78 (by decide) ?_
  refine x_iload_n C 0 rfl dX2_letFall_79 rfl ?_
  refine x_iload_n C 3 rfl dX2_letFall_80 rfl ?_
  refine x_callVd (As := [.int (nI 2), .int (nI (fc % 20)), .int (nI h)]) (rest := []) C dX2_letFall_81 (c_X3_put (gX.l X) G (a 9) (a 10) 20 60 (upd (upd fs (fc % 20) (nI ti)) (20 + (fc % 20)) (nI r)) 2 (fc % 20) (40 + (fc % 20)) (nI h) (by omega) (by omega) (by omega) (by omega) (by omega)) ml_X2_40 im_X3_put sl_X3_put in_X3 cd_X3_put hd_X3_put 0 rfl rfl rfl rfl (Nat.le_of_ble_eq_true rfl) ⟨Nat.le_of_ble_eq_true rfl, Nat.le_of_ble_eq_true rfl⟩ (List.take 9 (wS G a ti se (upd ho (70 + h) (ho (70 + h) + 1)) (upd (upd (upd ri (24 + r) (mnI 9 (ri (24 + r) + 1))) (48 + r) 0) (72 + r) ((upd (upd ri (24 + r) (mnI 9 (ri (24 + r) + 1))) (48 + r) 0) (72 + r) + 1)) bo bc (upd (upd fs (fc % 20) (nI ti)) (20 + (fc % 20)) (nI r)) fc)) (List.drop 11 (wS G a ti se (upd ho (70 + h) (ho (70 + h) + 1)) (upd (upd (upd ri (24 + r) (mnI 9 (ri (24 + r) + 1))) (48 + r) 0) (72 + r) ((upd (upd ri (24 + r) (mnI 9 (ri (24 + r) + 1))) (48 + r) 0) (72 + r) + 1)) bo bc (upd (upd fs (fc % 20) (nI ti)) (20 + (fc % 20)) (nI r)) fc)) rfl (ws' := (wS G a ti se (upd ho (70 + h) (ho (70 + h) + 1)) (upd (upd (upd ri (24 + r) (mnI 9 (ri (24 + r) + 1))) (48 + r) 0) (72 + r) ((upd (upd ri (24 + r) (mnI 9 (ri (24 + r) + 1))) (48 + r) 0) (72 + r) + 1)) bo bc (upd (upd (upd fs (fc % 20) (nI ti)) (20 + (fc % 20)) (nI r)) (40 + (fc % 20)) (nI h)) fc)) rfl (st' := []) rfl ⟨rfl, rfl⟩ ⟨Nat.le_of_ble_eq_true rfl, Nat.le_of_ble_eq_true rfl⟩ ?_
  refine x_aload_n C 1 rfl dX2_letFall_84 rfl ?_
  refine x_dup C rfl dX2_letFall_85 ?_
  refine x_get (k := 7) (v := .int (nI fc)) C dX2_letFall_86 layX2 fl_X2_55 0 rfl rfl (by decide) rfl ?_
  refine x_iconst (v := (nI 1)) C dX2_letFall_89 (by decide) ?_
  refine x_iaddN C dX2_letFall_90 ?_
  refine x_put (k := 7) (ws' := (wS G a ti se (upd ho (70 + h) (ho (70 + h) + 1)) (upd (upd (upd ri (24 + r) (mnI 9 (ri (24 + r) + 1))) (48 + r) 0) (72 + r) ((upd (upd ri (24 + r) (mnI 9 (ri (24 + r) + 1))) (48 + r) 0) (72 + r) + 1)) bo bc (upd (upd (upd fs (fc % 20) (nI ti)) (20 + (fc % 20)) (nI r)) (40 + (fc % 20)) (nI h)) (fc + 1))) C dX2_letFall_91 layX2 tyX2 tyX2_ok nmX2 fl_X2_55 0 rfl rfl (by decide) rfl rfl rfl rfl (Nat.le_of_ble_eq_true rfl) rfl ?_
  exact x_vret C hr E dX2_letFall_94 (fun _ => 0) rfl
def rm_X2_letLearn : Room := { frames := 2, cells := 0, slots := 0, locals := 47 }
set_option maxRecDepth 100000 in
set_option maxHeartbeats 4000000 in
theorem c_X2_letLearn (l : Launch) (G : gG) (a : Nat → Nat) (ti : Nat) (se ho ri bo : Nat → Int32) (bc : Nat) (fs : Nat → Int32) (fc : Nat) (r : Nat)  (hr0 : r < 12) : CT l yX2_letLearn cX2_letLearn 2 none rm_X2_letLearn G [.ref (a 0), .int (nI r)] (wS G a ti se ho ri bo bc fs fc) none (fun _ => (wS G a ti se ho (c_learn ri r) bo bc fs fc)) := by
  refine gMet (by decide) (Nat.le_of_ble_eq_true rfl) (fun X hX C hr hin E => ?_)
  clear hX
  refine (show gW G X (wS G a ti se ho ri bo bc fs fc) 0 0 0 [(0, .ref (a 0)), (1, .int (nI r))] [] from ?_)
  refine x_aload_n C 0 rfl dX2_letLearn_0 rfl ?_
  refine x_get (k := 3) (v := .ref (a 5)) C dX2_letLearn_1 layX2 fl_X2_23 0 rfl rfl (by decide) rfl ?_
  refine x_iconst (v := (nI 2)) C dX2_letLearn_4 (by decide) ?_
  refine x_iload_n C 1 rfl dX2_letLearn_5 rfl ?_
  refine x_iconst (v := (nI 1)) C dX2_letLearn_6 (by decide) ?_
  refine x_callVd (As := [.int (nI 2), .int (nI r), .int (nI 1)]) (rest := []) C dX2_letLearn_7 (c_X3_takeAway (gX.l X) G (a 5) (a 6) 12 120 ri 2 r (24 + r) 1 (by omega) (by omega) (by omega) (by omega) (by omega)) ml_X2_120 im_X3_takeAway sl_X3_takeAway in_X3 cd_X3_takeAway hd_X3_takeAway 0 rfl rfl rfl rfl (Nat.le_of_ble_eq_true rfl) ⟨Nat.le_of_ble_eq_true rfl, Nat.le_of_ble_eq_true rfl⟩ (List.take 5 (wS G a ti se ho ri bo bc fs fc)) (List.drop 7 (wS G a ti se ho ri bo bc fs fc)) rfl (ws' := (wS G a ti se ho (upd ri (24 + r) (mxI 0 (ri (24 + r) - 1))) bo bc fs fc)) rfl (st' := []) rfl ⟨rfl, rfl⟩ ⟨Nat.le_of_ble_eq_true rfl, Nat.le_of_ble_eq_true rfl⟩ ?_
  refine x_aload_n C 0 rfl dX2_letLearn_10 rfl ?_
  refine x_get (k := 3) (v := .ref (a 5)) C dX2_letLearn_11 layX2 fl_X2_23 0 rfl rfl (by decide) rfl ?_
  refine x_iconst (v := (nI 4)) C dX2_letLearn_14 (by decide) ?_
  refine x_iload_n C 1 rfl dX2_letLearn_15 rfl ?_
  refine x_iconst (v := (nI 1)) C dX2_letLearn_16 (by decide) ?_
  refine x_callVd (As := [.int (nI 4), .int (nI r), .int (nI 1)]) (rest := []) C dX2_letLearn_17 (c_X3_add (gX.l X) G (a 5) (a 6) 12 120 (upd ri (24 + r) (mxI 0 (ri (24 + r) - 1))) 4 r (48 + r) 1 (by omega) (by omega) (by omega) (by omega) (by omega)) ml_X2_117 im_X3_add sl_X3_add in_X3 cd_X3_add hd_X3_add 0 rfl rfl rfl rfl (Nat.le_of_ble_eq_true rfl) ⟨Nat.le_of_ble_eq_true rfl, Nat.le_of_ble_eq_true rfl⟩ (List.take 5 (wS G a ti se ho (upd ri (24 + r) (mxI 0 (ri (24 + r) - 1))) bo bc fs fc)) (List.drop 7 (wS G a ti se ho (upd ri (24 + r) (mxI 0 (ri (24 + r) - 1))) bo bc fs fc)) rfl (ws' := (wS G a ti se ho (upd (upd ri (24 + r) (mxI 0 (ri (24 + r) - 1))) (48 + r) ((upd ri (24 + r) (mxI 0 (ri (24 + r) - 1))) (48 + r) + 1)) bo bc fs fc)) rfl (st' := []) rfl ⟨rfl, rfl⟩ ⟨Nat.le_of_ble_eq_true rfl, Nat.le_of_ble_eq_true rfl⟩ ?_
  refine x_aload_n C 0 rfl dX2_letLearn_20 rfl ?_
  refine x_get (k := 3) (v := .ref (a 5)) C dX2_letLearn_21 layX2 fl_X2_23 0 rfl rfl (by decide) rfl ?_
  refine x_iconst (v := (nI 4)) C dX2_letLearn_24 (by decide) ?_
  refine x_iload_n C 1 rfl dX2_letLearn_25 rfl ?_
  refine x_callVd (As := [.int (nI 4), .int (nI r)]) (rest := []) C dX2_letLearn_26 (c_X3_at (gX.l X) G (a 5) (a 6) 12 120 (upd (upd ri (24 + r) (mxI 0 (ri (24 + r) - 1))) (48 + r) ((upd ri (24 + r) (mxI 0 (ri (24 + r) - 1))) (48 + r) + 1)) 4 r (48 + r) (by omega) (by omega) (by omega) (by omega) (by omega)) ml_X2_58 im_X3_at sl_X3_at in_X3 cd_X3_at hd_X3_at 0 rfl rfl rfl rfl (Nat.le_of_ble_eq_true rfl) ⟨Nat.le_of_ble_eq_true rfl, Nat.le_of_ble_eq_true rfl⟩ (List.take 5 (wS G a ti se ho (upd (upd ri (24 + r) (mxI 0 (ri (24 + r) - 1))) (48 + r) ((upd ri (24 + r) (mxI 0 (ri (24 + r) - 1))) (48 + r) + 1)) bo bc fs fc)) (List.drop 7 (wS G a ti se ho (upd (upd ri (24 + r) (mxI 0 (ri (24 + r) - 1))) (48 + r) ((upd ri (24 + r) (mxI 0 (ri (24 + r) - 1))) (48 + r) + 1)) bo bc fs fc)) rfl (ws' := (wS G a ti se ho (upd (upd ri (24 + r) (mxI 0 (ri (24 + r) - 1))) (48 + r) ((upd ri (24 + r) (mxI 0 (ri (24 + r) - 1))) (48 + r) + 1)) bo bc fs fc)) rfl (st' := [.int ((upd (upd ri (24 + r) (mxI 0 (ri (24 + r) - 1))) (48 + r) ((upd ri (24 + r) (mxI 0 (ri (24 + r) - 1))) (48 + r) + 1)) (48 + r))]) rfl ⟨rfl, rfl⟩ ⟨Nat.le_of_ble_eq_true rfl, Nat.le_of_ble_eq_true rfl⟩ ?_
  refine x_iconst (v := (nI 3)) C dX2_letLearn_29 (by decide) ?_
  refine x_irem (x := ((upd (upd ri (24 + r) (mxI 0 (ri (24 + r) - 1))) (48 + r) ((upd ri (24 + r) (mxI 0 (ri (24 + r) - 1))) (48 + r) + 1)) (48 + r))) (y := 3) C (by decide) dX2_letLearn_30 ?_
  refine x_if_ne (x := (iR ((upd (upd ri (24 + r) (mxI 0 (ri (24 + r) - 1))) (48 + r) ((upd ri (24 + r) (mxI 0 (ri (24 + r) - 1))) (48 + r) + 1)) (48 + r)) 3)) (tgt := 45) C dX2_letLearn_31 (by decide) (fun c1 => ?_) (fun c1 => ?_)
  · exact x_vret C hr E dX2_letLearn_45 (fun _ => 0) (by rw [c_learn]; first | rw [if_pos (by assumption)]; rfl | rw [if_neg (by assumption)]; rfl)
  · refine x_aload_n C 0 rfl dX2_letLearn_34 rfl ?_
    refine x_get (k := 3) (v := .ref (a 5)) C dX2_letLearn_35 layX2 fl_X2_23 0 rfl rfl (by decide) rfl ?_
    refine x_iconst (v := (nI 1)) C dX2_letLearn_38 (by decide) ?_
    refine x_iload_n C 1 rfl dX2_letLearn_39 rfl ?_
    refine x_bipush (v := (nI 9)) C dX2_letLearn_40 (by decide) ?_
    refine x_callVd (As := [.int (nI 1), .int (nI r), .int (nI 9)]) (rest := []) C dX2_letLearn_42 (c_X3_addUpTo (gX.l X) G (a 5) (a 6) 12 120 (upd (upd ri (24 + r) (mxI 0 (ri (24 + r) - 1))) (48 + r) ((upd ri (24 + r) (mxI 0 (ri (24 + r) - 1))) (48 + r) + 1)) 1 r (12 + r) 9 (by omega) (by omega) (by omega) (by omega) (by omega)) ml_X2_139 im_X3_addUpTo sl_X3_addUpTo in_X3 cd_X3_addUpTo hd_X3_addUpTo 0 rfl rfl rfl rfl (Nat.le_of_ble_eq_true rfl) ⟨Nat.le_of_ble_eq_true rfl, Nat.le_of_ble_eq_true rfl⟩ (List.take 5 (wS G a ti se ho (upd (upd ri (24 + r) (mxI 0 (ri (24 + r) - 1))) (48 + r) ((upd ri (24 + r) (mxI 0 (ri (24 + r) - 1))) (48 + r) + 1)) bo bc fs fc)) (List.drop 7 (wS G a ti se ho (upd (upd ri (24 + r) (mxI 0 (ri (24 + r) - 1))) (48 + r) ((upd ri (24 + r) (mxI 0 (ri (24 + r) - 1))) (48 + r) + 1)) bo bc fs fc)) rfl (ws' := (wS G a ti se ho (upd (upd (upd ri (24 + r) (mxI 0 (ri (24 + r) - 1))) (48 + r) ((upd ri (24 + r) (mxI 0 (ri (24 + r) - 1))) (48 + r) + 1)) (12 + r) (mnI 9 ((upd (upd ri (24 + r) (mxI 0 (ri (24 + r) - 1))) (48 + r) ((upd ri (24 + r) (mxI 0 (ri (24 + r) - 1))) (48 + r) + 1)) (12 + r) + 1))) bo bc fs fc)) rfl (st' := []) rfl ⟨rfl, rfl⟩ ⟨Nat.le_of_ble_eq_true rfl, Nat.le_of_ble_eq_true rfl⟩ ?_
    exact x_vret C hr E dX2_letLearn_45 (fun _ => 0) (by rw [c_learn]; first | rw [if_pos (by assumption)]; rfl | rw [if_neg (by assumption)]; rfl)
def rm_X2_strain : Room := { frames := 2, cells := 0, slots := 0, locals := 47 }
set_option maxRecDepth 100000 in
set_option maxHeartbeats 4000000 in
theorem c_X2_strain (l : Launch) (G : gG) (a : Nat → Nat) (ti : Nat) (se ho ri bo : Nat → Int32) (bc : Nat) (fs : Nat → Int32) (fc : Nat) (h : Nat) (w : Int32)  (hh : h < 10) : CT l yX2_strain cX2_strain 3 none rm_X2_strain G [.ref (a 0), .int (nI h), .int w] (wS G a ti se ho ri bo bc fs fc) none (fun _ => (wS G a ti se (c_strain se ho h w) ri bo bc fs fc)) := by
  refine gMet (by decide) (Nat.le_of_ble_eq_true rfl) (fun X hX C hr hin E => ?_)
  clear hX
  refine (show gW G X (wS G a ti se ho ri bo bc fs fc) 0 0 0 [(0, .ref (a 0)), (1, .int (nI h)), (2, .int w)] [] from ?_)
  refine x_iload_n C 2 rfl dX2_strain_0 rfl ?_
  refine x_aload_n C 0 rfl dX2_strain_1 rfl ?_
  refine x_get (k := 1) (v := .ref (a 1)) C dX2_strain_2 layX2 fl_X2_14 0 rfl rfl (by decide) rfl ?_
  refine x_iconst (v := (nI 0)) C dX2_strain_5 (by decide) ?_
  refine x_iconst (v := (nI 2)) C dX2_strain_6 (by decide) ?_
  refine x_callVd (As := [.int (nI 0), .int (nI 2)]) (rest := [.int w]) C dX2_strain_7 (c_X3_at (gX.l X) G (a 1) (a 2) 5 5 se 0 2 2 (by omega) (by omega) (by omega) (by omega) (by omega)) ml_X2_58 im_X3_at sl_X3_at in_X3 cd_X3_at hd_X3_at 0 rfl rfl rfl rfl (Nat.le_of_ble_eq_true rfl) ⟨Nat.le_of_ble_eq_true rfl, Nat.le_of_ble_eq_true rfl⟩ (List.take 1 (wS G a ti se ho ri bo bc fs fc)) (List.drop 3 (wS G a ti se ho ri bo bc fs fc)) rfl (ws' := (wS G a ti se ho ri bo bc fs fc)) rfl (st' := [.int (se 2), .int w]) rfl ⟨rfl, rfl⟩ ⟨Nat.le_of_ble_eq_true rfl, Nat.le_of_ble_eq_true rfl⟩ ?_
  refine x_iadd (x := w) (y := (se 2)) C dX2_strain_10 ?_
  refine x_aload_n C 0 rfl dX2_strain_11 rfl ?_
  refine x_get (k := 2) (v := .ref (a 3)) C dX2_strain_12 layX2 fl_X2_20 0 rfl rfl (by decide) rfl ?_
  refine x_iconst (v := (nI 0)) C dX2_strain_15 (by decide) ?_
  refine x_iload_n C 1 rfl dX2_strain_16 rfl ?_
  refine x_callVd (As := [.int (nI 0), .int (nI h)]) (rest := [.int (w + (se 2))]) C dX2_strain_17 (c_X3_at (gX.l X) G (a 3) (a 4) 10 90 ho 0 h h (by omega) (by omega) (by omega) (by omega) (by omega)) ml_X2_58 im_X3_at sl_X3_at in_X3 cd_X3_at hd_X3_at 0 rfl rfl rfl rfl (Nat.le_of_ble_eq_true rfl) ⟨Nat.le_of_ble_eq_true rfl, Nat.le_of_ble_eq_true rfl⟩ (List.take 3 (wS G a ti se ho ri bo bc fs fc)) (List.drop 5 (wS G a ti se ho ri bo bc fs fc)) rfl (ws' := (wS G a ti se ho ri bo bc fs fc)) rfl (st' := [.int (ho h), .int (w + (se 2))]) rfl ⟨rfl, rfl⟩ ⟨Nat.le_of_ble_eq_true rfl, Nat.le_of_ble_eq_true rfl⟩ ?_
  refine x_icmp_gt (x := (w + (se 2))) (y := (ho h)) (tgt := 24) C dX2_strain_20 (by decide) (fun c1 => ?_) (fun c1 => ?_)
  · refine x_aload_n C 0 rfl dX2_strain_24 rfl ?_
    refine x_get (k := 2) (v := .ref (a 3)) C dX2_strain_25 layX2 fl_X2_20 0 rfl rfl (by decide) rfl ?_
    refine x_iconst (v := (nI 4)) C dX2_strain_28 (by decide) ?_
    refine x_iload_n C 1 rfl dX2_strain_29 rfl ?_
    refine x_iconst (v := (nI 1)) C dX2_strain_30 (by decide) ?_
    refine x_callVd (As := [.int (nI 4), .int (nI h), .int (nI 1)]) (rest := []) C dX2_strain_31 (c_X3_add (gX.l X) G (a 3) (a 4) 10 90 ho 4 h (40 + h) 1 (by omega) (by omega) (by omega) (by omega) (by omega)) ml_X2_117 im_X3_add sl_X3_add in_X3 cd_X3_add hd_X3_add 0 rfl rfl rfl rfl (Nat.le_of_ble_eq_true rfl) ⟨Nat.le_of_ble_eq_true rfl, Nat.le_of_ble_eq_true rfl⟩ (List.take 3 (wS G a ti se ho ri bo bc fs fc)) (List.drop 5 (wS G a ti se ho ri bo bc fs fc)) rfl (ws' := (wS G a ti se (upd ho (40 + h) (ho (40 + h) + 1)) ri bo bc fs fc)) rfl (st' := []) rfl ⟨rfl, rfl⟩ ⟨Nat.le_of_ble_eq_true rfl, Nat.le_of_ble_eq_true rfl⟩ ?_
    refine x_aload_n C 0 rfl dX2_strain_34 rfl ?_
    refine x_get (k := 2) (v := .ref (a 3)) C dX2_strain_35 layX2 fl_X2_20 0 rfl rfl (by decide) rfl ?_
    refine x_iconst (v := (nI 4)) C dX2_strain_38 (by decide) ?_
    refine x_iload_n C 1 rfl dX2_strain_39 rfl ?_
    refine x_callVd (As := [.int (nI 4), .int (nI h)]) (rest := []) C dX2_strain_40 (c_X3_at (gX.l X) G (a 3) (a 4) 10 90 (upd ho (40 + h) (ho (40 + h) + 1)) 4 h (40 + h) (by omega) (by omega) (by omega) (by omega) (by omega)) ml_X2_58 im_X3_at sl_X3_at in_X3 cd_X3_at hd_X3_at 0 rfl rfl rfl rfl (Nat.le_of_ble_eq_true rfl) ⟨Nat.le_of_ble_eq_true rfl, Nat.le_of_ble_eq_true rfl⟩ (List.take 3 (wS G a ti se (upd ho (40 + h) (ho (40 + h) + 1)) ri bo bc fs fc)) (List.drop 5 (wS G a ti se (upd ho (40 + h) (ho (40 + h) + 1)) ri bo bc fs fc)) rfl (ws' := (wS G a ti se (upd ho (40 + h) (ho (40 + h) + 1)) ri bo bc fs fc)) rfl (st' := [.int ((upd ho (40 + h) (ho (40 + h) + 1)) (40 + h))]) rfl ⟨rfl, rfl⟩ ⟨Nat.le_of_ble_eq_true rfl, Nat.le_of_ble_eq_true rfl⟩ ?_
    refine x_iconst (v := (nI 3)) C dX2_strain_43 (by decide) ?_
    refine x_icmp_lt (x := ((upd ho (40 + h) (ho (40 + h) + 1)) (40 + h))) (y := 3) (tgt := 75) C dX2_strain_44 (by decide) (fun c2 => ?_) (fun c2 => ?_)
    · exact x_vret C hr E dX2_strain_75 (fun _ => 0) (by rw [c_strain, if_pos (by assumption)]; first | rw [if_pos (by assumption)]; rfl | rw [if_neg (by assumption)]; rfl)
    · refine x_aload_n C 0 rfl dX2_strain_47 rfl ?_
      refine x_get (k := 2) (v := .ref (a 3)) C dX2_strain_48 layX2 fl_X2_20 0 rfl rfl (by decide) rfl ?_
      refine x_iconst (v := (nI 5)) C dX2_strain_51 (by decide) ?_
      refine x_iload_n C 1 rfl dX2_strain_52 rfl ?_
      refine x_aload_n C 0 rfl dX2_strain_53 rfl ?_
      refine x_get (k := 1) (v := .ref (a 1)) C dX2_strain_54 layX2 fl_X2_14 0 rfl rfl (by decide) rfl ?_
      refine x_iconst (v := (nI 0)) C dX2_strain_57 (by decide) ?_
      refine x_iconst (v := (nI 3)) C dX2_strain_58 (by decide) ?_
      refine x_callVd (As := [.int (nI 0), .int (nI 3)]) (rest := [.int (nI h), .int (nI 5), .ref (a 3)]) C dX2_strain_59 (c_X3_at (gX.l X) G (a 1) (a 2) 5 5 se 0 3 3 (by omega) (by omega) (by omega) (by omega) (by omega)) ml_X2_58 im_X3_at sl_X3_at in_X3 cd_X3_at hd_X3_at 0 rfl rfl rfl rfl (Nat.le_of_ble_eq_true rfl) ⟨Nat.le_of_ble_eq_true rfl, Nat.le_of_ble_eq_true rfl⟩ (List.take 1 (wS G a ti se (upd ho (40 + h) (ho (40 + h) + 1)) ri bo bc fs fc)) (List.drop 3 (wS G a ti se (upd ho (40 + h) (ho (40 + h) + 1)) ri bo bc fs fc)) rfl (ws' := (wS G a ti se (upd ho (40 + h) (ho (40 + h) + 1)) ri bo bc fs fc)) rfl (st' := [.int (se 3), .int (nI h), .int (nI 5), .ref (a 3)]) rfl ⟨rfl, rfl⟩ ⟨Nat.le_of_ble_eq_true rfl, Nat.le_of_ble_eq_true rfl⟩ ?_
      refine x_callVd (As := [.int (nI 5), .int (nI h), .int (se 3)]) (rest := []) C dX2_strain_62 (c_X3_put (gX.l X) G (a 3) (a 4) 10 90 (upd ho (40 + h) (ho (40 + h) + 1)) 5 h (50 + h) (se 3) (by omega) (by omega) (by omega) (by omega) (by omega)) ml_X2_40 im_X3_put sl_X3_put in_X3 cd_X3_put hd_X3_put 0 rfl rfl rfl rfl (Nat.le_of_ble_eq_true rfl) ⟨Nat.le_of_ble_eq_true rfl, Nat.le_of_ble_eq_true rfl⟩ (List.take 3 (wS G a ti se (upd ho (40 + h) (ho (40 + h) + 1)) ri bo bc fs fc)) (List.drop 5 (wS G a ti se (upd ho (40 + h) (ho (40 + h) + 1)) ri bo bc fs fc)) rfl (ws' := (wS G a ti se (upd (upd ho (40 + h) (ho (40 + h) + 1)) (50 + h) (se 3)) ri bo bc fs fc)) rfl (st' := []) rfl ⟨rfl, rfl⟩ ⟨Nat.le_of_ble_eq_true rfl, Nat.le_of_ble_eq_true rfl⟩ ?_
      refine x_aload_n C 0 rfl dX2_strain_65 rfl ?_
      refine x_get (k := 2) (v := .ref (a 3)) C dX2_strain_66 layX2 fl_X2_20 0 rfl rfl (by decide) rfl ?_
      refine x_iconst (v := (nI 4)) C dX2_strain_69 (by decide) ?_
      refine x_iload_n C 1 rfl dX2_strain_70 rfl ?_
      refine x_iconst (v := (nI 0)) C dX2_strain_71 (by decide) ?_
      refine x_callVd (As := [.int (nI 4), .int (nI h), .int (nI 0)]) (rest := []) C dX2_strain_72 (c_X3_put (gX.l X) G (a 3) (a 4) 10 90 (upd (upd ho (40 + h) (ho (40 + h) + 1)) (50 + h) (se 3)) 4 h (40 + h) 0 (by omega) (by omega) (by omega) (by omega) (by omega)) ml_X2_40 im_X3_put sl_X3_put in_X3 cd_X3_put hd_X3_put 0 rfl rfl rfl rfl (Nat.le_of_ble_eq_true rfl) ⟨Nat.le_of_ble_eq_true rfl, Nat.le_of_ble_eq_true rfl⟩ (List.take 3 (wS G a ti se (upd (upd ho (40 + h) (ho (40 + h) + 1)) (50 + h) (se 3)) ri bo bc fs fc)) (List.drop 5 (wS G a ti se (upd (upd ho (40 + h) (ho (40 + h) + 1)) (50 + h) (se 3)) ri bo bc fs fc)) rfl (ws' := (wS G a ti se (upd (upd (upd ho (40 + h) (ho (40 + h) + 1)) (50 + h) (se 3)) (40 + h) 0) ri bo bc fs fc)) rfl (st' := []) rfl ⟨rfl, rfl⟩ ⟨Nat.le_of_ble_eq_true rfl, Nat.le_of_ble_eq_true rfl⟩ ?_
      exact x_vret C hr E dX2_strain_75 (fun _ => 0) (by rw [c_strain, if_pos (by assumption)]; first | rw [if_pos (by assumption)]; rfl | rw [if_neg (by assumption)]; rfl)
  · exact x_vret C hr E dX2_strain_23 (fun _ => 0) (by rw [c_strain, if_neg (by assumption)])
end
section
theorem zz_last : True := trivial
end
