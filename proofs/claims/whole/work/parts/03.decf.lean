theorem dX6_ridersFor_52 : decode cX6_ridersFor 52 = .ok (.iconst 0, 1) := by decide +kernel
theorem dX6_ridersFor_53 : decode cX6_ridersFor 53 = .ok (.istore 5, 2) := by decide +kernel
theorem dX6_ridersFor_55 : decode cX6_ridersFor 55 = .ok (.iload_n 3, 1) := by decide +kernel
theorem dX6_ridersFor_56 : decode cX6_ridersFor 56 = .ok (.iload 5, 2) := by decide +kernel
theorem dX6_ridersFor_58 : decode cX6_ridersFor 58 = .ok (.ifCond .eq 19, 3) := by decide +kernel
theorem dX6_ridersFor_61 : decode cX6_ridersFor 61 = .ok (.iconst 1, 1) := by decide +kernel
theorem dX6_ridersFor_62 : decode cX6_ridersFor 62 = .ok (.aload_n 0, 1) := by decide +kernel
theorem dX6_ridersFor_63 : decode cX6_ridersFor 63 = .ok (.getfield 7, 3) := by decide +kernel
theorem dX6_ridersFor_66 : decode cX6_ridersFor 66 = .ok (.iload 4, 2) := by decide +kernel
theorem dX6_ridersFor_68 : decode cX6_ridersFor 68 = .ok (.iconst 2, 1) := by decide +kernel
theorem dX6_ridersFor_69 : decode cX6_ridersFor 69 = .ok (.invokestatic 75, 3) := by decide +kernel
theorem dX6_ridersFor_72 : decode cX6_ridersFor 72 = .ok (.iaload, 1) := by decide +kernel
theorem dX6_ridersFor_73 : decode cX6_ridersFor 73 = .ok (.ishl, 1) := by decide +kernel
theorem dX6_ridersFor_74 : decode cX6_ridersFor 74 = .ok (.goto 4, 3) := by decide +kernel
theorem dX6_ridersFor_77 : decode cX6_ridersFor 77 = .ok (.iconst 0, 1) := by decide +kernel
theorem dX6_ridersFor_78 : decode cX6_ridersFor 78 = .ok (.ior, 1) := by decide +kernel
theorem dX6_ridersFor_79 : decode cX6_ridersFor 79 = .ok (.istore_n 3, 1) := by decide +kernel
theorem dX6_ridersFor_80 : decode cX6_ridersFor 80 = .ok (.iinc 4 1, 3) := by decide +kernel
theorem dX6_ridersFor_83 : decode cX6_ridersFor 83 = .ok (.goto (-78), 3) := by decide +kernel
theorem dX6_ridersFor_86 : decode cX6_ridersFor 86 = .ok (.iload_n 3, 1) := by decide +kernel
theorem dX6_ridersFor_87 : decode cX6_ridersFor 87 = .ok (.ireturn, 1) := by decide +kernel
theorem dX6_lesson_0 : decode cX6_lesson 0 = .ok (.iload_n 2, 1) := by decide +kernel
theorem dX6_lesson_1 : decode cX6_lesson 1 = .ok (.invokestatic 111, 3) := by decide +kernel
theorem dX6_lesson_4 : decode cX6_lesson 4 = .ok (.ifCond .ne 5, 3) := by decide +kernel
theorem dX6_lesson_7 : decode cX6_lesson 7 = .ok (.iconst (-1), 1) := by decide +kernel
theorem dX6_lesson_8 : decode cX6_lesson 8 = .ok (.ireturn, 1) := by decide +kernel
theorem dX6_lesson_9 : decode cX6_lesson 9 = .ok (.iload_n 1, 1) := by decide +kernel
theorem dX6_lesson_10 : decode cX6_lesson 10 = .ok (.invokestatic 114, 3) := by decide +kernel
theorem dX6_lesson_13 : decode cX6_lesson 13 = .ok (.ifCond .eq 12, 3) := by decide +kernel
theorem dX6_lesson_16 : decode cX6_lesson 16 = .ok (.iload_n 3, 1) := by decide +kernel
theorem dX6_lesson_17 : decode cX6_lesson 17 = .ok (.iconst 0, 1) := by decide +kernel
theorem dX6_lesson_18 : decode cX6_lesson 18 = .ok (.iconst 2, 1) := by decide +kernel
theorem dX6_lesson_19 : decode cX6_lesson 19 = .ok (.invokestatic 38, 3) := by decide +kernel
theorem dX6_lesson_22 : decode cX6_lesson 22 = .ok (.ifCond .ne 6, 3) := by decide +kernel
theorem dX6_lesson_25 : decode cX6_lesson 25 = .ok (.bipush (-2), 2) := by decide +kernel
theorem dX6_lesson_27 : decode cX6_lesson 27 = .ok (.ireturn, 1) := by decide +kernel
theorem dX6_lesson_28 : decode cX6_lesson 28 = .ok (.aload_n 0, 1) := by decide +kernel
theorem dX6_lesson_29 : decode cX6_lesson 29 = .ok (.getfield 7, 3) := by decide +kernel
theorem dX6_lesson_32 : decode cX6_lesson 32 = .ok (.iconst 0, 1) := by decide +kernel
theorem dX6_lesson_33 : decode cX6_lesson 33 = .ok (.iaload, 1) := by decide +kernel
theorem dX6_lesson_34 : decode cX6_lesson 34 = .ok (.iload_n 1, 1) := by decide +kernel
theorem dX6_lesson_35 : decode cX6_lesson 35 = .ok (.iadd, 1) := by decide +kernel
theorem dX6_lesson_36 : decode cX6_lesson 36 = .ok (.istore 4, 2) := by decide +kernel
theorem dX6_lesson_38 : decode cX6_lesson 38 = .ok (.aload_n 0, 1) := by decide +kernel
theorem dX6_lesson_39 : decode cX6_lesson 39 = .ok (.iload 4, 2) := by decide +kernel
theorem dX6_lesson_41 : decode cX6_lesson 41 = .ok (.iload_n 2, 1) := by decide +kernel
theorem dX6_lesson_42 : decode cX6_lesson 42 = .ok (.invokevirtual 120, 3) := by decide +kernel
theorem dX6_lesson_45 : decode cX6_lesson 45 = .ok (.istore 5, 2) := by decide +kernel
theorem dX6_lesson_47 : decode cX6_lesson 47 = .ok (.iload_n 3, 1) := by decide +kernel
theorem dX6_lesson_48 : decode cX6_lesson 48 = .ok (.ifCond .ne 8, 3) := by decide +kernel
theorem dX6_lesson_51 : decode cX6_lesson 51 = .ok (.iload 5, 2) := by decide +kernel
theorem dX6_lesson_53 : decode cX6_lesson 53 = .ok (.goto 24, 3) := by decide +kernel
theorem dX6_lesson_56 : decode cX6_lesson 56 = .ok (.iload_n 3, 1) := by decide +kernel
theorem dX6_lesson_57 : decode cX6_lesson 57 = .ok (.iconst 1, 1) := by decide +kernel
theorem dX6_lesson_58 : decode cX6_lesson 58 = .ok (.if_icmp .ne 12, 3) := by decide +kernel
theorem dX6_lesson_61 : decode cX6_lesson 61 = .ok (.iconst 4, 1) := by decide +kernel
theorem dX6_lesson_62 : decode cX6_lesson 62 = .ok (.iload_n 2, 1) := by decide +kernel
theorem dX6_lesson_63 : decode cX6_lesson 63 = .ok (.isub, 1) := by decide +kernel
theorem dX6_lesson_64 : decode cX6_lesson 64 = .ok (.iload 5, 2) := by decide +kernel
theorem dX6_lesson_66 : decode cX6_lesson 66 = .ok (.isub, 1) := by decide +kernel
theorem dX6_lesson_67 : decode cX6_lesson 67 = .ok (.goto 10, 3) := by decide +kernel
theorem dX6_lesson_70 : decode cX6_lesson 70 = .ok (.aload_n 0, 1) := by decide +kernel
theorem dX6_lesson_71 : decode cX6_lesson 71 = .ok (.iload 4, 2) := by decide +kernel
theorem dX6_lesson_73 : decode cX6_lesson 73 = .ok (.iload_n 2, 1) := by decide +kernel
theorem dX6_lesson_74 : decode cX6_lesson 74 = .ok (.invokevirtual 181, 3) := by decide +kernel
theorem dX6_lesson_77 : decode cX6_lesson 77 = .ok (.ireturn, 1) := by decide +kernel
theorem dX6_fall_0 : decode cX6_fall 0 = .ok (.iload_n 1, 1) := by decide +kernel
theorem dX6_fall_1 : decode cX6_fall 1 = .ok (.ifCond .lt 12, 3) := by decide +kernel
theorem dX6_fall_4 : decode cX6_fall 4 = .ok (.iload_n 2, 1) := by decide +kernel
theorem dX6_fall_5 : decode cX6_fall 5 = .ok (.iconst 0, 1) := by decide +kernel
theorem dX6_fall_6 : decode cX6_fall 6 = .ok (.iconst 2, 1) := by decide +kernel
theorem dX6_fall_7 : decode cX6_fall 7 = .ok (.invokestatic 38, 3) := by decide +kernel
theorem dX6_fall_10 : decode cX6_fall 10 = .ok (.ifCond .ne 6, 3) := by decide +kernel
theorem dX6_fall_13 : decode cX6_fall 13 = .ok (.bipush (-2), 2) := by decide +kernel
theorem dX6_fall_15 : decode cX6_fall 15 = .ok (.ireturn, 1) := by decide +kernel
theorem dX6_fall_16 : decode cX6_fall 16 = .ok (.iload_n 1, 1) := by decide +kernel
theorem dX6_fall_17 : decode cX6_fall 17 = .ok (.aload_n 0, 1) := by decide +kernel
theorem dX6_fall_18 : decode cX6_fall 18 = .ok (.getfield 7, 3) := by decide +kernel
theorem dX6_fall_21 : decode cX6_fall 21 = .ok (.sipush 317, 3) := by decide +kernel
theorem dX6_fall_24 : decode cX6_fall 24 = .ok (.iaload, 1) := by decide +kernel
theorem dX6_fall_25 : decode cX6_fall 25 = .ok (.if_icmp .ge 20, 3) := by decide +kernel
theorem dX6_fall_28 : decode cX6_fall 28 = .ok (.aload_n 0, 1) := by decide +kernel
theorem dX6_fall_29 : decode cX6_fall 29 = .ok (.getfield 7, 3) := by decide +kernel
theorem dX6_fall_32 : decode cX6_fall 32 = .ok (.sipush 318, 3) := by decide +kernel
theorem dX6_fall_35 : decode cX6_fall 35 = .ok (.iconst 3, 1) := by decide +kernel
theorem dX6_fall_36 : decode cX6_fall 36 = .ok (.iload_n 1, 1) := by decide +kernel
theorem dX6_fall_37 : decode cX6_fall 37 = .ok (.imul, 1) := by decide +kernel
theorem dX6_fall_38 : decode cX6_fall 38 = .ok (.iadd, 1) := by decide +kernel
theorem dX6_fall_39 : decode cX6_fall 39 = .ok (.iload_n 2, 1) := by decide +kernel
theorem dX6_fall_40 : decode cX6_fall 40 = .ok (.iadd, 1) := by decide +kernel
theorem dX6_fall_41 : decode cX6_fall 41 = .ok (.iaload, 1) := by decide +kernel
theorem dX6_fall_42 : decode cX6_fall 42 = .ok (.goto 5, 3) := by decide +kernel
theorem dX6_fall_45 : decode cX6_fall 45 = .ok (.bipush (-5), 2) := by decide +kernel
theorem dX6_fall_47 : decode cX6_fall 47 = .ok (.ireturn, 1) := by decide +kernel
theorem dX6_reason_0 : decode cX6_reason 0 = .ok (.iload_n 1, 1) := by decide +kernel
theorem dX6_reason_1 : decode cX6_reason 1 = .ok (.invokestatic 95, 3) := by decide +kernel
theorem dX6_reason_4 : decode cX6_reason 4 = .ok (.ifCond .eq 23, 3) := by decide +kernel
theorem dX6_reason_7 : decode cX6_reason 7 = .ok (.iload_n 2, 1) := by decide +kernel
theorem dX6_reason_8 : decode cX6_reason 8 = .ok (.invokestatic 102, 3) := by decide +kernel
theorem dX6_reason_11 : decode cX6_reason 11 = .ok (.ifCond .eq 16, 3) := by decide +kernel
theorem dX6_reason_14 : decode cX6_reason 14 = .ok (.aload_n 0, 1) := by decide +kernel
theorem dX6_reason_15 : decode cX6_reason 15 = .ok (.iload_n 1, 1) := by decide +kernel
theorem dX6_reason_16 : decode cX6_reason 16 = .ok (.iload_n 2, 1) := by decide +kernel
theorem dX6_reason_17 : decode cX6_reason 17 = .ok (.aload_n 0, 1) := by decide +kernel
theorem dX6_reason_18 : decode cX6_reason 18 = .ok (.invokevirtual 82, 3) := by decide +kernel
theorem dX6_reason_21 : decode cX6_reason 21 = .ok (.invokevirtual 54, 3) := by decide +kernel
theorem dX6_reason_24 : decode cX6_reason 24 = .ok (.goto 4, 3) := by decide +kernel
theorem dX6_reason_27 : decode cX6_reason 27 = .ok (.iconst (-1), 1) := by decide +kernel
theorem dX6_reason_28 : decode cX6_reason 28 = .ok (.ireturn, 1) := by decide +kernel
theorem dX6_best_0 : decode cX6_best 0 = .ok (.iload_n 1, 1) := by decide +kernel
theorem dX6_best_1 : decode cX6_best 1 = .ok (.invokestatic 102, 3) := by decide +kernel
theorem dX6_best_4 : decode cX6_best 4 = .ok (.ifCond .ne 5, 3) := by decide +kernel
theorem dX6_best_7 : decode cX6_best 7 = .ok (.iconst (-1), 1) := by decide +kernel
theorem dX6_best_8 : decode cX6_best 8 = .ok (.ireturn, 1) := by decide +kernel
theorem dX6_best_9 : decode cX6_best 9 = .ok (.aload_n 0, 1) := by decide +kernel
theorem dX6_best_10 : decode cX6_best 10 = .ok (.invokevirtual 86, 3) := by decide +kernel
theorem dX6_best_13 : decode cX6_best 13 = .ok (.aload_n 0, 1) := by decide +kernel
theorem dX6_best_14 : decode cX6_best 14 = .ok (.iload_n 1, 1) := by decide +kernel
theorem dX6_best_15 : decode cX6_best 15 = .ok (.aload_n 0, 1) := by decide +kernel
theorem dX6_best_16 : decode cX6_best 16 = .ok (.invokevirtual 82, 3) := by decide +kernel
theorem dX6_best_19 : decode cX6_best 19 = .ok (.invokevirtual 61, 3) := by decide +kernel
theorem dX6_best_22 : decode cX6_best 22 = .ok (.ireturn, 1) := by decide +kernel
theorem dX6_takenIn_0 : decode cX6_takenIn 0 = .ok (.iload_n 1, 1) := by decide +kernel
theorem dX6_takenIn_1 : decode cX6_takenIn 1 = .ok (.invokestatic 95, 3) := by decide +kernel
theorem dX6_takenIn_4 : decode cX6_takenIn 4 = .ok (.ifCond .eq 10, 3) := by decide +kernel
theorem dX6_takenIn_7 : decode cX6_takenIn 7 = .ok (.iload_n 2, 1) := by decide +kernel
theorem dX6_takenIn_8 : decode cX6_takenIn 8 = .ok (.invokestatic 102, 3) := by decide +kernel
theorem dX6_takenIn_11 : decode cX6_takenIn 11 = .ok (.ifCond .ne 5, 3) := by decide +kernel
theorem dX6_takenIn_14 : decode cX6_takenIn 14 = .ok (.iconst (-1), 1) := by decide +kernel
theorem dX6_takenIn_15 : decode cX6_takenIn 15 = .ok (.ireturn, 1) := by decide +kernel
theorem dX6_takenIn_16 : decode cX6_takenIn 16 = .ok (.aload_n 0, 1) := by decide +kernel
theorem dX6_takenIn_17 : decode cX6_takenIn 17 = .ok (.invokevirtual 123, 3) := by decide +kernel
theorem dX6_takenIn_20 : decode cX6_takenIn 20 = .ok (.iconst 0, 1) := by decide +kernel
theorem dX6_takenIn_21 : decode cX6_takenIn 21 = .ok (.istore_n 3, 1) := by decide +kernel
theorem dX6_takenIn_22 : decode cX6_takenIn 22 = .ok (.iconst 0, 1) := by decide +kernel
theorem dX6_takenIn_23 : decode cX6_takenIn 23 = .ok (.istore 4, 2) := by decide +kernel
theorem dX6_takenIn_25 : decode cX6_takenIn 25 = .ok (.iload_n 3, 1) := by decide +kernel
theorem dX6_takenIn_26 : decode cX6_takenIn 26 = .ok (.sipush 200, 3) := by decide +kernel
theorem dX6_takenIn_29 : decode cX6_takenIn 29 = .ok (.if_icmp .gt 32, 3) := by decide +kernel
theorem dX6_takenIn_32 : decode cX6_takenIn 32 = .ok (.aload_n 0, 1) := by decide +kernel
theorem dX6_takenIn_33 : decode cX6_takenIn 33 = .ok (.iload_n 1, 1) := by decide +kernel
theorem dX6_takenIn_34 : decode cX6_takenIn 34 = .ok (.iload_n 2, 1) := by decide +kernel
theorem dX6_takenIn_35 : decode cX6_takenIn 35 = .ok (.aload_n 0, 1) := by decide +kernel
theorem dX6_takenIn_36 : decode cX6_takenIn 36 = .ok (.invokevirtual 82, 3) := by decide +kernel
theorem dX6_takenIn_39 : decode cX6_takenIn 39 = .ok (.invokevirtual 54, 3) := by decide +kernel
theorem dX6_takenIn_42 : decode cX6_takenIn 42 = .ok (.ifCond .eq 19, 3) := by decide +kernel
theorem dX6_takenIn_45 : decode cX6_takenIn 45 = .ok (.iload 4, 2) := by decide +kernel
theorem dX6_takenIn_47 : decode cX6_takenIn 47 = .ok (.aload_n 0, 1) := by decide +kernel
theorem dX6_takenIn_48 : decode cX6_takenIn 48 = .ok (.iconst 0, 1) := by decide +kernel
theorem dX6_takenIn_49 : decode cX6_takenIn 49 = .ok (.invokevirtual 132, 3) := by decide +kernel
theorem dX6_takenIn_52 : decode cX6_takenIn 52 = .ok (.iadd, 1) := by decide +kernel
theorem dX6_takenIn_53 : decode cX6_takenIn 53 = .ok (.istore 4, 2) := by decide +kernel
theorem dX6_takenIn_55 : decode cX6_takenIn 55 = .ok (.iinc 3 1, 3) := by decide +kernel
theorem dX6_takenIn_58 : decode cX6_takenIn 58 = .ok (.goto (-33), 3) := by decide +kernel
theorem dX6_takenIn_61 : decode cX6_takenIn 61 = .ok (.aload_n 0, 1) := by decide +kernel
theorem dX6_takenIn_62 : decode cX6_takenIn 62 = .ok (.invokevirtual 172, 3) := by decide +kernel
theorem dX6_takenIn_65 : decode cX6_takenIn 65 = .ok (.iload_n 3, 1) := by decide +kernel
theorem dX6_takenIn_66 : decode cX6_takenIn 66 = .ok (.sipush 200, 3) := by decide +kernel
theorem dX6_takenIn_69 : decode cX6_takenIn 69 = .ok (.if_icmp .le 8, 3) := by decide +kernel
theorem dX6_takenIn_72 : decode cX6_takenIn 72 = .ok (.bipush (-5), 2) := by decide +kernel
theorem dX6_takenIn_74 : decode cX6_takenIn 74 = .ok (.goto 4, 3) := by decide +kernel
theorem dX6_takenIn_77 : decode cX6_takenIn 77 = .ok (.iload_n 3, 1) := by decide +kernel
theorem dX6_takenIn_78 : decode cX6_takenIn 78 = .ok (.ireturn, 1) := by decide +kernel
theorem dX6_lameHorses_0 : decode cX6_lameHorses 0 = .ok (.iconst 0, 1) := by decide +kernel
theorem dX6_lameHorses_1 : decode cX6_lameHorses 1 = .ok (.istore_n 1, 1) := by decide +kernel
theorem dX6_lameHorses_2 : decode cX6_lameHorses 2 = .ok (.iconst 0, 1) := by decide +kernel
theorem dX6_lameHorses_3 : decode cX6_lameHorses 3 = .ok (.istore_n 2, 1) := by decide +kernel
theorem dX6_lameHorses_4 : decode cX6_lameHorses 4 = .ok (.iload_n 2, 1) := by decide +kernel
theorem dX6_lameHorses_5 : decode cX6_lameHorses 5 = .ok (.bipush 10, 2) := by decide +kernel
theorem dX6_lameHorses_7 : decode cX6_lameHorses 7 = .ok (.if_icmp .ge 30, 3) := by decide +kernel
theorem dX6_lameHorses_10 : decode cX6_lameHorses 10 = .ok (.iload_n 1, 1) := by decide +kernel
theorem dX6_lameHorses_11 : decode cX6_lameHorses 11 = .ok (.aload_n 0, 1) := by decide +kernel
theorem dX6_lameHorses_12 : decode cX6_lameHorses 12 = .ok (.getfield 7, 3) := by decide +kernel
theorem dX6_lameHorses_15 : decode cX6_lameHorses 15 = .ok (.iload_n 2, 1) := by decide +kernel
theorem dX6_lameHorses_16 : decode cX6_lameHorses 16 = .ok (.iconst 5, 1) := by decide +kernel
theorem dX6_lameHorses_17 : decode cX6_lameHorses 17 = .ok (.invokestatic 31, 3) := by decide +kernel
theorem dX6_lameHorses_20 : decode cX6_lameHorses 20 = .ok (.iaload, 1) := by decide +kernel
theorem dX6_lameHorses_21 : decode cX6_lameHorses 21 = .ok (.ifCond .le 7, 3) := by decide +kernel
theorem dX6_lameHorses_24 : decode cX6_lameHorses 24 = .ok (.iconst 1, 1) := by decide +kernel
theorem dX6_lameHorses_25 : decode cX6_lameHorses 25 = .ok (.goto 4, 3) := by decide +kernel
theorem dX6_lameHorses_28 : decode cX6_lameHorses 28 = .ok (.iconst 0, 1) := by decide +kernel
theorem dX6_lameHorses_29 : decode cX6_lameHorses 29 = .ok (.iadd, 1) := by decide +kernel
theorem dX6_lameHorses_30 : decode cX6_lameHorses 30 = .ok (.istore_n 1, 1) := by decide +kernel
theorem dX6_lameHorses_31 : decode cX6_lameHorses 31 = .ok (.iinc 2 1, 3) := by decide +kernel
theorem dX6_lameHorses_34 : decode cX6_lameHorses 34 = .ok (.goto (-30), 3) := by decide +kernel
theorem dX6_lameHorses_37 : decode cX6_lameHorses 37 = .ok (.iload_n 1, 1) := by decide +kernel
theorem dX6_lameHorses_38 : decode cX6_lameHorses 38 = .ok (.ireturn, 1) := by decide +kernel
theorem dX6_ifPassed_0 : decode cX6_ifPassed 0 = .ok (.iload_n 1, 1) := by decide +kernel
theorem dX6_ifPassed_1 : decode cX6_ifPassed 1 = .ok (.iconst 1, 1) := by decide +kernel
theorem dX6_ifPassed_2 : decode cX6_ifPassed 2 = .ok (.bipush 99, 2) := by decide +kernel
theorem dX6_ifPassed_4 : decode cX6_ifPassed 4 = .ok (.invokestatic 38, 3) := by decide +kernel
theorem dX6_ifPassed_7 : decode cX6_ifPassed 7 = .ok (.ifCond .eq 12, 3) := by decide +kernel
theorem dX6_ifPassed_10 : decode cX6_ifPassed 10 = .ok (.iload_n 2, 1) := by decide +kernel
theorem dX6_ifPassed_11 : decode cX6_ifPassed 11 = .ok (.iconst 0, 1) := by decide +kernel
theorem dX6_ifPassed_12 : decode cX6_ifPassed 12 = .ok (.iconst 3, 1) := by decide +kernel
theorem dX6_ifPassed_13 : decode cX6_ifPassed 13 = .ok (.invokestatic 38, 3) := by decide +kernel
theorem dX6_ifPassed_16 : decode cX6_ifPassed 16 = .ok (.ifCond .ne 6, 3) := by decide +kernel
theorem dX6_ifPassed_19 : decode cX6_ifPassed 19 = .ok (.bipush (-2), 2) := by decide +kernel
theorem dX6_ifPassed_21 : decode cX6_ifPassed 21 = .ok (.ireturn, 1) := by decide +kernel
theorem dX6_ifPassed_22 : decode cX6_ifPassed 22 = .ok (.aload_n 0, 1) := by decide +kernel
theorem dX6_ifPassed_23 : decode cX6_ifPassed 23 = .ok (.invokevirtual 123, 3) := by decide +kernel
theorem dX6_ifPassed_26 : decode cX6_ifPassed 26 = .ok (.iconst 0, 1) := by decide +kernel
theorem dX6_ifPassed_27 : decode cX6_ifPassed 27 = .ok (.istore_n 3, 1) := by decide +kernel
theorem dX6_ifPassed_28 : decode cX6_ifPassed 28 = .ok (.iconst 0, 1) := by decide +kernel
theorem dX6_ifPassed_29 : decode cX6_ifPassed 29 = .ok (.istore 4, 2) := by decide +kernel
theorem dX6_ifPassed_31 : decode cX6_ifPassed 31 = .ok (.iload 4, 2) := by decide +kernel
theorem dX6_ifPassed_33 : decode cX6_ifPassed 33 = .ok (.iload_n 1, 1) := by decide +kernel
theorem dX6_ifPassed_34 : decode cX6_ifPassed 34 = .ok (.if_icmp .ge 17, 3) := by decide +kernel
theorem dX6_ifPassed_37 : decode cX6_ifPassed 37 = .ok (.iload_n 3, 1) := by decide +kernel
theorem dX6_ifPassed_38 : decode cX6_ifPassed 38 = .ok (.aload_n 0, 1) := by decide +kernel
theorem dX6_ifPassed_39 : decode cX6_ifPassed 39 = .ok (.iconst 1, 1) := by decide +kernel
theorem dX6_ifPassed_40 : decode cX6_ifPassed 40 = .ok (.invokevirtual 132, 3) := by decide +kernel
theorem dX6_ifPassed_43 : decode cX6_ifPassed 43 = .ok (.iadd, 1) := by decide +kernel
theorem dX6_ifPassed_44 : decode cX6_ifPassed 44 = .ok (.istore_n 3, 1) := by decide +kernel
theorem dX6_ifPassed_45 : decode cX6_ifPassed 45 = .ok (.iinc 4 1, 3) := by decide +kernel
theorem dX6_ifPassed_48 : decode cX6_ifPassed 48 = .ok (.goto (-17), 3) := by decide +kernel
theorem dX6_ifPassed_51 : decode cX6_ifPassed 51 = .ok (.aload_n 0, 1) := by decide +kernel
theorem dX6_ifPassed_52 : decode cX6_ifPassed 52 = .ok (.getfield 7, 3) := by decide +kernel
theorem dX6_ifPassed_55 : decode cX6_ifPassed 55 = .ok (.sipush 315, 3) := by decide +kernel
theorem dX6_ifPassed_58 : decode cX6_ifPassed 58 = .ok (.iaload, 1) := by decide +kernel
theorem dX6_ifPassed_59 : decode cX6_ifPassed 59 = .ok (.aload_n 0, 1) := by decide +kernel
theorem dX6_ifPassed_60 : decode cX6_ifPassed 60 = .ok (.getfield 13, 3) := by decide +kernel
theorem dX6_ifPassed_63 : decode cX6_ifPassed 63 = .ok (.sipush 315, 3) := by decide +kernel
theorem dX6_ifPassed_66 : decode cX6_ifPassed 66 = .ok (.iaload, 1) := by decide +kernel
theorem dX6_ifPassed_67 : decode cX6_ifPassed 67 = .ok (.isub, 1) := by decide +kernel
theorem dX6_ifPassed_68 : decode cX6_ifPassed 68 = .ok (.istore 4, 2) := by decide +kernel
theorem dX6_ifPassed_70 : decode cX6_ifPassed 70 = .ok (.aload_n 0, 1) := by decide +kernel
theorem dX6_ifPassed_71 : decode cX6_ifPassed 71 = .ok (.getfield 7, 3) := by decide +kernel
theorem dX6_ifPassed_74 : decode cX6_ifPassed 74 = .ok (.sipush 314, 3) := by decide +kernel
theorem dX6_ifPassed_77 : decode cX6_ifPassed 77 = .ok (.iaload, 1) := by decide +kernel
theorem dX6_ifPassed_78 : decode cX6_ifPassed 78 = .ok (.aload_n 0, 1) := by decide +kernel
theorem dX6_ifPassed_79 : decode cX6_ifPassed 79 = .ok (.getfield 13, 3) := by decide +kernel
theorem dX6_ifPassed_82 : decode cX6_ifPassed 82 = .ok (.sipush 314, 3) := by decide +kernel
theorem dX6_ifPassed_85 : decode cX6_ifPassed 85 = .ok (.iaload, 1) := by decide +kernel
theorem dX6_ifPassed_86 : decode cX6_ifPassed 86 = .ok (.isub, 1) := by decide +kernel
theorem dX6_ifPassed_87 : decode cX6_ifPassed 87 = .ok (.istore 5, 2) := by decide +kernel
theorem dX6_ifPassed_89 : decode cX6_ifPassed 89 = .ok (.aload_n 0, 1) := by decide +kernel
theorem dX6_ifPassed_90 : decode cX6_ifPassed 90 = .ok (.invokevirtual 184, 3) := by decide +kernel
theorem dX6_ifPassed_93 : decode cX6_ifPassed 93 = .ok (.istore 6, 2) := by decide +kernel
theorem dX6_ifPassed_95 : decode cX6_ifPassed 95 = .ok (.aload_n 0, 1) := by decide +kernel
theorem dX6_ifPassed_96 : decode cX6_ifPassed 96 = .ok (.invokevirtual 172, 3) := by decide +kernel
theorem dX6_ifPassed_99 : decode cX6_ifPassed 99 = .ok (.iload_n 2, 1) := by decide +kernel
theorem dX6_ifPassed_100 : decode cX6_ifPassed 100 = .ok (.ifCond .ne 7, 3) := by decide +kernel
theorem dX6_ifPassed_103 : decode cX6_ifPassed 103 = .ok (.iload_n 3, 1) := by decide +kernel
theorem dX6_ifPassed_104 : decode cX6_ifPassed 104 = .ok (.goto 25, 3) := by decide +kernel
theorem dX6_ifPassed_107 : decode cX6_ifPassed 107 = .ok (.iload_n 2, 1) := by decide +kernel
theorem dX6_ifPassed_108 : decode cX6_ifPassed 108 = .ok (.iconst 1, 1) := by decide +kernel
theorem dX6_ifPassed_109 : decode cX6_ifPassed 109 = .ok (.if_icmp .ne 8, 3) := by decide +kernel
theorem dX6_ifPassed_112 : decode cX6_ifPassed 112 = .ok (.iload 4, 2) := by decide +kernel
theorem dX6_ifPassed_114 : decode cX6_ifPassed 114 = .ok (.goto 15, 3) := by decide +kernel
theorem dX6_ifPassed_117 : decode cX6_ifPassed 117 = .ok (.iload_n 2, 1) := by decide +kernel
theorem dX6_ifPassed_118 : decode cX6_ifPassed 118 = .ok (.iconst 2, 1) := by decide +kernel
theorem dX6_ifPassed_119 : decode cX6_ifPassed 119 = .ok (.if_icmp .ne 8, 3) := by decide +kernel
theorem dX6_ifPassed_122 : decode cX6_ifPassed 122 = .ok (.iload 5, 2) := by decide +kernel
theorem dX6_ifPassed_124 : decode cX6_ifPassed 124 = .ok (.goto 5, 3) := by decide +kernel
theorem dX6_ifPassed_127 : decode cX6_ifPassed 127 = .ok (.iload 6, 2) := by decide +kernel
theorem dX6_ifPassed_129 : decode cX6_ifPassed 129 = .ok (.ireturn, 1) := by decide +kernel
theorem dX6_busiest_0 : decode cX6_busiest 0 = .ok (.bipush (-5), 2) := by decide +kernel
theorem dX6_busiest_2 : decode cX6_busiest 2 = .ok (.istore_n 1, 1) := by decide +kernel
theorem dX6_busiest_3 : decode cX6_busiest 3 = .ok (.iconst 0, 1) := by decide +kernel
theorem dX6_busiest_4 : decode cX6_busiest 4 = .ok (.istore_n 2, 1) := by decide +kernel
theorem dX6_busiest_5 : decode cX6_busiest 5 = .ok (.iconst 0, 1) := by decide +kernel
theorem dX6_busiest_6 : decode cX6_busiest 6 = .ok (.istore_n 3, 1) := by decide +kernel
theorem dX6_busiest_7 : decode cX6_busiest 7 = .ok (.iload_n 3, 1) := by decide +kernel
theorem dX6_busiest_8 : decode cX6_busiest 8 = .ok (.bipush 100, 2) := by decide +kernel
theorem dX6_busiest_10 : decode cX6_busiest 10 = .ok (.if_icmp .ge 69, 3) := by decide +kernel
theorem dX6_busiest_13 : decode cX6_busiest 13 = .ok (.aload_n 0, 1) := by decide +kernel
theorem dX6_busiest_14 : decode cX6_busiest 14 = .ok (.getfield 7, 3) := by decide +kernel
theorem dX6_busiest_17 : decode cX6_busiest 17 = .ok (.iconst 0, 1) := by decide +kernel
theorem dX6_busiest_18 : decode cX6_busiest 18 = .ok (.iaload, 1) := by decide +kernel
theorem dX6_busiest_19 : decode cX6_busiest 19 = .ok (.iload_n 3, 1) := by decide +kernel
theorem dX6_busiest_20 : decode cX6_busiest 20 = .ok (.iadd, 1) := by decide +kernel
theorem dX6_busiest_21 : decode cX6_busiest 21 = .ok (.istore 4, 2) := by decide +kernel
theorem dX6_busiest_23 : decode cX6_busiest 23 = .ok (.aload_n 0, 1) := by decide +kernel
theorem dX6_busiest_24 : decode cX6_busiest 24 = .ok (.iload 4, 2) := by decide +kernel
theorem dX6_busiest_26 : decode cX6_busiest 26 = .ok (.iconst 0, 1) := by decide +kernel
theorem dX6_busiest_27 : decode cX6_busiest 27 = .ok (.invokevirtual 120, 3) := by decide +kernel
theorem dX6_busiest_30 : decode cX6_busiest 30 = .ok (.aload_n 0, 1) := by decide +kernel
theorem dX6_busiest_31 : decode cX6_busiest 31 = .ok (.iload 4, 2) := by decide +kernel
theorem dX6_busiest_33 : decode cX6_busiest 33 = .ok (.iconst 1, 1) := by decide +kernel
theorem dX6_busiest_34 : decode cX6_busiest 34 = .ok (.invokevirtual 120, 3) := by decide +kernel
theorem dX6_busiest_37 : decode cX6_busiest 37 = .ok (.iadd, 1) := by decide +kernel
theorem dX6_busiest_38 : decode cX6_busiest 38 = .ok (.aload_n 0, 1) := by decide +kernel
theorem dX6_busiest_39 : decode cX6_busiest 39 = .ok (.iload 4, 2) := by decide +kernel
theorem dX6_busiest_41 : decode cX6_busiest 41 = .ok (.iconst 2, 1) := by decide +kernel
theorem dX6_busiest_42 : decode cX6_busiest 42 = .ok (.invokevirtual 120, 3) := by decide +kernel
theorem dX6_busiest_45 : decode cX6_busiest 45 = .ok (.iadd, 1) := by decide +kernel
theorem dX6_busiest_46 : decode cX6_busiest 46 = .ok (.istore 5, 2) := by decide +kernel
theorem dX6_busiest_48 : decode cX6_busiest 48 = .ok (.iload 5, 2) := by decide +kernel
theorem dX6_busiest_50 : decode cX6_busiest 50 = .ok (.iload_n 2, 1) := by decide +kernel
theorem dX6_busiest_51 : decode cX6_busiest 51 = .ok (.if_icmp .le 7, 3) := by decide +kernel
theorem dX6_busiest_54 : decode cX6_busiest 54 = .ok (.iload_n 3, 1) := by decide +kernel
theorem dX6_busiest_55 : decode cX6_busiest 55 = .ok (.goto 4, 3) := by decide +kernel
theorem dX6_busiest_58 : decode cX6_busiest 58 = .ok (.iload_n 1, 1) := by decide +kernel
theorem dX6_busiest_59 : decode cX6_busiest 59 = .ok (.istore_n 1, 1) := by decide +kernel
theorem dX6_busiest_60 : decode cX6_busiest 60 = .ok (.iload 5, 2) := by decide +kernel
theorem dX6_busiest_62 : decode cX6_busiest 62 = .ok (.iload_n 2, 1) := by decide +kernel
theorem dX6_busiest_63 : decode cX6_busiest 63 = .ok (.if_icmp .le 8, 3) := by decide +kernel
theorem dX6_busiest_66 : decode cX6_busiest 66 = .ok (.iload 5, 2) := by decide +kernel
theorem dX6_busiest_68 : decode cX6_busiest 68 = .ok (.goto 4, 3) := by decide +kernel
theorem dX6_busiest_71 : decode cX6_busiest 71 = .ok (.iload_n 2, 1) := by decide +kernel
theorem dX6_busiest_72 : decode cX6_busiest 72 = .ok (.istore_n 2, 1) := by decide +kernel
theorem dX6_busiest_73 : decode cX6_busiest 73 = .ok (.iinc 3 1, 3) := by decide +kernel
theorem dX6_busiest_76 : decode cX6_busiest 76 = .ok (.goto (-69), 3) := by decide +kernel
theorem dX6_busiest_79 : decode cX6_busiest 79 = .ok (.iload_n 1, 1) := by decide +kernel
theorem dX6_busiest_80 : decode cX6_busiest 80 = .ok (.ireturn, 1) := by decide +kernel
theorem dX6_tiredness_0 : decode cX6_tiredness 0 = .ok (.iconst 0, 1) := by decide +kernel
theorem dX6_tiredness_1 : decode cX6_tiredness 1 = .ok (.istore_n 1, 1) := by decide +kernel
theorem dX6_tiredness_2 : decode cX6_tiredness 2 = .ok (.iconst 0, 1) := by decide +kernel
theorem dX6_tiredness_3 : decode cX6_tiredness 3 = .ok (.istore_n 2, 1) := by decide +kernel
theorem dX6_tiredness_4 : decode cX6_tiredness 4 = .ok (.iload_n 2, 1) := by decide +kernel
theorem dX6_tiredness_5 : decode cX6_tiredness 5 = .ok (.bipush 10, 2) := by decide +kernel
theorem dX6_tiredness_7 : decode cX6_tiredness 7 = .ok (.if_icmp .ge 22, 3) := by decide +kernel
theorem dX6_tiredness_10 : decode cX6_tiredness 10 = .ok (.iload_n 1, 1) := by decide +kernel
theorem dX6_tiredness_11 : decode cX6_tiredness 11 = .ok (.aload_n 0, 1) := by decide +kernel
theorem dX6_tiredness_12 : decode cX6_tiredness 12 = .ok (.getfield 7, 3) := by decide +kernel
theorem dX6_tiredness_15 : decode cX6_tiredness 15 = .ok (.iload_n 2, 1) := by decide +kernel
theorem dX6_tiredness_16 : decode cX6_tiredness 16 = .ok (.iconst 2, 1) := by decide +kernel
theorem dX6_tiredness_17 : decode cX6_tiredness 17 = .ok (.invokestatic 31, 3) := by decide +kernel
theorem dX6_tiredness_20 : decode cX6_tiredness 20 = .ok (.iaload, 1) := by decide +kernel
theorem dX6_tiredness_21 : decode cX6_tiredness 21 = .ok (.iadd, 1) := by decide +kernel
theorem dX6_tiredness_22 : decode cX6_tiredness 22 = .ok (.istore_n 1, 1) := by decide +kernel
theorem dX6_tiredness_23 : decode cX6_tiredness 23 = .ok (.iinc 2 1, 3) := by decide +kernel
theorem dX6_tiredness_26 : decode cX6_tiredness 26 = .ok (.goto (-22), 3) := by decide +kernel
theorem dX6_tiredness_29 : decode cX6_tiredness 29 = .ok (.iload_n 1, 1) := by decide +kernel
theorem dX6_tiredness_30 : decode cX6_tiredness 30 = .ok (.ireturn, 1) := by decide +kernel
theorem dX6_count_0 : decode cX6_count 0 = .ok (.iload_n 1, 1) := by decide +kernel
theorem dX6_count_1 : decode cX6_count 1 = .ok (.bipush 12, 2) := by decide +kernel
theorem dX6_count_3 : decode cX6_count 3 = .ok (.bipush 16, 2) := by decide +kernel
theorem dX6_count_5 : decode cX6_count 5 = .ok (.invokestatic 38, 3) := by decide +kernel
theorem dX6_count_8 : decode cX6_count 8 = .ok (.ifCond .eq 17, 3) := by decide +kernel
theorem dX6_count_11 : decode cX6_count 11 = .ok (.aload_n 0, 1) := by decide +kernel
theorem dX6_count_12 : decode cX6_count 12 = .ok (.getfield 7, 3) := by decide +kernel
theorem dX6_count_15 : decode cX6_count 15 = .ok (.sipush 187, 3) := by decide +kernel
theorem dX6_count_18 : decode cX6_count 18 = .ok (.iload_n 1, 1) := by decide +kernel
theorem dX6_count_19 : decode cX6_count 19 = .ok (.iadd, 1) := by decide +kernel
theorem dX6_count_20 : decode cX6_count 20 = .ok (.bipush 12, 2) := by decide +kernel
theorem dX6_count_22 : decode cX6_count 22 = .ok (.isub, 1) := by decide +kernel
theorem dX6_count_23 : decode cX6_count 23 = .ok (.iaload, 1) := by decide +kernel
theorem dX6_count_24 : decode cX6_count 24 = .ok (.ireturn, 1) := by decide +kernel
theorem dX6_count_25 : decode cX6_count 25 = .ok (.iload_n 1, 1) := by decide +kernel
theorem dX6_count_26 : decode cX6_count 26 = .ok (.tableswitch 186 0 18 #[90, 97, 107, 117, 126, 126, 126, 139, 144, 153, 158, 171, 186, 186, 186, 186, 186, 176, 181], 90) := by decide +kernel
theorem dX6_count_116 : decode cX6_count 116 = .ok (.aload_n 0, 1) := by decide +kernel
theorem dX6_count_117 : decode cX6_count 117 = .ok (.getfield 7, 3) := by decide +kernel
theorem dX6_count_120 : decode cX6_count 120 = .ok (.iconst 0, 1) := by decide +kernel
theorem dX6_count_121 : decode cX6_count 121 = .ok (.iaload, 1) := by decide +kernel
theorem dX6_count_122 : decode cX6_count 122 = .ok (.ireturn, 1) := by decide +kernel
theorem dX6_count_123 : decode cX6_count 123 = .ok (.aload_n 0, 1) := by decide +kernel
theorem dX6_count_124 : decode cX6_count 124 = .ok (.getfield 7, 3) := by decide +kernel
theorem dX6_count_127 : decode cX6_count 127 = .ok (.iconst 0, 1) := by decide +kernel
theorem dX6_count_128 : decode cX6_count 128 = .ok (.iaload, 1) := by decide +kernel
theorem dX6_count_129 : decode cX6_count 129 = .ok (.bipush 10, 2) := by decide +kernel
theorem dX6_count_131 : decode cX6_count 131 = .ok (.idiv, 1) := by decide +kernel
theorem dX6_count_132 : decode cX6_count 132 = .ok (.ireturn, 1) := by decide +kernel
theorem dX6_count_133 : decode cX6_count 133 = .ok (.aload_n 0, 1) := by decide +kernel
theorem dX6_count_134 : decode cX6_count 134 = .ok (.getfield 7, 3) := by decide +kernel
theorem dX6_count_137 : decode cX6_count 137 = .ok (.iconst 0, 1) := by decide +kernel
theorem dX6_count_138 : decode cX6_count 138 = .ok (.iaload, 1) := by decide +kernel
theorem dX6_count_139 : decode cX6_count 139 = .ok (.bipush 10, 2) := by decide +kernel
theorem dX6_count_141 : decode cX6_count 141 = .ok (.irem, 1) := by decide +kernel
theorem dX6_count_142 : decode cX6_count 142 = .ok (.ireturn, 1) := by decide +kernel
theorem dX6_count_143 : decode cX6_count 143 = .ok (.aload_n 0, 1) := by decide +kernel
theorem dX6_count_144 : decode cX6_count 144 = .ok (.getfield 7, 3) := by decide +kernel
theorem dX6_count_147 : decode cX6_count 147 = .ok (.sipush 192, 3) := by decide +kernel
theorem dX6_count_150 : decode cX6_count 150 = .ok (.iaload, 1) := by decide +kernel
theorem dX6_count_151 : decode cX6_count 151 = .ok (.ireturn, 1) := by decide +kernel
theorem dX6_count_152 : decode cX6_count 152 = .ok (.aload_n 0, 1) := by decide +kernel
theorem dX6_count_153 : decode cX6_count 153 = .ok (.getfield 7, 3) := by decide +kernel
theorem dX6_count_156 : decode cX6_count 156 = .ok (.sipush 313, 3) := by decide +kernel
theorem dX6_count_159 : decode cX6_count 159 = .ok (.iload_n 1, 1) := by decide +kernel
theorem dX6_count_160 : decode cX6_count 160 = .ok (.iadd, 1) := by decide +kernel
theorem dX6_count_161 : decode cX6_count 161 = .ok (.iconst 4, 1) := by decide +kernel
theorem dX6_count_162 : decode cX6_count 162 = .ok (.isub, 1) := by decide +kernel
theorem dX6_count_163 : decode cX6_count 163 = .ok (.iaload, 1) := by decide +kernel
theorem dX6_count_164 : decode cX6_count 164 = .ok (.ireturn, 1) := by decide +kernel
theorem dX6_count_165 : decode cX6_count 165 = .ok (.aload_n 0, 1) := by decide +kernel
theorem dX6_count_166 : decode cX6_count 166 = .ok (.invokevirtual 184, 3) := by decide +kernel
theorem dX6_count_169 : decode cX6_count 169 = .ok (.ireturn, 1) := by decide +kernel
theorem dX6_count_170 : decode cX6_count 170 = .ok (.aload_n 0, 1) := by decide +kernel
theorem dX6_count_171 : decode cX6_count 171 = .ok (.getfield 7, 3) := by decide +kernel
theorem dX6_count_174 : decode cX6_count 174 = .ok (.sipush 316, 3) := by decide +kernel
theorem dX6_count_177 : decode cX6_count 177 = .ok (.iaload, 1) := by decide +kernel
theorem dX6_count_178 : decode cX6_count 178 = .ok (.ireturn, 1) := by decide +kernel
theorem dX6_count_179 : decode cX6_count 179 = .ok (.aload_n 0, 1) := by decide +kernel
theorem dX6_count_180 : decode cX6_count 180 = .ok (.invokevirtual 187, 3) := by decide +kernel
theorem dX6_count_183 : decode cX6_count 183 = .ok (.ireturn, 1) := by decide +kernel
theorem dX6_count_184 : decode cX6_count 184 = .ok (.aload_n 0, 1) := by decide +kernel
theorem dX6_count_185 : decode cX6_count 185 = .ok (.invokevirtual 46, 3) := by decide +kernel
theorem dX6_count_188 : decode cX6_count 188 = .ok (.ifCond .eq 7, 3) := by decide +kernel
theorem dX6_count_191 : decode cX6_count 191 = .ok (.iconst 1, 1) := by decide +kernel
theorem dX6_count_192 : decode cX6_count 192 = .ok (.goto 4, 3) := by decide +kernel
theorem dX6_count_195 : decode cX6_count 195 = .ok (.iconst 0, 1) := by decide +kernel
theorem dX6_count_196 : decode cX6_count 196 = .ok (.ireturn, 1) := by decide +kernel
theorem dX6_count_197 : decode cX6_count 197 = .ok (.aload_n 0, 1) := by decide +kernel
theorem dX6_count_198 : decode cX6_count 198 = .ok (.invokevirtual 82, 3) := by decide +kernel
theorem dX6_count_201 : decode cX6_count 201 = .ok (.ireturn, 1) := by decide +kernel
theorem dX6_count_202 : decode cX6_count 202 = .ok (.aload_n 0, 1) := by decide +kernel
theorem dX6_count_203 : decode cX6_count 203 = .ok (.getfield 42, 3) := by decide +kernel
theorem dX6_count_206 : decode cX6_count 206 = .ok (.ireturn, 1) := by decide +kernel
theorem dX6_count_207 : decode cX6_count 207 = .ok (.aload_n 0, 1) := by decide +kernel
theorem dX6_count_208 : decode cX6_count 208 = .ok (.getfield 136, 3) := by decide +kernel
theorem dX6_count_211 : decode cX6_count 211 = .ok (.ireturn, 1) := by decide +kernel
theorem dX6_count_212 : decode cX6_count 212 = .ok (.bipush (-2), 2) := by decide +kernel
theorem dX6_count_214 : decode cX6_count 214 = .ok (.ireturn, 1) := by decide +kernel
theorem dL_law_0 : decode cL_law 0 = .ok (.new 7, 3) := by decide +kernel
theorem dL_law_3 : decode cL_law 3 = .ok (.dup, 1) := by decide +kernel
theorem dL_law_4 : decode cL_law 4 = .ok (.invokespecial 9, 3) := by decide +kernel
theorem dL_law_7 : decode cL_law 7 = .ok (.astore_n 1, 1) := by decide +kernel
theorem dL_law_8 : decode cL_law 8 = .ok (.new 10, 3) := by decide +kernel
theorem dL_law_11 : decode cL_law 11 = .ok (.dup, 1) := by decide +kernel
theorem dL_law_12 : decode cL_law 12 = .ok (.invokespecial 12, 3) := by decide +kernel
theorem dL_law_15 : decode cL_law 15 = .ok (.astore_n 2, 1) := by decide +kernel
theorem dL_law_16 : decode cL_law 16 = .ok (.iconst 0, 1) := by decide +kernel
theorem dL_law_17 : decode cL_law 17 = .ok (.istore_n 3, 1) := by decide +kernel
theorem dL_law_18 : decode cL_law 18 = .ok (.iload_n 3, 1) := by decide +kernel
theorem dL_law_19 : decode cL_law 19 = .ok (.aload_n 0, 1) := by decide +kernel
theorem dL_law_20 : decode cL_law 20 = .ok (.arraylength, 1) := by decide +kernel
theorem dL_law_21 : decode cL_law 21 = .ok (.iconst 4, 1) := by decide +kernel
theorem dL_law_22 : decode cL_law 22 = .ok (.isub, 1) := by decide +kernel
theorem dL_law_23 : decode cL_law 23 = .ok (.if_icmp .gt 727, 3) := by decide +kernel
theorem dL_law_26 : decode cL_law 26 = .ok (.aload_n 0, 1) := by decide +kernel
theorem dL_law_27 : decode cL_law 27 = .ok (.iload_n 3, 1) := by decide +kernel
theorem dL_law_28 : decode cL_law 28 = .ok (.iaload, 1) := by decide +kernel
theorem dL_law_29 : decode cL_law 29 = .ok (.bipush 31, 2) := by decide +kernel
theorem dL_law_31 : decode cL_law 31 = .ok (.iand, 1) := by decide +kernel
theorem dL_law_32 : decode cL_law 32 = .ok (.tableswitch 712 0 21 #[104, 147, 190, 223, 266, 299, 322, 347, 360, 373, 386, 399, 412, 445, 478, 521, 554, 587, 610, 643, 676, 689], 104) := by decide +kernel
theorem dL_law_136 : decode cL_law 136 = .ok (.aload_n 1, 1) := by decide +kernel
theorem dL_law_137 : decode cL_law 137 = .ok (.aload_n 0, 1) := by decide +kernel
theorem dL_law_138 : decode cL_law 138 = .ok (.iload_n 3, 1) := by decide +kernel
theorem dL_law_139 : decode cL_law 139 = .ok (.iconst 1, 1) := by decide +kernel
theorem dL_law_140 : decode cL_law 140 = .ok (.iadd, 1) := by decide +kernel
theorem dL_law_141 : decode cL_law 141 = .ok (.iaload, 1) := by decide +kernel
theorem dL_law_142 : decode cL_law 142 = .ok (.aload_n 0, 1) := by decide +kernel
theorem dL_law_143 : decode cL_law 143 = .ok (.iload_n 3, 1) := by decide +kernel
theorem dL_law_144 : decode cL_law 144 = .ok (.iconst 2, 1) := by decide +kernel
theorem dL_law_145 : decode cL_law 145 = .ok (.iadd, 1) := by decide +kernel
theorem dL_law_146 : decode cL_law 146 = .ok (.iaload, 1) := by decide +kernel
theorem dL_law_147 : decode cL_law 147 = .ok (.aload_n 0, 1) := by decide +kernel
theorem dL_law_148 : decode cL_law 148 = .ok (.iload_n 3, 1) := by decide +kernel
theorem dL_law_149 : decode cL_law 149 = .ok (.iconst 3, 1) := by decide +kernel
theorem dL_law_150 : decode cL_law 150 = .ok (.iadd, 1) := by decide +kernel
theorem dL_law_151 : decode cL_law 151 = .ok (.iaload, 1) := by decide +kernel
theorem dL_law_152 : decode cL_law 152 = .ok (.invokevirtual 13, 3) := by decide +kernel
theorem dL_law_155 : decode cL_law 155 = .ok (.aload_n 2, 1) := by decide +kernel
theorem dL_law_156 : decode cL_law 156 = .ok (.aload_n 0, 1) := by decide +kernel
theorem dL_law_157 : decode cL_law 157 = .ok (.iload_n 3, 1) := by decide +kernel
theorem dL_law_158 : decode cL_law 158 = .ok (.iconst 1, 1) := by decide +kernel
theorem dL_law_159 : decode cL_law 159 = .ok (.iadd, 1) := by decide +kernel
theorem dL_law_160 : decode cL_law 160 = .ok (.iaload, 1) := by decide +kernel
theorem dL_law_161 : decode cL_law 161 = .ok (.aload_n 0, 1) := by decide +kernel
theorem dL_law_162 : decode cL_law 162 = .ok (.iload_n 3, 1) := by decide +kernel
theorem dL_law_163 : decode cL_law 163 = .ok (.iconst 2, 1) := by decide +kernel
theorem dL_law_164 : decode cL_law 164 = .ok (.iadd, 1) := by decide +kernel
theorem dL_law_165 : decode cL_law 165 = .ok (.iaload, 1) := by decide +kernel
theorem dL_law_166 : decode cL_law 166 = .ok (.aload_n 0, 1) := by decide +kernel
theorem dL_law_167 : decode cL_law 167 = .ok (.iload_n 3, 1) := by decide +kernel
theorem dL_law_168 : decode cL_law 168 = .ok (.iconst 3, 1) := by decide +kernel
theorem dL_law_169 : decode cL_law 169 = .ok (.iadd, 1) := by decide +kernel
theorem dL_law_170 : decode cL_law 170 = .ok (.iaload, 1) := by decide +kernel
theorem dL_law_171 : decode cL_law 171 = .ok (.invokevirtual 17, 3) := by decide +kernel
theorem dL_law_174 : decode cL_law 174 = .ok (.if_icmp .eq 570, 3) := by decide +kernel
theorem dL_law_177 : decode cL_law 177 = .ok (.iconst 0, 1) := by decide +kernel
theorem dL_law_178 : decode cL_law 178 = .ok (.ireturn, 1) := by decide +kernel
theorem dL_law_179 : decode cL_law 179 = .ok (.aload_n 1, 1) := by decide +kernel
theorem dL_law_180 : decode cL_law 180 = .ok (.aload_n 0, 1) := by decide +kernel
theorem dL_law_181 : decode cL_law 181 = .ok (.iload_n 3, 1) := by decide +kernel
theorem dL_law_182 : decode cL_law 182 = .ok (.iconst 1, 1) := by decide +kernel
theorem dL_law_183 : decode cL_law 183 = .ok (.iadd, 1) := by decide +kernel
theorem dL_law_184 : decode cL_law 184 = .ok (.iaload, 1) := by decide +kernel
theorem dL_law_185 : decode cL_law 185 = .ok (.aload_n 0, 1) := by decide +kernel
theorem dL_law_186 : decode cL_law 186 = .ok (.iload_n 3, 1) := by decide +kernel
theorem dL_law_187 : decode cL_law 187 = .ok (.iconst 2, 1) := by decide +kernel
theorem dL_law_188 : decode cL_law 188 = .ok (.iadd, 1) := by decide +kernel
theorem dL_law_189 : decode cL_law 189 = .ok (.iaload, 1) := by decide +kernel
theorem dL_law_190 : decode cL_law 190 = .ok (.aload_n 0, 1) := by decide +kernel
theorem dL_law_191 : decode cL_law 191 = .ok (.iload_n 3, 1) := by decide +kernel
theorem dL_law_192 : decode cL_law 192 = .ok (.iconst 3, 1) := by decide +kernel
theorem dL_law_193 : decode cL_law 193 = .ok (.iadd, 1) := by decide +kernel
theorem dL_law_194 : decode cL_law 194 = .ok (.iaload, 1) := by decide +kernel
theorem dL_law_195 : decode cL_law 195 = .ok (.invokevirtual 18, 3) := by decide +kernel
theorem dL_law_198 : decode cL_law 198 = .ok (.aload_n 2, 1) := by decide +kernel
theorem dL_law_199 : decode cL_law 199 = .ok (.aload_n 0, 1) := by decide +kernel
theorem dL_law_200 : decode cL_law 200 = .ok (.iload_n 3, 1) := by decide +kernel
theorem dL_law_201 : decode cL_law 201 = .ok (.iconst 1, 1) := by decide +kernel
theorem dL_law_202 : decode cL_law 202 = .ok (.iadd, 1) := by decide +kernel
theorem dL_law_203 : decode cL_law 203 = .ok (.iaload, 1) := by decide +kernel
theorem dL_law_204 : decode cL_law 204 = .ok (.aload_n 0, 1) := by decide +kernel
theorem dL_law_205 : decode cL_law 205 = .ok (.iload_n 3, 1) := by decide +kernel
theorem dL_law_206 : decode cL_law 206 = .ok (.iconst 2, 1) := by decide +kernel
theorem dL_law_207 : decode cL_law 207 = .ok (.iadd, 1) := by decide +kernel
theorem dL_law_208 : decode cL_law 208 = .ok (.iaload, 1) := by decide +kernel
theorem dL_law_209 : decode cL_law 209 = .ok (.aload_n 0, 1) := by decide +kernel
theorem dL_law_210 : decode cL_law 210 = .ok (.iload_n 3, 1) := by decide +kernel
theorem dL_law_211 : decode cL_law 211 = .ok (.iconst 3, 1) := by decide +kernel
theorem dL_law_212 : decode cL_law 212 = .ok (.iadd, 1) := by decide +kernel
theorem dL_law_213 : decode cL_law 213 = .ok (.iaload, 1) := by decide +kernel
theorem dL_law_214 : decode cL_law 214 = .ok (.invokevirtual 21, 3) := by decide +kernel
theorem dL_law_217 : decode cL_law 217 = .ok (.if_icmp .eq 527, 3) := by decide +kernel
theorem dL_law_220 : decode cL_law 220 = .ok (.iconst 0, 1) := by decide +kernel
theorem dL_law_221 : decode cL_law 221 = .ok (.ireturn, 1) := by decide +kernel
theorem dL_law_222 : decode cL_law 222 = .ok (.aload_n 1, 1) := by decide +kernel
theorem dL_law_223 : decode cL_law 223 = .ok (.aload_n 0, 1) := by decide +kernel
theorem dL_law_224 : decode cL_law 224 = .ok (.iload_n 3, 1) := by decide +kernel
theorem dL_law_225 : decode cL_law 225 = .ok (.iconst 1, 1) := by decide +kernel
theorem dL_law_226 : decode cL_law 226 = .ok (.iadd, 1) := by decide +kernel
theorem dL_law_227 : decode cL_law 227 = .ok (.iaload, 1) := by decide +kernel
theorem dL_law_228 : decode cL_law 228 = .ok (.aload_n 0, 1) := by decide +kernel
theorem dL_law_229 : decode cL_law 229 = .ok (.iload_n 3, 1) := by decide +kernel
theorem dL_law_230 : decode cL_law 230 = .ok (.iconst 2, 1) := by decide +kernel
theorem dL_law_231 : decode cL_law 231 = .ok (.iadd, 1) := by decide +kernel
theorem dL_law_232 : decode cL_law 232 = .ok (.iaload, 1) := by decide +kernel
theorem dL_law_233 : decode cL_law 233 = .ok (.invokevirtual 22, 3) := by decide +kernel
theorem dL_law_236 : decode cL_law 236 = .ok (.aload_n 2, 1) := by decide +kernel
theorem dL_law_237 : decode cL_law 237 = .ok (.aload_n 0, 1) := by decide +kernel
theorem dL_law_238 : decode cL_law 238 = .ok (.iload_n 3, 1) := by decide +kernel
theorem dL_law_239 : decode cL_law 239 = .ok (.iconst 1, 1) := by decide +kernel
theorem dL_law_240 : decode cL_law 240 = .ok (.iadd, 1) := by decide +kernel
theorem dL_law_241 : decode cL_law 241 = .ok (.iaload, 1) := by decide +kernel
theorem dL_law_242 : decode cL_law 242 = .ok (.aload_n 0, 1) := by decide +kernel
theorem dL_law_243 : decode cL_law 243 = .ok (.iload_n 3, 1) := by decide +kernel
theorem dL_law_244 : decode cL_law 244 = .ok (.iconst 2, 1) := by decide +kernel
theorem dL_law_245 : decode cL_law 245 = .ok (.iadd, 1) := by decide +kernel
theorem dL_law_246 : decode cL_law 246 = .ok (.iaload, 1) := by decide +kernel
theorem dL_law_247 : decode cL_law 247 = .ok (.invokevirtual 26, 3) := by decide +kernel
theorem dL_law_250 : decode cL_law 250 = .ok (.if_icmp .eq 494, 3) := by decide +kernel
theorem dL_law_253 : decode cL_law 253 = .ok (.iconst 0, 1) := by decide +kernel
theorem dL_law_254 : decode cL_law 254 = .ok (.ireturn, 1) := by decide +kernel
theorem dL_law_255 : decode cL_law 255 = .ok (.aload_n 1, 1) := by decide +kernel
theorem dL_law_256 : decode cL_law 256 = .ok (.aload_n 0, 1) := by decide +kernel
theorem dL_law_257 : decode cL_law 257 = .ok (.iload_n 3, 1) := by decide +kernel
theorem dL_law_258 : decode cL_law 258 = .ok (.iconst 1, 1) := by decide +kernel
theorem dL_law_259 : decode cL_law 259 = .ok (.iadd, 1) := by decide +kernel
theorem dL_law_260 : decode cL_law 260 = .ok (.iaload, 1) := by decide +kernel
theorem dL_law_261 : decode cL_law 261 = .ok (.aload_n 0, 1) := by decide +kernel
theorem dL_law_262 : decode cL_law 262 = .ok (.iload_n 3, 1) := by decide +kernel
theorem dL_law_263 : decode cL_law 263 = .ok (.iconst 2, 1) := by decide +kernel
theorem dL_law_264 : decode cL_law 264 = .ok (.iadd, 1) := by decide +kernel
theorem dL_law_265 : decode cL_law 265 = .ok (.iaload, 1) := by decide +kernel
theorem dL_law_266 : decode cL_law 266 = .ok (.aload_n 0, 1) := by decide +kernel
theorem dL_law_267 : decode cL_law 267 = .ok (.iload_n 3, 1) := by decide +kernel
theorem dL_law_268 : decode cL_law 268 = .ok (.iconst 3, 1) := by decide +kernel
theorem dL_law_269 : decode cL_law 269 = .ok (.iadd, 1) := by decide +kernel
theorem dL_law_270 : decode cL_law 270 = .ok (.iaload, 1) := by decide +kernel
theorem dL_law_271 : decode cL_law 271 = .ok (.invokevirtual 27, 3) := by decide +kernel
theorem dL_law_274 : decode cL_law 274 = .ok (.aload_n 2, 1) := by decide +kernel
theorem dL_law_275 : decode cL_law 275 = .ok (.aload_n 0, 1) := by decide +kernel
theorem dL_law_276 : decode cL_law 276 = .ok (.iload_n 3, 1) := by decide +kernel
theorem dL_law_277 : decode cL_law 277 = .ok (.iconst 1, 1) := by decide +kernel
theorem dL_law_278 : decode cL_law 278 = .ok (.iadd, 1) := by decide +kernel
theorem dL_law_279 : decode cL_law 279 = .ok (.iaload, 1) := by decide +kernel
theorem dL_law_280 : decode cL_law 280 = .ok (.aload_n 0, 1) := by decide +kernel
theorem dL_law_281 : decode cL_law 281 = .ok (.iload_n 3, 1) := by decide +kernel
theorem dL_law_282 : decode cL_law 282 = .ok (.iconst 2, 1) := by decide +kernel
theorem dL_law_283 : decode cL_law 283 = .ok (.iadd, 1) := by decide +kernel
theorem dL_law_284 : decode cL_law 284 = .ok (.iaload, 1) := by decide +kernel
theorem dL_law_285 : decode cL_law 285 = .ok (.aload_n 0, 1) := by decide +kernel
theorem dL_law_286 : decode cL_law 286 = .ok (.iload_n 3, 1) := by decide +kernel
theorem dL_law_287 : decode cL_law 287 = .ok (.iconst 3, 1) := by decide +kernel
theorem dL_law_288 : decode cL_law 288 = .ok (.iadd, 1) := by decide +kernel
theorem dL_law_289 : decode cL_law 289 = .ok (.iaload, 1) := by decide +kernel
theorem dL_law_290 : decode cL_law 290 = .ok (.invokevirtual 30, 3) := by decide +kernel
theorem dL_law_293 : decode cL_law 293 = .ok (.if_icmp .eq 451, 3) := by decide +kernel
theorem dL_law_296 : decode cL_law 296 = .ok (.iconst 0, 1) := by decide +kernel
theorem dL_law_297 : decode cL_law 297 = .ok (.ireturn, 1) := by decide +kernel
theorem dL_law_298 : decode cL_law 298 = .ok (.aload_n 1, 1) := by decide +kernel
theorem dL_law_299 : decode cL_law 299 = .ok (.aload_n 0, 1) := by decide +kernel
theorem dL_law_300 : decode cL_law 300 = .ok (.iload_n 3, 1) := by decide +kernel
theorem dL_law_301 : decode cL_law 301 = .ok (.iconst 1, 1) := by decide +kernel
theorem dL_law_302 : decode cL_law 302 = .ok (.iadd, 1) := by decide +kernel
theorem dL_law_303 : decode cL_law 303 = .ok (.iaload, 1) := by decide +kernel
theorem dL_law_304 : decode cL_law 304 = .ok (.aload_n 0, 1) := by decide +kernel
theorem dL_law_305 : decode cL_law 305 = .ok (.iload_n 3, 1) := by decide +kernel
theorem dL_law_306 : decode cL_law 306 = .ok (.iconst 2, 1) := by decide +kernel
theorem dL_law_307 : decode cL_law 307 = .ok (.iadd, 1) := by decide +kernel
theorem dL_law_308 : decode cL_law 308 = .ok (.iaload, 1) := by decide +kernel
theorem dL_law_309 : decode cL_law 309 = .ok (.invokevirtual 31, 3) := by decide +kernel
theorem dL_law_312 : decode cL_law 312 = .ok (.aload_n 2, 1) := by decide +kernel
theorem dL_law_313 : decode cL_law 313 = .ok (.aload_n 0, 1) := by decide +kernel
theorem dL_law_314 : decode cL_law 314 = .ok (.iload_n 3, 1) := by decide +kernel
theorem dL_law_315 : decode cL_law 315 = .ok (.iconst 1, 1) := by decide +kernel
theorem dL_law_316 : decode cL_law 316 = .ok (.iadd, 1) := by decide +kernel
theorem dL_law_317 : decode cL_law 317 = .ok (.iaload, 1) := by decide +kernel
theorem dL_law_318 : decode cL_law 318 = .ok (.aload_n 0, 1) := by decide +kernel
theorem dL_law_319 : decode cL_law 319 = .ok (.iload_n 3, 1) := by decide +kernel
theorem dL_law_320 : decode cL_law 320 = .ok (.iconst 2, 1) := by decide +kernel
theorem dL_law_321 : decode cL_law 321 = .ok (.iadd, 1) := by decide +kernel
theorem dL_law_322 : decode cL_law 322 = .ok (.iaload, 1) := by decide +kernel
theorem dL_law_323 : decode cL_law 323 = .ok (.invokevirtual 34, 3) := by decide +kernel
theorem dL_law_326 : decode cL_law 326 = .ok (.if_icmp .eq 418, 3) := by decide +kernel
theorem dL_law_329 : decode cL_law 329 = .ok (.iconst 0, 1) := by decide +kernel
theorem dL_law_330 : decode cL_law 330 = .ok (.ireturn, 1) := by decide +kernel
theorem dL_law_331 : decode cL_law 331 = .ok (.aload_n 1, 1) := by decide +kernel
theorem dL_law_332 : decode cL_law 332 = .ok (.aload_n 0, 1) := by decide +kernel
theorem dL_law_333 : decode cL_law 333 = .ok (.iload_n 3, 1) := by decide +kernel
theorem dL_law_334 : decode cL_law 334 = .ok (.iconst 1, 1) := by decide +kernel
theorem dL_law_335 : decode cL_law 335 = .ok (.iadd, 1) := by decide +kernel
theorem dL_law_336 : decode cL_law 336 = .ok (.iaload, 1) := by decide +kernel
theorem dL_law_337 : decode cL_law 337 = .ok (.invokevirtual 35, 3) := by decide +kernel
theorem dL_law_340 : decode cL_law 340 = .ok (.aload_n 2, 1) := by decide +kernel
theorem dL_law_341 : decode cL_law 341 = .ok (.aload_n 0, 1) := by decide +kernel
theorem dL_law_342 : decode cL_law 342 = .ok (.iload_n 3, 1) := by decide +kernel
theorem dL_law_343 : decode cL_law 343 = .ok (.iconst 1, 1) := by decide +kernel
theorem dL_law_344 : decode cL_law 344 = .ok (.iadd, 1) := by decide +kernel
theorem dL_law_345 : decode cL_law 345 = .ok (.iaload, 1) := by decide +kernel
theorem dL_law_346 : decode cL_law 346 = .ok (.invokevirtual 39, 3) := by decide +kernel
theorem dL_law_349 : decode cL_law 349 = .ok (.if_icmp .eq 395, 3) := by decide +kernel
theorem dL_law_352 : decode cL_law 352 = .ok (.iconst 0, 1) := by decide +kernel
theorem dL_law_353 : decode cL_law 353 = .ok (.ireturn, 1) := by decide +kernel
theorem dL_law_354 : decode cL_law 354 = .ok (.aload_n 1, 1) := by decide +kernel
theorem dL_law_355 : decode cL_law 355 = .ok (.aload_n 0, 1) := by decide +kernel
theorem dL_law_356 : decode cL_law 356 = .ok (.iload_n 3, 1) := by decide +kernel
theorem dL_law_357 : decode cL_law 357 = .ok (.iconst 1, 1) := by decide +kernel
theorem dL_law_358 : decode cL_law 358 = .ok (.iadd, 1) := by decide +kernel
theorem dL_law_359 : decode cL_law 359 = .ok (.iaload, 1) := by decide +kernel
theorem dL_law_360 : decode cL_law 360 = .ok (.i2c, 1) := by decide +kernel
theorem dL_law_361 : decode cL_law 361 = .ok (.invokevirtual 40, 3) := by decide +kernel
theorem dL_law_364 : decode cL_law 364 = .ok (.aload_n 2, 1) := by decide +kernel
theorem dL_law_365 : decode cL_law 365 = .ok (.aload_n 0, 1) := by decide +kernel
theorem dL_law_366 : decode cL_law 366 = .ok (.iload_n 3, 1) := by decide +kernel
theorem dL_law_367 : decode cL_law 367 = .ok (.iconst 1, 1) := by decide +kernel
theorem dL_law_368 : decode cL_law 368 = .ok (.iadd, 1) := by decide +kernel
theorem dL_law_369 : decode cL_law 369 = .ok (.iaload, 1) := by decide +kernel
theorem dL_law_370 : decode cL_law 370 = .ok (.i2c, 1) := by decide +kernel
theorem dL_law_371 : decode cL_law 371 = .ok (.invokevirtual 44, 3) := by decide +kernel
theorem dL_law_374 : decode cL_law 374 = .ok (.if_icmp .eq 370, 3) := by decide +kernel
theorem dL_law_377 : decode cL_law 377 = .ok (.iconst 0, 1) := by decide +kernel
theorem dL_law_378 : decode cL_law 378 = .ok (.ireturn, 1) := by decide +kernel
theorem dL_law_379 : decode cL_law 379 = .ok (.aload_n 1, 1) := by decide +kernel
theorem dL_law_380 : decode cL_law 380 = .ok (.invokevirtual 45, 3) := by decide +kernel
theorem dL_law_383 : decode cL_law 383 = .ok (.aload_n 2, 1) := by decide +kernel
theorem dL_law_384 : decode cL_law 384 = .ok (.invokevirtual 49, 3) := by decide +kernel
theorem dL_law_387 : decode cL_law 387 = .ok (.if_icmp .eq 357, 3) := by decide +kernel
theorem dL_law_390 : decode cL_law 390 = .ok (.iconst 0, 1) := by decide +kernel
theorem dL_law_391 : decode cL_law 391 = .ok (.ireturn, 1) := by decide +kernel
theorem dL_law_392 : decode cL_law 392 = .ok (.aload_n 1, 1) := by decide +kernel
theorem dL_law_393 : decode cL_law 393 = .ok (.invokevirtual 50, 3) := by decide +kernel
theorem dL_law_396 : decode cL_law 396 = .ok (.aload_n 2, 1) := by decide +kernel
theorem dL_law_397 : decode cL_law 397 = .ok (.invokevirtual 53, 3) := by decide +kernel
theorem dL_law_400 : decode cL_law 400 = .ok (.if_icmp .eq 344, 3) := by decide +kernel
theorem dL_law_403 : decode cL_law 403 = .ok (.iconst 0, 1) := by decide +kernel
theorem dL_law_404 : decode cL_law 404 = .ok (.ireturn, 1) := by decide +kernel
theorem dL_law_405 : decode cL_law 405 = .ok (.aload_n 1, 1) := by decide +kernel
theorem dL_law_406 : decode cL_law 406 = .ok (.invokevirtual 54, 3) := by decide +kernel
theorem dL_law_409 : decode cL_law 409 = .ok (.aload_n 2, 1) := by decide +kernel
theorem dL_law_410 : decode cL_law 410 = .ok (.invokevirtual 57, 3) := by decide +kernel
theorem dL_law_413 : decode cL_law 413 = .ok (.if_icmp .eq 331, 3) := by decide +kernel
theorem dL_law_416 : decode cL_law 416 = .ok (.iconst 0, 1) := by decide +kernel
theorem dL_law_417 : decode cL_law 417 = .ok (.ireturn, 1) := by decide +kernel
theorem dL_law_418 : decode cL_law 418 = .ok (.aload_n 1, 1) := by decide +kernel
theorem dL_law_419 : decode cL_law 419 = .ok (.invokevirtual 58, 3) := by decide +kernel
theorem dL_law_422 : decode cL_law 422 = .ok (.aload_n 2, 1) := by decide +kernel
theorem dL_law_423 : decode cL_law 423 = .ok (.invokevirtual 61, 3) := by decide +kernel
theorem dL_law_426 : decode cL_law 426 = .ok (.if_icmp .eq 318, 3) := by decide +kernel
theorem dL_law_429 : decode cL_law 429 = .ok (.iconst 0, 1) := by decide +kernel
theorem dL_law_430 : decode cL_law 430 = .ok (.ireturn, 1) := by decide +kernel
theorem dL_law_431 : decode cL_law 431 = .ok (.aload_n 1, 1) := by decide +kernel
theorem dL_law_432 : decode cL_law 432 = .ok (.invokevirtual 62, 3) := by decide +kernel
theorem dL_law_435 : decode cL_law 435 = .ok (.aload_n 2, 1) := by decide +kernel
theorem dL_law_436 : decode cL_law 436 = .ok (.invokevirtual 65, 3) := by decide +kernel
theorem dL_law_439 : decode cL_law 439 = .ok (.if_icmp .eq 305, 3) := by decide +kernel
theorem dL_law_442 : decode cL_law 442 = .ok (.iconst 0, 1) := by decide +kernel
theorem dL_law_443 : decode cL_law 443 = .ok (.ireturn, 1) := by decide +kernel
theorem dL_law_444 : decode cL_law 444 = .ok (.aload_n 1, 1) := by decide +kernel
theorem dL_law_445 : decode cL_law 445 = .ok (.aload_n 0, 1) := by decide +kernel
theorem dL_law_446 : decode cL_law 446 = .ok (.iload_n 3, 1) := by decide +kernel
theorem dL_law_447 : decode cL_law 447 = .ok (.iconst 1, 1) := by decide +kernel
theorem dL_law_448 : decode cL_law 448 = .ok (.iadd, 1) := by decide +kernel
theorem dL_law_449 : decode cL_law 449 = .ok (.iaload, 1) := by decide +kernel
theorem dL_law_450 : decode cL_law 450 = .ok (.aload_n 0, 1) := by decide +kernel
theorem dL_law_451 : decode cL_law 451 = .ok (.iload_n 3, 1) := by decide +kernel
theorem dL_law_452 : decode cL_law 452 = .ok (.iconst 2, 1) := by decide +kernel
theorem dL_law_453 : decode cL_law 453 = .ok (.iadd, 1) := by decide +kernel
theorem dL_law_454 : decode cL_law 454 = .ok (.iaload, 1) := by decide +kernel
theorem dL_law_455 : decode cL_law 455 = .ok (.invokevirtual 66, 3) := by decide +kernel
theorem dL_law_458 : decode cL_law 458 = .ok (.aload_n 2, 1) := by decide +kernel
theorem dL_law_459 : decode cL_law 459 = .ok (.aload_n 0, 1) := by decide +kernel
theorem dL_law_460 : decode cL_law 460 = .ok (.iload_n 3, 1) := by decide +kernel
theorem dL_law_461 : decode cL_law 461 = .ok (.iconst 1, 1) := by decide +kernel
theorem dL_law_462 : decode cL_law 462 = .ok (.iadd, 1) := by decide +kernel
theorem dL_law_463 : decode cL_law 463 = .ok (.iaload, 1) := by decide +kernel
theorem dL_law_464 : decode cL_law 464 = .ok (.aload_n 0, 1) := by decide +kernel
theorem dL_law_465 : decode cL_law 465 = .ok (.iload_n 3, 1) := by decide +kernel
theorem dL_law_466 : decode cL_law 466 = .ok (.iconst 2, 1) := by decide +kernel
theorem dL_law_467 : decode cL_law 467 = .ok (.iadd, 1) := by decide +kernel
theorem dL_law_468 : decode cL_law 468 = .ok (.iaload, 1) := by decide +kernel
theorem dL_law_469 : decode cL_law 469 = .ok (.invokevirtual 69, 3) := by decide +kernel
theorem dL_law_472 : decode cL_law 472 = .ok (.if_icmp .eq 272, 3) := by decide +kernel
theorem dL_law_475 : decode cL_law 475 = .ok (.iconst 0, 1) := by decide +kernel
theorem dL_law_476 : decode cL_law 476 = .ok (.ireturn, 1) := by decide +kernel
theorem dL_law_477 : decode cL_law 477 = .ok (.aload_n 1, 1) := by decide +kernel
theorem dL_law_478 : decode cL_law 478 = .ok (.aload_n 0, 1) := by decide +kernel
theorem dL_law_479 : decode cL_law 479 = .ok (.iload_n 3, 1) := by decide +kernel
theorem dL_law_480 : decode cL_law 480 = .ok (.iconst 1, 1) := by decide +kernel
theorem dL_law_481 : decode cL_law 481 = .ok (.iadd, 1) := by decide +kernel
theorem dL_law_482 : decode cL_law 482 = .ok (.iaload, 1) := by decide +kernel
theorem dL_law_483 : decode cL_law 483 = .ok (.aload_n 0, 1) := by decide +kernel
theorem dL_law_484 : decode cL_law 484 = .ok (.iload_n 3, 1) := by decide +kernel
theorem dL_law_485 : decode cL_law 485 = .ok (.iconst 2, 1) := by decide +kernel
theorem dL_law_486 : decode cL_law 486 = .ok (.iadd, 1) := by decide +kernel
theorem dL_law_487 : decode cL_law 487 = .ok (.iaload, 1) := by decide +kernel
theorem dL_law_488 : decode cL_law 488 = .ok (.invokevirtual 70, 3) := by decide +kernel
theorem dL_law_491 : decode cL_law 491 = .ok (.aload_n 2, 1) := by decide +kernel
theorem dL_law_492 : decode cL_law 492 = .ok (.aload_n 0, 1) := by decide +kernel
theorem dL_law_493 : decode cL_law 493 = .ok (.iload_n 3, 1) := by decide +kernel
theorem dL_law_494 : decode cL_law 494 = .ok (.iconst 1, 1) := by decide +kernel
theorem dL_law_495 : decode cL_law 495 = .ok (.iadd, 1) := by decide +kernel
theorem dL_law_496 : decode cL_law 496 = .ok (.iaload, 1) := by decide +kernel
theorem dL_law_497 : decode cL_law 497 = .ok (.aload_n 0, 1) := by decide +kernel
theorem dL_law_498 : decode cL_law 498 = .ok (.iload_n 3, 1) := by decide +kernel
theorem dL_law_499 : decode cL_law 499 = .ok (.iconst 2, 1) := by decide +kernel
theorem dL_law_500 : decode cL_law 500 = .ok (.iadd, 1) := by decide +kernel
theorem dL_law_501 : decode cL_law 501 = .ok (.iaload, 1) := by decide +kernel
theorem dL_law_502 : decode cL_law 502 = .ok (.invokevirtual 73, 3) := by decide +kernel
theorem dL_law_505 : decode cL_law 505 = .ok (.if_icmp .eq 239, 3) := by decide +kernel
theorem dL_law_508 : decode cL_law 508 = .ok (.iconst 0, 1) := by decide +kernel
theorem dL_law_509 : decode cL_law 509 = .ok (.ireturn, 1) := by decide +kernel
theorem dL_law_510 : decode cL_law 510 = .ok (.aload_n 1, 1) := by decide +kernel
theorem dL_law_511 : decode cL_law 511 = .ok (.aload_n 0, 1) := by decide +kernel
theorem dL_law_512 : decode cL_law 512 = .ok (.iload_n 3, 1) := by decide +kernel
theorem dL_law_513 : decode cL_law 513 = .ok (.iconst 1, 1) := by decide +kernel
theorem dL_law_514 : decode cL_law 514 = .ok (.iadd, 1) := by decide +kernel
theorem dL_law_515 : decode cL_law 515 = .ok (.iaload, 1) := by decide +kernel
theorem dL_law_516 : decode cL_law 516 = .ok (.aload_n 0, 1) := by decide +kernel
theorem dL_law_517 : decode cL_law 517 = .ok (.iload_n 3, 1) := by decide +kernel
theorem dL_law_518 : decode cL_law 518 = .ok (.iconst 2, 1) := by decide +kernel
theorem dL_law_519 : decode cL_law 519 = .ok (.iadd, 1) := by decide +kernel
theorem dL_law_520 : decode cL_law 520 = .ok (.iaload, 1) := by decide +kernel
theorem dL_law_521 : decode cL_law 521 = .ok (.aload_n 0, 1) := by decide +kernel
theorem dL_law_522 : decode cL_law 522 = .ok (.iload_n 3, 1) := by decide +kernel
theorem dL_law_523 : decode cL_law 523 = .ok (.iconst 3, 1) := by decide +kernel
theorem dL_law_524 : decode cL_law 524 = .ok (.iadd, 1) := by decide +kernel
theorem dL_law_525 : decode cL_law 525 = .ok (.iaload, 1) := by decide +kernel
theorem dL_law_526 : decode cL_law 526 = .ok (.invokevirtual 74, 3) := by decide +kernel
theorem dL_law_529 : decode cL_law 529 = .ok (.aload_n 2, 1) := by decide +kernel
theorem dL_law_530 : decode cL_law 530 = .ok (.aload_n 0, 1) := by decide +kernel
theorem dL_law_531 : decode cL_law 531 = .ok (.iload_n 3, 1) := by decide +kernel
theorem dL_law_532 : decode cL_law 532 = .ok (.iconst 1, 1) := by decide +kernel
theorem dL_law_533 : decode cL_law 533 = .ok (.iadd, 1) := by decide +kernel
theorem dL_law_534 : decode cL_law 534 = .ok (.iaload, 1) := by decide +kernel
theorem dL_law_535 : decode cL_law 535 = .ok (.aload_n 0, 1) := by decide +kernel
theorem dL_law_536 : decode cL_law 536 = .ok (.iload_n 3, 1) := by decide +kernel
theorem dL_law_537 : decode cL_law 537 = .ok (.iconst 2, 1) := by decide +kernel
theorem dL_law_538 : decode cL_law 538 = .ok (.iadd, 1) := by decide +kernel
theorem dL_law_539 : decode cL_law 539 = .ok (.iaload, 1) := by decide +kernel
theorem dL_law_540 : decode cL_law 540 = .ok (.aload_n 0, 1) := by decide +kernel
theorem dL_law_541 : decode cL_law 541 = .ok (.iload_n 3, 1) := by decide +kernel
theorem dL_law_542 : decode cL_law 542 = .ok (.iconst 3, 1) := by decide +kernel
theorem dL_law_543 : decode cL_law 543 = .ok (.iadd, 1) := by decide +kernel
theorem dL_law_544 : decode cL_law 544 = .ok (.iaload, 1) := by decide +kernel
theorem dL_law_545 : decode cL_law 545 = .ok (.invokevirtual 77, 3) := by decide +kernel
theorem dL_law_548 : decode cL_law 548 = .ok (.if_icmp .eq 196, 3) := by decide +kernel
theorem dL_law_551 : decode cL_law 551 = .ok (.iconst 0, 1) := by decide +kernel
theorem dL_law_552 : decode cL_law 552 = .ok (.ireturn, 1) := by decide +kernel
theorem dL_law_553 : decode cL_law 553 = .ok (.aload_n 1, 1) := by decide +kernel
theorem dL_law_554 : decode cL_law 554 = .ok (.aload_n 0, 1) := by decide +kernel
theorem dL_law_555 : decode cL_law 555 = .ok (.iload_n 3, 1) := by decide +kernel
theorem dL_law_556 : decode cL_law 556 = .ok (.iconst 1, 1) := by decide +kernel
theorem dL_law_557 : decode cL_law 557 = .ok (.iadd, 1) := by decide +kernel
theorem dL_law_558 : decode cL_law 558 = .ok (.iaload, 1) := by decide +kernel
theorem dL_law_559 : decode cL_law 559 = .ok (.aload_n 0, 1) := by decide +kernel
theorem dL_law_560 : decode cL_law 560 = .ok (.iload_n 3, 1) := by decide +kernel
theorem dL_law_561 : decode cL_law 561 = .ok (.iconst 2, 1) := by decide +kernel
theorem dL_law_562 : decode cL_law 562 = .ok (.iadd, 1) := by decide +kernel
theorem dL_law_563 : decode cL_law 563 = .ok (.iaload, 1) := by decide +kernel
theorem dL_law_564 : decode cL_law 564 = .ok (.invokevirtual 78, 3) := by decide +kernel
theorem dL_law_567 : decode cL_law 567 = .ok (.aload_n 2, 1) := by decide +kernel
theorem dL_law_568 : decode cL_law 568 = .ok (.aload_n 0, 1) := by decide +kernel
theorem dL_law_569 : decode cL_law 569 = .ok (.iload_n 3, 1) := by decide +kernel
theorem dL_law_570 : decode cL_law 570 = .ok (.iconst 1, 1) := by decide +kernel
theorem dL_law_571 : decode cL_law 571 = .ok (.iadd, 1) := by decide +kernel
theorem dL_law_572 : decode cL_law 572 = .ok (.iaload, 1) := by decide +kernel
theorem dL_law_573 : decode cL_law 573 = .ok (.aload_n 0, 1) := by decide +kernel
theorem dL_law_574 : decode cL_law 574 = .ok (.iload_n 3, 1) := by decide +kernel
theorem dL_law_575 : decode cL_law 575 = .ok (.iconst 2, 1) := by decide +kernel
theorem dL_law_576 : decode cL_law 576 = .ok (.iadd, 1) := by decide +kernel
theorem dL_law_577 : decode cL_law 577 = .ok (.iaload, 1) := by decide +kernel
theorem dL_law_578 : decode cL_law 578 = .ok (.invokevirtual 81, 3) := by decide +kernel
theorem dL_law_581 : decode cL_law 581 = .ok (.if_icmp .eq 163, 3) := by decide +kernel
theorem dL_law_584 : decode cL_law 584 = .ok (.iconst 0, 1) := by decide +kernel
theorem dL_law_585 : decode cL_law 585 = .ok (.ireturn, 1) := by decide +kernel
theorem dL_law_586 : decode cL_law 586 = .ok (.aload_n 1, 1) := by decide +kernel
theorem dL_law_587 : decode cL_law 587 = .ok (.aload_n 0, 1) := by decide +kernel
theorem dL_law_588 : decode cL_law 588 = .ok (.iload_n 3, 1) := by decide +kernel
theorem dL_law_589 : decode cL_law 589 = .ok (.iconst 1, 1) := by decide +kernel
theorem dL_law_590 : decode cL_law 590 = .ok (.iadd, 1) := by decide +kernel
theorem dL_law_591 : decode cL_law 591 = .ok (.iaload, 1) := by decide +kernel
theorem dL_law_592 : decode cL_law 592 = .ok (.aload_n 0, 1) := by decide +kernel
theorem dL_law_593 : decode cL_law 593 = .ok (.iload_n 3, 1) := by decide +kernel
theorem dL_law_594 : decode cL_law 594 = .ok (.iconst 2, 1) := by decide +kernel
theorem dL_law_595 : decode cL_law 595 = .ok (.iadd, 1) := by decide +kernel
theorem dL_law_596 : decode cL_law 596 = .ok (.iaload, 1) := by decide +kernel
theorem dL_law_597 : decode cL_law 597 = .ok (.invokevirtual 82, 3) := by decide +kernel
theorem dL_law_600 : decode cL_law 600 = .ok (.aload_n 2, 1) := by decide +kernel
theorem dL_law_601 : decode cL_law 601 = .ok (.aload_n 0, 1) := by decide +kernel
theorem dL_law_602 : decode cL_law 602 = .ok (.iload_n 3, 1) := by decide +kernel
theorem dL_law_603 : decode cL_law 603 = .ok (.iconst 1, 1) := by decide +kernel
theorem dL_law_604 : decode cL_law 604 = .ok (.iadd, 1) := by decide +kernel
theorem dL_law_605 : decode cL_law 605 = .ok (.iaload, 1) := by decide +kernel
theorem dL_law_606 : decode cL_law 606 = .ok (.aload_n 0, 1) := by decide +kernel
theorem dL_law_607 : decode cL_law 607 = .ok (.iload_n 3, 1) := by decide +kernel
theorem dL_law_608 : decode cL_law 608 = .ok (.iconst 2, 1) := by decide +kernel
theorem dL_law_609 : decode cL_law 609 = .ok (.iadd, 1) := by decide +kernel
theorem dL_law_610 : decode cL_law 610 = .ok (.iaload, 1) := by decide +kernel
theorem dL_law_611 : decode cL_law 611 = .ok (.invokevirtual 85, 3) := by decide +kernel
theorem dL_law_614 : decode cL_law 614 = .ok (.if_icmp .eq 130, 3) := by decide +kernel
theorem dL_law_617 : decode cL_law 617 = .ok (.iconst 0, 1) := by decide +kernel
theorem dL_law_618 : decode cL_law 618 = .ok (.ireturn, 1) := by decide +kernel
theorem dL_law_619 : decode cL_law 619 = .ok (.aload_n 1, 1) := by decide +kernel
theorem dL_law_620 : decode cL_law 620 = .ok (.aload_n 0, 1) := by decide +kernel
theorem dL_law_621 : decode cL_law 621 = .ok (.iload_n 3, 1) := by decide +kernel
theorem dL_law_622 : decode cL_law 622 = .ok (.iconst 1, 1) := by decide +kernel
theorem dL_law_623 : decode cL_law 623 = .ok (.iadd, 1) := by decide +kernel
theorem dL_law_624 : decode cL_law 624 = .ok (.iaload, 1) := by decide +kernel
theorem dL_law_625 : decode cL_law 625 = .ok (.invokevirtual 86, 3) := by decide +kernel
theorem dL_law_628 : decode cL_law 628 = .ok (.aload_n 2, 1) := by decide +kernel
theorem dL_law_629 : decode cL_law 629 = .ok (.aload_n 0, 1) := by decide +kernel
theorem dL_law_630 : decode cL_law 630 = .ok (.iload_n 3, 1) := by decide +kernel
theorem dL_law_631 : decode cL_law 631 = .ok (.iconst 1, 1) := by decide +kernel
theorem dL_law_632 : decode cL_law 632 = .ok (.iadd, 1) := by decide +kernel
theorem dL_law_633 : decode cL_law 633 = .ok (.iaload, 1) := by decide +kernel
theorem dL_law_634 : decode cL_law 634 = .ok (.invokevirtual 89, 3) := by decide +kernel
theorem dL_law_637 : decode cL_law 637 = .ok (.if_icmp .eq 107, 3) := by decide +kernel
theorem dL_law_640 : decode cL_law 640 = .ok (.iconst 0, 1) := by decide +kernel
theorem dL_law_641 : decode cL_law 641 = .ok (.ireturn, 1) := by decide +kernel
theorem dL_law_642 : decode cL_law 642 = .ok (.aload_n 1, 1) := by decide +kernel
theorem dL_law_643 : decode cL_law 643 = .ok (.aload_n 0, 1) := by decide +kernel
theorem dL_law_644 : decode cL_law 644 = .ok (.iload_n 3, 1) := by decide +kernel
theorem dL_law_645 : decode cL_law 645 = .ok (.iconst 1, 1) := by decide +kernel
theorem dL_law_646 : decode cL_law 646 = .ok (.iadd, 1) := by decide +kernel
theorem dL_law_647 : decode cL_law 647 = .ok (.iaload, 1) := by decide +kernel
theorem dL_law_648 : decode cL_law 648 = .ok (.aload_n 0, 1) := by decide +kernel
theorem dL_law_649 : decode cL_law 649 = .ok (.iload_n 3, 1) := by decide +kernel
theorem dL_law_650 : decode cL_law 650 = .ok (.iconst 2, 1) := by decide +kernel
theorem dL_law_651 : decode cL_law 651 = .ok (.iadd, 1) := by decide +kernel
theorem dL_law_652 : decode cL_law 652 = .ok (.iaload, 1) := by decide +kernel
theorem dL_law_653 : decode cL_law 653 = .ok (.invokevirtual 90, 3) := by decide +kernel
theorem dL_law_656 : decode cL_law 656 = .ok (.aload_n 2, 1) := by decide +kernel
theorem dL_law_657 : decode cL_law 657 = .ok (.aload_n 0, 1) := by decide +kernel
theorem dL_law_658 : decode cL_law 658 = .ok (.iload_n 3, 1) := by decide +kernel
theorem dL_law_659 : decode cL_law 659 = .ok (.iconst 1, 1) := by decide +kernel
theorem dL_law_660 : decode cL_law 660 = .ok (.iadd, 1) := by decide +kernel
theorem dL_law_661 : decode cL_law 661 = .ok (.iaload, 1) := by decide +kernel
theorem dL_law_662 : decode cL_law 662 = .ok (.aload_n 0, 1) := by decide +kernel
theorem dL_law_663 : decode cL_law 663 = .ok (.iload_n 3, 1) := by decide +kernel
theorem dL_law_664 : decode cL_law 664 = .ok (.iconst 2, 1) := by decide +kernel
theorem dL_law_665 : decode cL_law 665 = .ok (.iadd, 1) := by decide +kernel
theorem dL_law_666 : decode cL_law 666 = .ok (.iaload, 1) := by decide +kernel
theorem dL_law_667 : decode cL_law 667 = .ok (.invokevirtual 93, 3) := by decide +kernel
theorem dL_law_670 : decode cL_law 670 = .ok (.if_icmp .eq 74, 3) := by decide +kernel
theorem dL_law_673 : decode cL_law 673 = .ok (.iconst 0, 1) := by decide +kernel
theorem dL_law_674 : decode cL_law 674 = .ok (.ireturn, 1) := by decide +kernel
theorem dL_law_675 : decode cL_law 675 = .ok (.aload_n 1, 1) := by decide +kernel
theorem dL_law_676 : decode cL_law 676 = .ok (.aload_n 0, 1) := by decide +kernel
theorem dL_law_677 : decode cL_law 677 = .ok (.iload_n 3, 1) := by decide +kernel
theorem dL_law_678 : decode cL_law 678 = .ok (.iconst 1, 1) := by decide +kernel
theorem dL_law_679 : decode cL_law 679 = .ok (.iadd, 1) := by decide +kernel
theorem dL_law_680 : decode cL_law 680 = .ok (.iaload, 1) := by decide +kernel
theorem dL_law_681 : decode cL_law 681 = .ok (.aload_n 0, 1) := by decide +kernel
theorem dL_law_682 : decode cL_law 682 = .ok (.iload_n 3, 1) := by decide +kernel
theorem dL_law_683 : decode cL_law 683 = .ok (.iconst 2, 1) := by decide +kernel
theorem dL_law_684 : decode cL_law 684 = .ok (.iadd, 1) := by decide +kernel
theorem dL_law_685 : decode cL_law 685 = .ok (.iaload, 1) := by decide +kernel
theorem dL_law_686 : decode cL_law 686 = .ok (.invokevirtual 94, 3) := by decide +kernel
theorem dL_law_689 : decode cL_law 689 = .ok (.aload_n 2, 1) := by decide +kernel
theorem dL_law_690 : decode cL_law 690 = .ok (.aload_n 0, 1) := by decide +kernel
theorem dL_law_691 : decode cL_law 691 = .ok (.iload_n 3, 1) := by decide +kernel
theorem dL_law_692 : decode cL_law 692 = .ok (.iconst 1, 1) := by decide +kernel
theorem dL_law_693 : decode cL_law 693 = .ok (.iadd, 1) := by decide +kernel
theorem dL_law_694 : decode cL_law 694 = .ok (.iaload, 1) := by decide +kernel
theorem dL_law_695 : decode cL_law 695 = .ok (.aload_n 0, 1) := by decide +kernel
theorem dL_law_696 : decode cL_law 696 = .ok (.iload_n 3, 1) := by decide +kernel
theorem dL_law_697 : decode cL_law 697 = .ok (.iconst 2, 1) := by decide +kernel
theorem dL_law_698 : decode cL_law 698 = .ok (.iadd, 1) := by decide +kernel
theorem dL_law_699 : decode cL_law 699 = .ok (.iaload, 1) := by decide +kernel
theorem dL_law_700 : decode cL_law 700 = .ok (.invokevirtual 97, 3) := by decide +kernel
theorem dL_law_703 : decode cL_law 703 = .ok (.if_icmp .eq 41, 3) := by decide +kernel
theorem dL_law_706 : decode cL_law 706 = .ok (.iconst 0, 1) := by decide +kernel
theorem dL_law_707 : decode cL_law 707 = .ok (.ireturn, 1) := by decide +kernel
theorem dL_law_708 : decode cL_law 708 = .ok (.aload_n 1, 1) := by decide +kernel
theorem dL_law_709 : decode cL_law 709 = .ok (.invokevirtual 98, 3) := by decide +kernel
theorem dL_law_712 : decode cL_law 712 = .ok (.aload_n 2, 1) := by decide +kernel
theorem dL_law_713 : decode cL_law 713 = .ok (.invokevirtual 101, 3) := by decide +kernel
theorem dL_law_716 : decode cL_law 716 = .ok (.if_icmp .eq 28, 3) := by decide +kernel
theorem dL_law_719 : decode cL_law 719 = .ok (.iconst 0, 1) := by decide +kernel
theorem dL_law_720 : decode cL_law 720 = .ok (.ireturn, 1) := by decide +kernel
theorem dL_law_721 : decode cL_law 721 = .ok (.aload_n 1, 1) := by decide +kernel
theorem dL_law_722 : decode cL_law 722 = .ok (.aload_n 0, 1) := by decide +kernel
theorem dL_law_723 : decode cL_law 723 = .ok (.iload_n 3, 1) := by decide +kernel
theorem dL_law_724 : decode cL_law 724 = .ok (.iconst 1, 1) := by decide +kernel
theorem dL_law_725 : decode cL_law 725 = .ok (.iadd, 1) := by decide +kernel
theorem dL_law_726 : decode cL_law 726 = .ok (.iaload, 1) := by decide +kernel
theorem dL_law_727 : decode cL_law 727 = .ok (.invokevirtual 102, 3) := by decide +kernel
theorem dL_law_730 : decode cL_law 730 = .ok (.aload_n 2, 1) := by decide +kernel
theorem dL_law_731 : decode cL_law 731 = .ok (.aload_n 0, 1) := by decide +kernel
theorem dL_law_732 : decode cL_law 732 = .ok (.iload_n 3, 1) := by decide +kernel
theorem dL_law_733 : decode cL_law 733 = .ok (.iconst 1, 1) := by decide +kernel
theorem dL_law_734 : decode cL_law 734 = .ok (.iadd, 1) := by decide +kernel
theorem dL_law_735 : decode cL_law 735 = .ok (.iaload, 1) := by decide +kernel
theorem dL_law_736 : decode cL_law 736 = .ok (.invokevirtual 105, 3) := by decide +kernel
theorem dL_law_739 : decode cL_law 739 = .ok (.if_icmp .eq 5, 3) := by decide +kernel
