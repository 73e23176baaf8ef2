theorem dX2_passHour_129 : decode cX2_passHour 129 = .ok (.invokevirtual 40, 3) := by decide +kernel
theorem dX2_passHour_132 : decode cX2_passHour 132 = .ok (.aload_n 0, 1) := by decide +kernel
theorem dX2_passHour_133 : decode cX2_passHour 133 = .ok (.getfield 20, 3) := by decide +kernel
theorem dX2_passHour_136 : decode cX2_passHour 136 = .ok (.bipush 8, 2) := by decide +kernel
theorem dX2_passHour_138 : decode cX2_passHour 138 = .ok (.iload_n 2, 1) := by decide +kernel
theorem dX2_passHour_139 : decode cX2_passHour 139 = .ok (.iconst 1, 1) := by decide +kernel
theorem dX2_passHour_140 : decode cX2_passHour 140 = .ok (.invokevirtual 117, 3) := by decide +kernel
theorem dX2_passHour_143 : decode cX2_passHour 143 = .ok (.aload_n 0, 1) := by decide +kernel
theorem dX2_passHour_144 : decode cX2_passHour 144 = .ok (.dup, 1) := by decide +kernel
theorem dX2_passHour_145 : decode cX2_passHour 145 = .ok (.getfield 44, 3) := by decide +kernel
theorem dX2_passHour_148 : decode cX2_passHour 148 = .ok (.iconst 1, 1) := by decide +kernel
theorem dX2_passHour_149 : decode cX2_passHour 149 = .ok (.iadd, 1) := by decide +kernel
theorem dX2_passHour_150 : decode cX2_passHour 150 = .ok (.putfield 44, 3) := by decide +kernel
theorem dX2_passHour_153 : decode cX2_passHour 153 = .ok (.return_, 1) := by decide +kernel
theorem dX2_giveLessons_0 : decode cX2_giveLessons 0 = .ok (.iconst 0, 1) := by decide +kernel
theorem dX2_giveLessons_1 : decode cX2_giveLessons 1 = .ok (.istore_n 2, 1) := by decide +kernel
theorem dX2_giveLessons_2 : decode cX2_giveLessons 2 = .ok (.iconst 0, 1) := by decide +kernel
theorem dX2_giveLessons_3 : decode cX2_giveLessons 3 = .ok (.istore_n 3, 1) := by decide +kernel
theorem dX2_giveLessons_4 : decode cX2_giveLessons 4 = .ok (.iconst 0, 1) := by decide +kernel
theorem dX2_giveLessons_5 : decode cX2_giveLessons 5 = .ok (.istore 4, 2) := by decide +kernel
theorem dX2_giveLessons_7 : decode cX2_giveLessons 7 = .ok (.iload 4, 2) := by decide +kernel
theorem dX2_giveLessons_9 : decode cX2_giveLessons 9 = .ok (.aload_n 0, 1) := by decide +kernel
theorem dX2_giveLessons_10 : decode cX2_giveLessons 10 = .ok (.getfield 52, 3) := by decide +kernel
theorem dX2_giveLessons_13 : decode cX2_giveLessons 13 = .ok (.if_icmp .ge 61, 3) := by decide +kernel
theorem dX2_giveLessons_16 : decode cX2_giveLessons 16 = .ok (.aload_n 0, 1) := by decide +kernel
theorem dX2_giveLessons_17 : decode cX2_giveLessons 17 = .ok (.iload 4, 2) := by decide +kernel
theorem dX2_giveLessons_19 : decode cX2_giveLessons 19 = .ok (.iconst 0, 1) := by decide +kernel
theorem dX2_giveLessons_20 : decode cX2_giveLessons 20 = .ok (.invokevirtual 77, 3) := by decide +kernel
theorem dX2_giveLessons_23 : decode cX2_giveLessons 23 = .ok (.ifCond .eq 25, 3) := by decide +kernel
theorem dX2_giveLessons_26 : decode cX2_giveLessons 26 = .ok (.iload_n 2, 1) := by decide +kernel
theorem dX2_giveLessons_27 : decode cX2_giveLessons 27 = .ok (.aload_n 0, 1) := by decide +kernel
theorem dX2_giveLessons_28 : decode cX2_giveLessons 28 = .ok (.aload_n 0, 1) := by decide +kernel
theorem dX2_giveLessons_29 : decode cX2_giveLessons 29 = .ok (.getfield 26, 3) := by decide +kernel
theorem dX2_giveLessons_32 : decode cX2_giveLessons 32 = .ok (.iconst 2, 1) := by decide +kernel
theorem dX2_giveLessons_33 : decode cX2_giveLessons 33 = .ok (.iload 4, 2) := by decide +kernel
theorem dX2_giveLessons_35 : decode cX2_giveLessons 35 = .ok (.invokevirtual 58, 3) := by decide +kernel
theorem dX2_giveLessons_38 : decode cX2_giveLessons 38 = .ok (.iload_n 1, 1) := by decide +kernel
theorem dX2_giveLessons_39 : decode cX2_giveLessons 39 = .ok (.iload_n 2, 1) := by decide +kernel
theorem dX2_giveLessons_40 : decode cX2_giveLessons 40 = .ok (.invokevirtual 123, 3) := by decide +kernel
theorem dX2_giveLessons_43 : decode cX2_giveLessons 43 = .ok (.ior, 1) := by decide +kernel
theorem dX2_giveLessons_44 : decode cX2_giveLessons 44 = .ok (.istore_n 2, 1) := by decide +kernel
theorem dX2_giveLessons_45 : decode cX2_giveLessons 45 = .ok (.goto 23, 3) := by decide +kernel
theorem dX2_giveLessons_48 : decode cX2_giveLessons 48 = .ok (.iload_n 3, 1) := by decide +kernel
theorem dX2_giveLessons_49 : decode cX2_giveLessons 49 = .ok (.iload 4, 2) := by decide +kernel
theorem dX2_giveLessons_51 : decode cX2_giveLessons 51 = .ok (.if_icmp .ge 14, 3) := by decide +kernel
theorem dX2_giveLessons_54 : decode cX2_giveLessons 54 = .ok (.aload_n 0, 1) := by decide +kernel
theorem dX2_giveLessons_55 : decode cX2_giveLessons 55 = .ok (.getfield 26, 3) := by decide +kernel
theorem dX2_giveLessons_58 : decode cX2_giveLessons 58 = .ok (.iload 4, 2) := by decide +kernel
theorem dX2_giveLessons_60 : decode cX2_giveLessons 60 = .ok (.iload_n 3, 1) := by decide +kernel
theorem dX2_giveLessons_61 : decode cX2_giveLessons 61 = .ok (.iconst 3, 1) := by decide +kernel
theorem dX2_giveLessons_62 : decode cX2_giveLessons 62 = .ok (.invokevirtual 96, 3) := by decide +kernel
theorem dX2_giveLessons_65 : decode cX2_giveLessons 65 = .ok (.iinc 3 1, 3) := by decide +kernel
theorem dX2_giveLessons_68 : decode cX2_giveLessons 68 = .ok (.iinc 4 1, 3) := by decide +kernel
theorem dX2_giveLessons_71 : decode cX2_giveLessons 71 = .ok (.goto (-64), 3) := by decide +kernel
theorem dX2_giveLessons_74 : decode cX2_giveLessons 74 = .ok (.aload_n 0, 1) := by decide +kernel
theorem dX2_giveLessons_75 : decode cX2_giveLessons 75 = .ok (.iload_n 3, 1) := by decide +kernel
theorem dX2_giveLessons_76 : decode cX2_giveLessons 76 = .ok (.putfield 52, 3) := by decide +kernel
theorem dX2_giveLessons_79 : decode cX2_giveLessons 79 = .ok (.iload_n 2, 1) := by decide +kernel
theorem dX2_giveLessons_80 : decode cX2_giveLessons 80 = .ok (.ireturn, 1) := by decide +kernel
theorem dX2_giveLesson_0 : decode cX2_giveLesson 0 = .ok (.aload_n 0, 1) := by decide +kernel
theorem dX2_giveLesson_1 : decode cX2_giveLesson 1 = .ok (.iload_n 1, 1) := by decide +kernel
theorem dX2_giveLesson_2 : decode cX2_giveLesson 2 = .ok (.iload_n 2, 1) := by decide +kernel
theorem dX2_giveLesson_3 : decode cX2_giveLesson 3 = .ok (.iload_n 3, 1) := by decide +kernel
theorem dX2_giveLesson_4 : decode cX2_giveLesson 4 = .ok (.invokevirtual 126, 3) := by decide +kernel
theorem dX2_giveLesson_7 : decode cX2_giveLesson 7 = .ok (.istore 4, 2) := by decide +kernel
theorem dX2_giveLesson_9 : decode cX2_giveLesson 9 = .ok (.iload 4, 2) := by decide +kernel
theorem dX2_giveLesson_11 : decode cX2_giveLesson 11 = .ok (.bipush (-5), 2) := by decide +kernel
theorem dX2_giveLesson_13 : decode cX2_giveLesson 13 = .ok (.if_icmp .ne 16, 3) := by decide +kernel
theorem dX2_giveLesson_16 : decode cX2_giveLesson 16 = .ok (.aload_n 0, 1) := by decide +kernel
theorem dX2_giveLesson_17 : decode cX2_giveLesson 17 = .ok (.getfield 23, 3) := by decide +kernel
theorem dX2_giveLesson_20 : decode cX2_giveLesson 20 = .ok (.bipush 7, 2) := by decide +kernel
theorem dX2_giveLesson_22 : decode cX2_giveLesson 22 = .ok (.iload_n 1, 1) := by decide +kernel
theorem dX2_giveLesson_23 : decode cX2_giveLesson 23 = .ok (.iconst 1, 1) := by decide +kernel
theorem dX2_giveLesson_24 : decode cX2_giveLesson 24 = .ok (.invokevirtual 117, 3) := by decide +kernel
theorem dX2_giveLesson_27 : decode cX2_giveLesson 27 = .ok (.iconst 0, 1) := by decide +kernel
theorem dX2_giveLesson_28 : decode cX2_giveLesson 28 = .ok (.ireturn, 1) := by decide +kernel
theorem dX2_giveLesson_29 : decode cX2_giveLesson 29 = .ok (.aload_n 0, 1) := by decide +kernel
theorem dX2_giveLesson_30 : decode cX2_giveLesson 30 = .ok (.getfield 20, 3) := by decide +kernel
theorem dX2_giveLesson_33 : decode cX2_giveLesson 33 = .ok (.bipush 6, 2) := by decide +kernel
theorem dX2_giveLesson_35 : decode cX2_giveLesson 35 = .ok (.iload 4, 2) := by decide +kernel
theorem dX2_giveLesson_37 : decode cX2_giveLesson 37 = .ok (.iconst 1, 1) := by decide +kernel
theorem dX2_giveLesson_38 : decode cX2_giveLesson 38 = .ok (.invokevirtual 117, 3) := by decide +kernel
theorem dX2_giveLesson_41 : decode cX2_giveLesson 41 = .ok (.aload_n 0, 1) := by decide +kernel
theorem dX2_giveLesson_42 : decode cX2_giveLesson 42 = .ok (.getfield 23, 3) := by decide +kernel
theorem dX2_giveLesson_45 : decode cX2_giveLesson 45 = .ok (.iconst 5, 1) := by decide +kernel
theorem dX2_giveLesson_46 : decode cX2_giveLesson 46 = .ok (.iload_n 1, 1) := by decide +kernel
theorem dX2_giveLesson_47 : decode cX2_giveLesson 47 = .ok (.iconst 1, 1) := by decide +kernel
theorem dX2_giveLesson_48 : decode cX2_giveLesson 48 = .ok (.invokevirtual 117, 3) := by decide +kernel
theorem dX2_giveLesson_51 : decode cX2_giveLesson 51 = .ok (.aload_n 0, 1) := by decide +kernel
theorem dX2_giveLesson_52 : decode cX2_giveLesson 52 = .ok (.getfield 23, 3) := by decide +kernel
theorem dX2_giveLesson_55 : decode cX2_giveLesson 55 = .ok (.bipush 9, 2) := by decide +kernel
theorem dX2_giveLesson_57 : decode cX2_giveLesson 57 = .ok (.iload_n 1, 1) := by decide +kernel
theorem dX2_giveLesson_58 : decode cX2_giveLesson 58 = .ok (.iload 4, 2) := by decide +kernel
theorem dX2_giveLesson_60 : decode cX2_giveLesson 60 = .ok (.invokevirtual 40, 3) := by decide +kernel
theorem dX2_giveLesson_63 : decode cX2_giveLesson 63 = .ok (.aload_n 0, 1) := by decide +kernel
theorem dX2_giveLesson_64 : decode cX2_giveLesson 64 = .ok (.getfield 20, 3) := by decide +kernel
theorem dX2_giveLesson_67 : decode cX2_giveLesson 67 = .ok (.iconst 1, 1) := by decide +kernel
theorem dX2_giveLesson_68 : decode cX2_giveLesson 68 = .ok (.iload 4, 2) := by decide +kernel
theorem dX2_giveLesson_70 : decode cX2_giveLesson 70 = .ok (.invokevirtual 58, 3) := by decide +kernel
theorem dX2_giveLesson_73 : decode cX2_giveLesson 73 = .ok (.aload_n 0, 1) := by decide +kernel
theorem dX2_giveLesson_74 : decode cX2_giveLesson 74 = .ok (.iload_n 1, 1) := by decide +kernel
theorem dX2_giveLesson_75 : decode cX2_giveLesson 75 = .ok (.invokevirtual 66, 3) := by decide +kernel
theorem dX2_giveLesson_78 : decode cX2_giveLesson 78 = .ok (.if_icmp .le 13, 3) := by decide +kernel
theorem dX2_giveLesson_81 : decode cX2_giveLesson 81 = .ok (.aload_n 0, 1) := by decide +kernel
theorem dX2_giveLesson_82 : decode cX2_giveLesson 82 = .ok (.iload_n 1, 1) := by decide +kernel
theorem dX2_giveLesson_83 : decode cX2_giveLesson 83 = .ok (.iload 4, 2) := by decide +kernel
theorem dX2_giveLesson_85 : decode cX2_giveLesson 85 = .ok (.invokevirtual 129, 3) := by decide +kernel
theorem dX2_giveLesson_88 : decode cX2_giveLesson 88 = .ok (.goto 8, 3) := by decide +kernel
theorem dX2_giveLesson_91 : decode cX2_giveLesson 91 = .ok (.aload_n 0, 1) := by decide +kernel
theorem dX2_giveLesson_92 : decode cX2_giveLesson 92 = .ok (.iload_n 1, 1) := by decide +kernel
theorem dX2_giveLesson_93 : decode cX2_giveLesson 93 = .ok (.invokevirtual 132, 3) := by decide +kernel
theorem dX2_giveLesson_96 : decode cX2_giveLesson 96 = .ok (.aload_n 0, 1) := by decide +kernel
theorem dX2_giveLesson_97 : decode cX2_giveLesson 97 = .ok (.iload 4, 2) := by decide +kernel
theorem dX2_giveLesson_99 : decode cX2_giveLesson 99 = .ok (.aload_n 0, 1) := by decide +kernel
theorem dX2_giveLesson_100 : decode cX2_giveLesson 100 = .ok (.getfield 23, 3) := by decide +kernel
theorem dX2_giveLesson_103 : decode cX2_giveLesson 103 = .ok (.iconst 0, 1) := by decide +kernel
theorem dX2_giveLesson_104 : decode cX2_giveLesson 104 = .ok (.iload_n 1, 1) := by decide +kernel
theorem dX2_giveLesson_105 : decode cX2_giveLesson 105 = .ok (.invokevirtual 58, 3) := by decide +kernel
theorem dX2_giveLesson_108 : decode cX2_giveLesson 108 = .ok (.invokevirtual 136, 3) := by decide +kernel
theorem dX2_giveLesson_111 : decode cX2_giveLesson 111 = .ok (.iconst 1, 1) := by decide +kernel
theorem dX2_giveLesson_112 : decode cX2_giveLesson 112 = .ok (.iload 4, 2) := by decide +kernel
theorem dX2_giveLesson_114 : decode cX2_giveLesson 114 = .ok (.ishl, 1) := by decide +kernel
theorem dX2_giveLesson_115 : decode cX2_giveLesson 115 = .ok (.ireturn, 1) := by decide +kernel
theorem dX2_letFall_0 : decode cX2_letFall 0 = .ok (.aload_n 0, 1) := by decide +kernel
theorem dX2_letFall_1 : decode cX2_letFall 1 = .ok (.getfield 23, 3) := by decide +kernel
theorem dX2_letFall_4 : decode cX2_letFall 4 = .ok (.iconst 2, 1) := by decide +kernel
theorem dX2_letFall_5 : decode cX2_letFall 5 = .ok (.iload_n 1, 1) := by decide +kernel
theorem dX2_letFall_6 : decode cX2_letFall 6 = .ok (.bipush 9, 2) := by decide +kernel
theorem dX2_letFall_8 : decode cX2_letFall 8 = .ok (.invokevirtual 139, 3) := by decide +kernel
theorem dX2_letFall_11 : decode cX2_letFall 11 = .ok (.aload_n 0, 1) := by decide +kernel
theorem dX2_letFall_12 : decode cX2_letFall 12 = .ok (.getfield 23, 3) := by decide +kernel
theorem dX2_letFall_15 : decode cX2_letFall 15 = .ok (.iconst 4, 1) := by decide +kernel
theorem dX2_letFall_16 : decode cX2_letFall 16 = .ok (.iload_n 1, 1) := by decide +kernel
theorem dX2_letFall_17 : decode cX2_letFall 17 = .ok (.iconst 0, 1) := by decide +kernel
theorem dX2_letFall_18 : decode cX2_letFall 18 = .ok (.invokevirtual 40, 3) := by decide +kernel
theorem dX2_letFall_21 : decode cX2_letFall 21 = .ok (.aload_n 0, 1) := by decide +kernel
theorem dX2_letFall_22 : decode cX2_letFall 22 = .ok (.getfield 23, 3) := by decide +kernel
theorem dX2_letFall_25 : decode cX2_letFall 25 = .ok (.bipush 6, 2) := by decide +kernel
theorem dX2_letFall_27 : decode cX2_letFall 27 = .ok (.iload_n 1, 1) := by decide +kernel
theorem dX2_letFall_28 : decode cX2_letFall 28 = .ok (.iconst 1, 1) := by decide +kernel
theorem dX2_letFall_29 : decode cX2_letFall 29 = .ok (.invokevirtual 117, 3) := by decide +kernel
theorem dX2_letFall_32 : decode cX2_letFall 32 = .ok (.aload_n 0, 1) := by decide +kernel
theorem dX2_letFall_33 : decode cX2_letFall 33 = .ok (.getfield 20, 3) := by decide +kernel
theorem dX2_letFall_36 : decode cX2_letFall 36 = .ok (.bipush 7, 2) := by decide +kernel
theorem dX2_letFall_38 : decode cX2_letFall 38 = .ok (.iload_n 2, 1) := by decide +kernel
theorem dX2_letFall_39 : decode cX2_letFall 39 = .ok (.iconst 1, 1) := by decide +kernel
theorem dX2_letFall_40 : decode cX2_letFall 40 = .ok (.invokevirtual 117, 3) := by decide +kernel
theorem dX2_letFall_43 : decode cX2_letFall 43 = .ok (.aload_n 0, 1) := by decide +kernel
theorem dX2_letFall_44 : decode cX2_letFall 44 = .ok (.getfield 55, 3) := by decide +kernel
theorem dX2_letFall_47 : decode cX2_letFall 47 = .ok (.bipush 20, 2) := by decide +kernel
theorem dX2_letFall_49 : decode cX2_letFall 49 = .ok (.irem, 1) := by decide +kernel
theorem dX2_letFall_50 : decode cX2_letFall 50 = .ok (.istore_n 3, 1) := by decide +kernel
theorem dX2_letFall_51 : decode cX2_letFall 51 = .ok (.aload_n 0, 1) := by decide +kernel
theorem dX2_letFall_52 : decode cX2_letFall 52 = .ok (.getfield 29, 3) := by decide +kernel
theorem dX2_letFall_55 : decode cX2_letFall 55 = .ok (.iconst 0, 1) := by decide +kernel
theorem dX2_letFall_56 : decode cX2_letFall 56 = .ok (.iload_n 3, 1) := by decide +kernel
theorem dX2_letFall_57 : decode cX2_letFall 57 = .ok (.aload_n 0, 1) := by decide +kernel
theorem dX2_letFall_58 : decode cX2_letFall 58 = .ok (.getfield 44, 3) := by decide +kernel
theorem dX2_letFall_61 : decode cX2_letFall 61 = .ok (.invokevirtual 40, 3) := by decide +kernel
theorem dX2_letFall_64 : decode cX2_letFall 64 = .ok (.aload_n 0, 1) := by decide +kernel
theorem dX2_letFall_65 : decode cX2_letFall 65 = .ok (.getfield 29, 3) := by decide +kernel
theorem dX2_letFall_68 : decode cX2_letFall 68 = .ok (.iconst 1, 1) := by decide +kernel
theorem dX2_letFall_69 : decode cX2_letFall 69 = .ok (.iload_n 3, 1) := by decide +kernel
theorem dX2_letFall_70 : decode cX2_letFall 70 = .ok (.iload_n 1, 1) := by decide +kernel
theorem dX2_letFall_71 : decode cX2_letFall 71 = .ok (.invokevirtual 40, 3) := by decide +kernel
theorem dX2_letFall_74 : decode cX2_letFall 74 = .ok (.aload_n 0, 1) := by decide +kernel
theorem dX2_letFall_75 : decode cX2_letFall 75 = .ok (.getfield 29, 3) := by decide +kernel
theorem dX2_letFall_78 : decode cX2_letFall 78 = .ok (.iconst 2, 1) := by decide +kernel
theorem dX2_letFall_79 : decode cX2_letFall 79 = .ok (.iload_n 3, 1) := by decide +kernel
theorem dX2_letFall_80 : decode cX2_letFall 80 = .ok (.iload_n 2, 1) := by decide +kernel
theorem dX2_letFall_81 : decode cX2_letFall 81 = .ok (.invokevirtual 40, 3) := by decide +kernel
theorem dX2_letFall_84 : decode cX2_letFall 84 = .ok (.aload_n 0, 1) := by decide +kernel
theorem dX2_letFall_85 : decode cX2_letFall 85 = .ok (.dup, 1) := by decide +kernel
theorem dX2_letFall_86 : decode cX2_letFall 86 = .ok (.getfield 55, 3) := by decide +kernel
theorem dX2_letFall_89 : decode cX2_letFall 89 = .ok (.iconst 1, 1) := by decide +kernel
theorem dX2_letFall_90 : decode cX2_letFall 90 = .ok (.iadd, 1) := by decide +kernel
theorem dX2_letFall_91 : decode cX2_letFall 91 = .ok (.putfield 55, 3) := by decide +kernel
theorem dX2_letFall_94 : decode cX2_letFall 94 = .ok (.return_, 1) := by decide +kernel
theorem dX2_letLearn_0 : decode cX2_letLearn 0 = .ok (.aload_n 0, 1) := by decide +kernel
theorem dX2_letLearn_1 : decode cX2_letLearn 1 = .ok (.getfield 23, 3) := by decide +kernel
theorem dX2_letLearn_4 : decode cX2_letLearn 4 = .ok (.iconst 2, 1) := by decide +kernel
theorem dX2_letLearn_5 : decode cX2_letLearn 5 = .ok (.iload_n 1, 1) := by decide +kernel
theorem dX2_letLearn_6 : decode cX2_letLearn 6 = .ok (.iconst 1, 1) := by decide +kernel
theorem dX2_letLearn_7 : decode cX2_letLearn 7 = .ok (.invokevirtual 120, 3) := by decide +kernel
theorem dX2_letLearn_10 : decode cX2_letLearn 10 = .ok (.aload_n 0, 1) := by decide +kernel
theorem dX2_letLearn_11 : decode cX2_letLearn 11 = .ok (.getfield 23, 3) := by decide +kernel
theorem dX2_letLearn_14 : decode cX2_letLearn 14 = .ok (.iconst 4, 1) := by decide +kernel
theorem dX2_letLearn_15 : decode cX2_letLearn 15 = .ok (.iload_n 1, 1) := by decide +kernel
theorem dX2_letLearn_16 : decode cX2_letLearn 16 = .ok (.iconst 1, 1) := by decide +kernel
theorem dX2_letLearn_17 : decode cX2_letLearn 17 = .ok (.invokevirtual 117, 3) := by decide +kernel
theorem dX2_letLearn_20 : decode cX2_letLearn 20 = .ok (.aload_n 0, 1) := by decide +kernel
theorem dX2_letLearn_21 : decode cX2_letLearn 21 = .ok (.getfield 23, 3) := by decide +kernel
theorem dX2_letLearn_24 : decode cX2_letLearn 24 = .ok (.iconst 4, 1) := by decide +kernel
theorem dX2_letLearn_25 : decode cX2_letLearn 25 = .ok (.iload_n 1, 1) := by decide +kernel
theorem dX2_letLearn_26 : decode cX2_letLearn 26 = .ok (.invokevirtual 58, 3) := by decide +kernel
theorem dX2_letLearn_29 : decode cX2_letLearn 29 = .ok (.iconst 3, 1) := by decide +kernel
theorem dX2_letLearn_30 : decode cX2_letLearn 30 = .ok (.irem, 1) := by decide +kernel
theorem dX2_letLearn_31 : decode cX2_letLearn 31 = .ok (.ifCond .ne 14, 3) := by decide +kernel
theorem dX2_letLearn_34 : decode cX2_letLearn 34 = .ok (.aload_n 0, 1) := by decide +kernel
theorem dX2_letLearn_35 : decode cX2_letLearn 35 = .ok (.getfield 23, 3) := by decide +kernel
theorem dX2_letLearn_38 : decode cX2_letLearn 38 = .ok (.iconst 1, 1) := by decide +kernel
theorem dX2_letLearn_39 : decode cX2_letLearn 39 = .ok (.iload_n 1, 1) := by decide +kernel
theorem dX2_letLearn_40 : decode cX2_letLearn 40 = .ok (.bipush 9, 2) := by decide +kernel
theorem dX2_letLearn_42 : decode cX2_letLearn 42 = .ok (.invokevirtual 139, 3) := by decide +kernel
theorem dX2_letLearn_45 : decode cX2_letLearn 45 = .ok (.return_, 1) := by decide +kernel
theorem dX2_strain_0 : decode cX2_strain 0 = .ok (.iload_n 2, 1) := by decide +kernel
theorem dX2_strain_1 : decode cX2_strain 1 = .ok (.aload_n 0, 1) := by decide +kernel
theorem dX2_strain_2 : decode cX2_strain 2 = .ok (.getfield 14, 3) := by decide +kernel
theorem dX2_strain_5 : decode cX2_strain 5 = .ok (.iconst 0, 1) := by decide +kernel
theorem dX2_strain_6 : decode cX2_strain 6 = .ok (.iconst 2, 1) := by decide +kernel
theorem dX2_strain_7 : decode cX2_strain 7 = .ok (.invokevirtual 58, 3) := by decide +kernel
theorem dX2_strain_10 : decode cX2_strain 10 = .ok (.iadd, 1) := by decide +kernel
theorem dX2_strain_11 : decode cX2_strain 11 = .ok (.aload_n 0, 1) := by decide +kernel
theorem dX2_strain_12 : decode cX2_strain 12 = .ok (.getfield 20, 3) := by decide +kernel
theorem dX2_strain_15 : decode cX2_strain 15 = .ok (.iconst 0, 1) := by decide +kernel
theorem dX2_strain_16 : decode cX2_strain 16 = .ok (.iload_n 1, 1) := by decide +kernel
theorem dX2_strain_17 : decode cX2_strain 17 = .ok (.invokevirtual 58, 3) := by decide +kernel
theorem dX2_strain_20 : decode cX2_strain 20 = .ok (.if_icmp .gt 4, 3) := by decide +kernel
theorem dX2_strain_23 : decode cX2_strain 23 = .ok (.return_, 1) := by decide +kernel
theorem dX2_strain_24 : decode cX2_strain 24 = .ok (.aload_n 0, 1) := by decide +kernel
theorem dX2_strain_25 : decode cX2_strain 25 = .ok (.getfield 20, 3) := by decide +kernel
theorem dX2_strain_28 : decode cX2_strain 28 = .ok (.iconst 4, 1) := by decide +kernel
theorem dX2_strain_29 : decode cX2_strain 29 = .ok (.iload_n 1, 1) := by decide +kernel
theorem dX2_strain_30 : decode cX2_strain 30 = .ok (.iconst 1, 1) := by decide +kernel
theorem dX2_strain_31 : decode cX2_strain 31 = .ok (.invokevirtual 117, 3) := by decide +kernel
theorem dX2_strain_34 : decode cX2_strain 34 = .ok (.aload_n 0, 1) := by decide +kernel
theorem dX2_strain_35 : decode cX2_strain 35 = .ok (.getfield 20, 3) := by decide +kernel
theorem dX2_strain_38 : decode cX2_strain 38 = .ok (.iconst 4, 1) := by decide +kernel
theorem dX2_strain_39 : decode cX2_strain 39 = .ok (.iload_n 1, 1) := by decide +kernel
theorem dX2_strain_40 : decode cX2_strain 40 = .ok (.invokevirtual 58, 3) := by decide +kernel
theorem dX2_strain_43 : decode cX2_strain 43 = .ok (.iconst 3, 1) := by decide +kernel
theorem dX2_strain_44 : decode cX2_strain 44 = .ok (.if_icmp .lt 31, 3) := by decide +kernel
theorem dX2_strain_47 : decode cX2_strain 47 = .ok (.aload_n 0, 1) := by decide +kernel
theorem dX2_strain_48 : decode cX2_strain 48 = .ok (.getfield 20, 3) := by decide +kernel
theorem dX2_strain_51 : decode cX2_strain 51 = .ok (.iconst 5, 1) := by decide +kernel
theorem dX2_strain_52 : decode cX2_strain 52 = .ok (.iload_n 1, 1) := by decide +kernel
theorem dX2_strain_53 : decode cX2_strain 53 = .ok (.aload_n 0, 1) := by decide +kernel
theorem dX2_strain_54 : decode cX2_strain 54 = .ok (.getfield 14, 3) := by decide +kernel
theorem dX2_strain_57 : decode cX2_strain 57 = .ok (.iconst 0, 1) := by decide +kernel
theorem dX2_strain_58 : decode cX2_strain 58 = .ok (.iconst 3, 1) := by decide +kernel
theorem dX2_strain_59 : decode cX2_strain 59 = .ok (.invokevirtual 58, 3) := by decide +kernel
theorem dX2_strain_62 : decode cX2_strain 62 = .ok (.invokevirtual 40, 3) := by decide +kernel
theorem dX2_strain_65 : decode cX2_strain 65 = .ok (.aload_n 0, 1) := by decide +kernel
theorem dX2_strain_66 : decode cX2_strain 66 = .ok (.getfield 20, 3) := by decide +kernel
theorem dX2_strain_69 : decode cX2_strain 69 = .ok (.iconst 4, 1) := by decide +kernel
theorem dX2_strain_70 : decode cX2_strain 70 = .ok (.iload_n 1, 1) := by decide +kernel
theorem dX2_strain_71 : decode cX2_strain 71 = .ok (.iconst 0, 1) := by decide +kernel
theorem dX2_strain_72 : decode cX2_strain 72 = .ok (.invokevirtual 40, 3) := by decide +kernel
theorem dX2_strain_75 : decode cX2_strain 75 = .ok (.return_, 1) := by decide +kernel
theorem dX2_fallsSoFar_0 : decode cX2_fallsSoFar 0 = .ok (.aload_n 0, 1) := by decide +kernel
theorem dX2_fallsSoFar_1 : decode cX2_fallsSoFar 1 = .ok (.getfield 55, 3) := by decide +kernel
theorem dX2_fallsSoFar_4 : decode cX2_fallsSoFar 4 = .ok (.ireturn, 1) := by decide +kernel
theorem dX2_ofFall_0 : decode cX2_ofFall 0 = .ok (.iload_n 1, 1) := by decide +kernel
theorem dX2_ofFall_1 : decode cX2_ofFall 1 = .ok (.ifCond .lt 16, 3) := by decide +kernel
theorem dX2_ofFall_4 : decode cX2_ofFall 4 = .ok (.iload_n 1, 1) := by decide +kernel
theorem dX2_ofFall_5 : decode cX2_ofFall 5 = .ok (.aload_n 0, 1) := by decide +kernel
theorem dX2_ofFall_6 : decode cX2_ofFall 6 = .ok (.getfield 55, 3) := by decide +kernel
theorem dX2_ofFall_9 : decode cX2_ofFall 9 = .ok (.bipush 20, 2) := by decide +kernel
theorem dX2_ofFall_11 : decode cX2_ofFall 11 = .ok (.invokestatic 93, 3) := by decide +kernel
theorem dX2_ofFall_14 : decode cX2_ofFall 14 = .ok (.if_icmp .lt 6, 3) := by decide +kernel
theorem dX2_ofFall_17 : decode cX2_ofFall 17 = .ok (.bipush (-5), 2) := by decide +kernel
theorem dX2_ofFall_19 : decode cX2_ofFall 19 = .ok (.ireturn, 1) := by decide +kernel
theorem dX2_ofFall_20 : decode cX2_ofFall 20 = .ok (.aload_n 0, 1) := by decide +kernel
theorem dX2_ofFall_21 : decode cX2_ofFall 21 = .ok (.getfield 29, 3) := by decide +kernel
theorem dX2_ofFall_24 : decode cX2_ofFall 24 = .ok (.iload_n 2, 1) := by decide +kernel
theorem dX2_ofFall_25 : decode cX2_ofFall 25 = .ok (.aload_n 0, 1) := by decide +kernel
theorem dX2_ofFall_26 : decode cX2_ofFall 26 = .ok (.getfield 55, 3) := by decide +kernel
theorem dX2_ofFall_29 : decode cX2_ofFall 29 = .ok (.iconst 1, 1) := by decide +kernel
theorem dX2_ofFall_30 : decode cX2_ofFall 30 = .ok (.isub, 1) := by decide +kernel
theorem dX2_ofFall_31 : decode cX2_ofFall 31 = .ok (.iload_n 1, 1) := by decide +kernel
theorem dX2_ofFall_32 : decode cX2_ofFall 32 = .ok (.isub, 1) := by decide +kernel
theorem dX2_ofFall_33 : decode cX2_ofFall 33 = .ok (.bipush 20, 2) := by decide +kernel
theorem dX2_ofFall_35 : decode cX2_ofFall 35 = .ok (.irem, 1) := by decide +kernel
theorem dX2_ofFall_36 : decode cX2_ofFall 36 = .ok (.invokevirtual 58, 3) := by decide +kernel
theorem dX2_ofFall_39 : decode cX2_ofFall 39 = .ok (.ireturn, 1) := by decide +kernel
theorem dX3_init_0 : decode cX3_init 0 = .ok (.aload_n 0, 1) := by decide +kernel
theorem dX3_init_1 : decode cX3_init 1 = .ok (.invokespecial 1, 3) := by decide +kernel
theorem dX3_init_4 : decode cX3_init 4 = .ok (.iload_n 1, 1) := by decide +kernel
theorem dX3_init_5 : decode cX3_init 5 = .ok (.iload_n 2, 1) := by decide +kernel
theorem dX3_init_6 : decode cX3_init 6 = .ok (.imul, 1) := by decide +kernel
theorem dX3_init_7 : decode cX3_init 7 = .ok (.istore_n 3, 1) := by decide +kernel
theorem dX3_init_8 : decode cX3_init 8 = .ok (.aload_n 0, 1) := by decide +kernel
theorem dX3_init_9 : decode cX3_init 9 = .ok (.iload_n 2, 1) := by decide +kernel
theorem dX3_init_10 : decode cX3_init 10 = .ok (.putfield 7, 3) := by decide +kernel
theorem dX3_init_13 : decode cX3_init 13 = .ok (.aload_n 0, 1) := by decide +kernel
theorem dX3_init_14 : decode cX3_init 14 = .ok (.iload_n 3, 1) := by decide +kernel
theorem dX3_init_15 : decode cX3_init 15 = .ok (.ifCond .le 7, 3) := by decide +kernel
theorem dX3_init_18 : decode cX3_init 18 = .ok (.iload_n 3, 1) := by decide +kernel
theorem dX3_init_19 : decode cX3_init 19 = .ok (.goto 4, 3) := by decide +kernel
theorem dX3_init_22 : decode cX3_init 22 = .ok (.iconst 0, 1) := by decide +kernel
theorem dX3_init_23 : decode cX3_init 23 = .ok (.newarray .int, 2) := by decide +kernel
theorem dX3_init_25 : decode cX3_init 25 = .ok (.putfield 13, 3) := by decide +kernel
theorem dX3_init_28 : decode cX3_init 28 = .ok (.return_, 1) := by decide +kernel
theorem dX3_at_0 : decode cX3_at 0 = .ok (.iload_n 1, 1) := by decide +kernel
theorem dX3_at_1 : decode cX3_at 1 = .ok (.aload_n 0, 1) := by decide +kernel
theorem dX3_at_2 : decode cX3_at 2 = .ok (.getfield 7, 3) := by decide +kernel
theorem dX3_at_5 : decode cX3_at 5 = .ok (.imul, 1) := by decide +kernel
theorem dX3_at_6 : decode cX3_at 6 = .ok (.iload_n 2, 1) := by decide +kernel
theorem dX3_at_7 : decode cX3_at 7 = .ok (.iadd, 1) := by decide +kernel
theorem dX3_at_8 : decode cX3_at 8 = .ok (.istore_n 3, 1) := by decide +kernel
theorem dX3_at_9 : decode cX3_at 9 = .ok (.iload_n 2, 1) := by decide +kernel
theorem dX3_at_10 : decode cX3_at 10 = .ok (.ifCond .lt 33, 3) := by decide +kernel
theorem dX3_at_13 : decode cX3_at 13 = .ok (.iload_n 2, 1) := by decide +kernel
theorem dX3_at_14 : decode cX3_at 14 = .ok (.aload_n 0, 1) := by decide +kernel
theorem dX3_at_15 : decode cX3_at 15 = .ok (.getfield 7, 3) := by decide +kernel
theorem dX3_at_18 : decode cX3_at 18 = .ok (.if_icmp .ge 25, 3) := by decide +kernel
theorem dX3_at_21 : decode cX3_at 21 = .ok (.iload_n 3, 1) := by decide +kernel
theorem dX3_at_22 : decode cX3_at 22 = .ok (.ifCond .lt 21, 3) := by decide +kernel
theorem dX3_at_25 : decode cX3_at 25 = .ok (.iload_n 3, 1) := by decide +kernel
theorem dX3_at_26 : decode cX3_at 26 = .ok (.aload_n 0, 1) := by decide +kernel
theorem dX3_at_27 : decode cX3_at 27 = .ok (.getfield 13, 3) := by decide +kernel
theorem dX3_at_30 : decode cX3_at 30 = .ok (.arraylength, 1) := by decide +kernel
theorem dX3_at_31 : decode cX3_at 31 = .ok (.if_icmp .ge 12, 3) := by decide +kernel
theorem dX3_at_34 : decode cX3_at 34 = .ok (.aload_n 0, 1) := by decide +kernel
theorem dX3_at_35 : decode cX3_at 35 = .ok (.getfield 13, 3) := by decide +kernel
theorem dX3_at_38 : decode cX3_at 38 = .ok (.iload_n 3, 1) := by decide +kernel
theorem dX3_at_39 : decode cX3_at 39 = .ok (.iaload, 1) := by decide +kernel
theorem dX3_at_40 : decode cX3_at 40 = .ok (.goto 4, 3) := by decide +kernel
theorem dX3_at_43 : decode cX3_at 43 = .ok (.iconst 0, 1) := by decide +kernel
theorem dX3_at_44 : decode cX3_at 44 = .ok (.ireturn, 1) := by decide +kernel
theorem dX3_put_0 : decode cX3_put 0 = .ok (.iload_n 1, 1) := by decide +kernel
theorem dX3_put_1 : decode cX3_put 1 = .ok (.aload_n 0, 1) := by decide +kernel
theorem dX3_put_2 : decode cX3_put 2 = .ok (.getfield 7, 3) := by decide +kernel
theorem dX3_put_5 : decode cX3_put 5 = .ok (.imul, 1) := by decide +kernel
theorem dX3_put_6 : decode cX3_put 6 = .ok (.iload_n 2, 1) := by decide +kernel
theorem dX3_put_7 : decode cX3_put 7 = .ok (.iadd, 1) := by decide +kernel
theorem dX3_put_8 : decode cX3_put 8 = .ok (.istore 4, 2) := by decide +kernel
theorem dX3_put_10 : decode cX3_put 10 = .ok (.iload_n 2, 1) := by decide +kernel
theorem dX3_put_11 : decode cX3_put 11 = .ok (.ifCond .lt 34, 3) := by decide +kernel
theorem dX3_put_14 : decode cX3_put 14 = .ok (.iload_n 2, 1) := by decide +kernel
theorem dX3_put_15 : decode cX3_put 15 = .ok (.aload_n 0, 1) := by decide +kernel
theorem dX3_put_16 : decode cX3_put 16 = .ok (.getfield 7, 3) := by decide +kernel
theorem dX3_put_19 : decode cX3_put 19 = .ok (.if_icmp .ge 26, 3) := by decide +kernel
theorem dX3_put_22 : decode cX3_put 22 = .ok (.iload 4, 2) := by decide +kernel
theorem dX3_put_24 : decode cX3_put 24 = .ok (.ifCond .lt 21, 3) := by decide +kernel
theorem dX3_put_27 : decode cX3_put 27 = .ok (.iload 4, 2) := by decide +kernel
theorem dX3_put_29 : decode cX3_put 29 = .ok (.aload_n 0, 1) := by decide +kernel
theorem dX3_put_30 : decode cX3_put 30 = .ok (.getfield 13, 3) := by decide +kernel
theorem dX3_put_33 : decode cX3_put 33 = .ok (.arraylength, 1) := by decide +kernel
theorem dX3_put_34 : decode cX3_put 34 = .ok (.if_icmp .ge 11, 3) := by decide +kernel
theorem dX3_put_37 : decode cX3_put 37 = .ok (.aload_n 0, 1) := by decide +kernel
theorem dX3_put_38 : decode cX3_put 38 = .ok (.getfield 13, 3) := by decide +kernel
theorem dX3_put_41 : decode cX3_put 41 = .ok (.iload 4, 2) := by decide +kernel
theorem dX3_put_43 : decode cX3_put 43 = .ok (.iload_n 3, 1) := by decide +kernel
theorem dX3_put_44 : decode cX3_put 44 = .ok (.iastore, 1) := by decide +kernel
theorem dX3_put_45 : decode cX3_put 45 = .ok (.return_, 1) := by decide +kernel
theorem dX3_add_0 : decode cX3_add 0 = .ok (.aload_n 0, 1) := by decide +kernel
theorem dX3_add_1 : decode cX3_add 1 = .ok (.iload_n 1, 1) := by decide +kernel
theorem dX3_add_2 : decode cX3_add 2 = .ok (.iload_n 2, 1) := by decide +kernel
theorem dX3_add_3 : decode cX3_add 3 = .ok (.aload_n 0, 1) := by decide +kernel
theorem dX3_add_4 : decode cX3_add 4 = .ok (.iload_n 1, 1) := by decide +kernel
theorem dX3_add_5 : decode cX3_add 5 = .ok (.iload_n 2, 1) := by decide +kernel
theorem dX3_add_6 : decode cX3_add 6 = .ok (.invokevirtual 17, 3) := by decide +kernel
theorem dX3_add_9 : decode cX3_add 9 = .ok (.iload_n 3, 1) := by decide +kernel
theorem dX3_add_10 : decode cX3_add 10 = .ok (.iadd, 1) := by decide +kernel
theorem dX3_add_11 : decode cX3_add 11 = .ok (.invokevirtual 21, 3) := by decide +kernel
theorem dX3_add_14 : decode cX3_add 14 = .ok (.return_, 1) := by decide +kernel
theorem dX3_takeAway_0 : decode cX3_takeAway 0 = .ok (.aload_n 0, 1) := by decide +kernel
theorem dX3_takeAway_1 : decode cX3_takeAway 1 = .ok (.iload_n 1, 1) := by decide +kernel
theorem dX3_takeAway_2 : decode cX3_takeAway 2 = .ok (.iload_n 2, 1) := by decide +kernel
theorem dX3_takeAway_3 : decode cX3_takeAway 3 = .ok (.iconst 0, 1) := by decide +kernel
theorem dX3_takeAway_4 : decode cX3_takeAway 4 = .ok (.aload_n 0, 1) := by decide +kernel
theorem dX3_takeAway_5 : decode cX3_takeAway 5 = .ok (.iload_n 1, 1) := by decide +kernel
theorem dX3_takeAway_6 : decode cX3_takeAway 6 = .ok (.iload_n 2, 1) := by decide +kernel
theorem dX3_takeAway_7 : decode cX3_takeAway 7 = .ok (.invokevirtual 17, 3) := by decide +kernel
theorem dX3_takeAway_10 : decode cX3_takeAway 10 = .ok (.iload_n 3, 1) := by decide +kernel
theorem dX3_takeAway_11 : decode cX3_takeAway 11 = .ok (.isub, 1) := by decide +kernel
theorem dX3_takeAway_12 : decode cX3_takeAway 12 = .ok (.invokestatic 25, 3) := by decide +kernel
theorem dX3_takeAway_15 : decode cX3_takeAway 15 = .ok (.invokevirtual 21, 3) := by decide +kernel
theorem dX3_takeAway_18 : decode cX3_takeAway 18 = .ok (.return_, 1) := by decide +kernel
theorem dX3_addUpTo_0 : decode cX3_addUpTo 0 = .ok (.aload_n 0, 1) := by decide +kernel
theorem dX3_addUpTo_1 : decode cX3_addUpTo 1 = .ok (.iload_n 1, 1) := by decide +kernel
theorem dX3_addUpTo_2 : decode cX3_addUpTo 2 = .ok (.iload_n 2, 1) := by decide +kernel
theorem dX3_addUpTo_3 : decode cX3_addUpTo 3 = .ok (.iload_n 3, 1) := by decide +kernel
theorem dX3_addUpTo_4 : decode cX3_addUpTo 4 = .ok (.aload_n 0, 1) := by decide +kernel
theorem dX3_addUpTo_5 : decode cX3_addUpTo 5 = .ok (.iload_n 1, 1) := by decide +kernel
theorem dX3_addUpTo_6 : decode cX3_addUpTo 6 = .ok (.iload_n 2, 1) := by decide +kernel
theorem dX3_addUpTo_7 : decode cX3_addUpTo 7 = .ok (.invokevirtual 17, 3) := by decide +kernel
theorem dX3_addUpTo_10 : decode cX3_addUpTo 10 = .ok (.iconst 1, 1) := by decide +kernel
theorem dX3_addUpTo_11 : decode cX3_addUpTo 11 = .ok (.iadd, 1) := by decide +kernel
theorem dX3_addUpTo_12 : decode cX3_addUpTo 12 = .ok (.invokestatic 30, 3) := by decide +kernel
theorem dX3_addUpTo_15 : decode cX3_addUpTo 15 = .ok (.invokevirtual 21, 3) := by decide +kernel
theorem dX3_addUpTo_18 : decode cX3_addUpTo 18 = .ok (.return_, 1) := by decide +kernel
theorem dX3_sum_0 : decode cX3_sum 0 = .ok (.iconst 0, 1) := by decide +kernel
theorem dX3_sum_1 : decode cX3_sum 1 = .ok (.istore_n 2, 1) := by decide +kernel
theorem dX3_sum_2 : decode cX3_sum 2 = .ok (.iconst 0, 1) := by decide +kernel
theorem dX3_sum_3 : decode cX3_sum 3 = .ok (.istore_n 3, 1) := by decide +kernel
theorem dX3_sum_4 : decode cX3_sum 4 = .ok (.iload_n 3, 1) := by decide +kernel
theorem dX3_sum_5 : decode cX3_sum 5 = .ok (.aload_n 0, 1) := by decide +kernel
theorem dX3_sum_6 : decode cX3_sum 6 = .ok (.getfield 7, 3) := by decide +kernel
theorem dX3_sum_9 : decode cX3_sum 9 = .ok (.if_icmp .ge 18, 3) := by decide +kernel
theorem dX3_sum_12 : decode cX3_sum 12 = .ok (.iload_n 2, 1) := by decide +kernel
theorem dX3_sum_13 : decode cX3_sum 13 = .ok (.aload_n 0, 1) := by decide +kernel
theorem dX3_sum_14 : decode cX3_sum 14 = .ok (.iload_n 1, 1) := by decide +kernel
theorem dX3_sum_15 : decode cX3_sum 15 = .ok (.iload_n 3, 1) := by decide +kernel
theorem dX3_sum_16 : decode cX3_sum 16 = .ok (.invokevirtual 17, 3) := by decide +kernel
theorem dX3_sum_19 : decode cX3_sum 19 = .ok (.iadd, 1) := by decide +kernel
theorem dX3_sum_20 : decode cX3_sum 20 = .ok (.istore_n 2, 1) := by decide +kernel
theorem dX3_sum_21 : decode cX3_sum 21 = .ok (.iinc 3 1, 3) := by decide +kernel
theorem dX3_sum_24 : decode cX3_sum 24 = .ok (.goto (-20), 3) := by decide +kernel
theorem dX3_sum_27 : decode cX3_sum 27 = .ok (.iload_n 2, 1) := by decide +kernel
theorem dX3_sum_28 : decode cX3_sum 28 = .ok (.ireturn, 1) := by decide +kernel
theorem dX3_moveColumn_0 : decode cX3_moveColumn 0 = .ok (.iconst 0, 1) := by decide +kernel
theorem dX3_moveColumn_1 : decode cX3_moveColumn 1 = .ok (.istore 4, 2) := by decide +kernel
theorem dX3_moveColumn_3 : decode cX3_moveColumn 3 = .ok (.iload 4, 2) := by decide +kernel
theorem dX3_moveColumn_5 : decode cX3_moveColumn 5 = .ok (.iload_n 3, 1) := by decide +kernel
theorem dX3_moveColumn_6 : decode cX3_moveColumn 6 = .ok (.if_icmp .ge 23, 3) := by decide +kernel
theorem dX3_moveColumn_9 : decode cX3_moveColumn 9 = .ok (.aload_n 0, 1) := by decide +kernel
theorem dX3_moveColumn_10 : decode cX3_moveColumn 10 = .ok (.iload 4, 2) := by decide +kernel
theorem dX3_moveColumn_12 : decode cX3_moveColumn 12 = .ok (.iload_n 2, 1) := by decide +kernel
theorem dX3_moveColumn_13 : decode cX3_moveColumn 13 = .ok (.aload_n 0, 1) := by decide +kernel
theorem dX3_moveColumn_14 : decode cX3_moveColumn 14 = .ok (.iload 4, 2) := by decide +kernel
theorem dX3_moveColumn_16 : decode cX3_moveColumn 16 = .ok (.iload_n 1, 1) := by decide +kernel
theorem dX3_moveColumn_17 : decode cX3_moveColumn 17 = .ok (.invokevirtual 17, 3) := by decide +kernel
theorem dX3_moveColumn_20 : decode cX3_moveColumn 20 = .ok (.invokevirtual 21, 3) := by decide +kernel
theorem dX3_moveColumn_23 : decode cX3_moveColumn 23 = .ok (.iinc 4 1, 3) := by decide +kernel
theorem dX3_moveColumn_26 : decode cX3_moveColumn 26 = .ok (.goto (-23), 3) := by decide +kernel
theorem dX3_moveColumn_29 : decode cX3_moveColumn 29 = .ok (.return_, 1) := by decide +kernel
theorem dX3_copyFrom_0 : decode cX3_copyFrom 0 = .ok (.aload_n 1, 1) := by decide +kernel
theorem dX3_copyFrom_1 : decode cX3_copyFrom 1 = .ok (.getfield 13, 3) := by decide +kernel
theorem dX3_copyFrom_4 : decode cX3_copyFrom 4 = .ok (.arraylength, 1) := by decide +kernel
theorem dX3_copyFrom_5 : decode cX3_copyFrom 5 = .ok (.aload_n 0, 1) := by decide +kernel
theorem dX3_copyFrom_6 : decode cX3_copyFrom 6 = .ok (.getfield 13, 3) := by decide +kernel
theorem dX3_copyFrom_9 : decode cX3_copyFrom 9 = .ok (.arraylength, 1) := by decide +kernel
theorem dX3_copyFrom_10 : decode cX3_copyFrom 10 = .ok (.if_icmp .ne 21, 3) := by decide +kernel
theorem dX3_copyFrom_13 : decode cX3_copyFrom 13 = .ok (.aload_n 1, 1) := by decide +kernel
theorem dX3_copyFrom_14 : decode cX3_copyFrom 14 = .ok (.getfield 13, 3) := by decide +kernel
theorem dX3_copyFrom_17 : decode cX3_copyFrom 17 = .ok (.iconst 0, 1) := by decide +kernel
theorem dX3_copyFrom_18 : decode cX3_copyFrom 18 = .ok (.aload_n 0, 1) := by decide +kernel
theorem dX3_copyFrom_19 : decode cX3_copyFrom 19 = .ok (.getfield 13, 3) := by decide +kernel
theorem dX3_copyFrom_22 : decode cX3_copyFrom 22 = .ok (.iconst 0, 1) := by decide +kernel
theorem dX3_copyFrom_23 : decode cX3_copyFrom 23 = .ok (.aload_n 0, 1) := by decide +kernel
theorem dX3_copyFrom_24 : decode cX3_copyFrom 24 = .ok (.getfield 13, 3) := by decide +kernel
theorem dX3_copyFrom_27 : decode cX3_copyFrom 27 = .ok (.arraylength, 1) := by decide +kernel
theorem dX3_copyFrom_28 : decode cX3_copyFrom 28 = .ok (.invokestatic 33, 3) := by decide +kernel
theorem dX3_copyFrom_31 : decode cX3_copyFrom 31 = .ok (.return_, 1) := by decide +kernel
theorem dX4_init_0 : decode cX4_init 0 = .ok (.aload_n 0, 1) := by decide +kernel
theorem dX4_init_1 : decode cX4_init 1 = .ok (.invokespecial 3, 3) := by decide +kernel
theorem dX4_init_4 : decode cX4_init 4 = .ok (.aload_n 0, 1) := by decide +kernel
theorem dX4_init_5 : decode cX4_init 5 = .ok (.bipush 60, 2) := by decide +kernel
theorem dX4_init_7 : decode cX4_init 7 = .ok (.newarray .char, 2) := by decide +kernel
theorem dX4_init_9 : decode cX4_init 9 = .ok (.putfield 9, 3) := by decide +kernel
theorem dX4_init_12 : decode cX4_init 12 = .ok (.return_, 1) := by decide +kernel
theorem dX4_length_0 : decode cX4_length 0 = .ok (.aload_n 0, 1) := by decide +kernel
theorem dX4_length_1 : decode cX4_length 1 = .ok (.getfield 15, 3) := by decide +kernel
theorem dX4_length_4 : decode cX4_length 4 = .ok (.ireturn, 1) := by decide +kernel
theorem dX5_init_0 : decode cX5_init 0 = .ok (.aload_n 0, 1) := by decide +kernel
theorem dX5_init_1 : decode cX5_init 1 = .ok (.invokespecial 1, 3) := by decide +kernel
theorem dX5_init_4 : decode cX5_init 4 = .ok (.aload_n 0, 1) := by decide +kernel
theorem dX5_init_5 : decode cX5_init 5 = .ok (.new 7, 3) := by decide +kernel
theorem dX5_init_8 : decode cX5_init 8 = .ok (.dup, 1) := by decide +kernel
theorem dX5_init_9 : decode cX5_init 9 = .ok (.invokespecial 9, 3) := by decide +kernel
theorem dX5_init_12 : decode cX5_init 12 = .ok (.putfield 10, 3) := by decide +kernel
theorem dX5_init_15 : decode cX5_init 15 = .ok (.aload_n 0, 1) := by decide +kernel
theorem dX5_init_16 : decode cX5_init 16 = .ok (.new 7, 3) := by decide +kernel
theorem dX5_init_19 : decode cX5_init 19 = .ok (.dup, 1) := by decide +kernel
theorem dX5_init_20 : decode cX5_init 20 = .ok (.invokespecial 9, 3) := by decide +kernel
theorem dX5_init_23 : decode cX5_init 23 = .ok (.putfield 16, 3) := by decide +kernel
theorem dX5_init_26 : decode cX5_init 26 = .ok (.aload_n 0, 1) := by decide +kernel
theorem dX5_init_27 : decode cX5_init 27 = .ok (.new 7, 3) := by decide +kernel
theorem dX5_init_30 : decode cX5_init 30 = .ok (.dup, 1) := by decide +kernel
theorem dX5_init_31 : decode cX5_init 31 = .ok (.invokespecial 9, 3) := by decide +kernel
theorem dX5_init_34 : decode cX5_init 34 = .ok (.putfield 19, 3) := by decide +kernel
theorem dX5_init_37 : decode cX5_init 37 = .ok (.aload_n 0, 1) := by decide +kernel
theorem dX5_init_38 : decode cX5_init 38 = .ok (.new 22, 3) := by decide +kernel
theorem dX5_init_41 : decode cX5_init 41 = .ok (.dup, 1) := by decide +kernel
theorem dX5_init_42 : decode cX5_init 42 = .ok (.invokespecial 24, 3) := by decide +kernel
theorem dX5_init_45 : decode cX5_init 45 = .ok (.putfield 25, 3) := by decide +kernel
theorem dX5_init_48 : decode cX5_init 48 = .ok (.aload_n 0, 1) := by decide +kernel
theorem dX5_init_49 : decode cX5_init 49 = .ok (.new 29, 3) := by decide +kernel
theorem dX5_init_52 : decode cX5_init 52 = .ok (.dup, 1) := by decide +kernel
theorem dX5_init_53 : decode cX5_init 53 = .ok (.invokespecial 31, 3) := by decide +kernel
theorem dX5_init_56 : decode cX5_init 56 = .ok (.putfield 32, 3) := by decide +kernel
theorem dX5_init_59 : decode cX5_init 59 = .ok (.aload_n 0, 1) := by decide +kernel
theorem dX5_init_60 : decode cX5_init 60 = .ok (.new 36, 3) := by decide +kernel
theorem dX5_init_63 : decode cX5_init 63 = .ok (.dup, 1) := by decide +kernel
theorem dX5_init_64 : decode cX5_init 64 = .ok (.invokespecial 38, 3) := by decide +kernel
theorem dX5_init_67 : decode cX5_init 67 = .ok (.putfield 39, 3) := by decide +kernel
theorem dX5_init_70 : decode cX5_init 70 = .ok (.return_, 1) := by decide +kernel
theorem dX5_setHorse_0 : decode cX5_setHorse 0 = .ok (.iload_n 1, 1) := by decide +kernel
theorem dX5_setHorse_1 : decode cX5_setHorse 1 = .ok (.invokestatic 43, 3) := by decide +kernel
theorem dX5_setHorse_4 : decode cX5_setHorse 4 = .ok (.ifCond .eq 5, 3) := by decide +kernel
theorem dX5_setHorse_7 : decode cX5_setHorse 7 = .ok (.iconst (-1), 1) := by decide +kernel
theorem dX5_setHorse_8 : decode cX5_setHorse 8 = .ok (.ireturn, 1) := by decide +kernel
theorem dX5_setHorse_9 : decode cX5_setHorse 9 = .ok (.iload_n 2, 1) := by decide +kernel
theorem dX5_setHorse_10 : decode cX5_setHorse 10 = .ok (.bipush 20, 2) := by decide +kernel
theorem dX5_setHorse_12 : decode cX5_setHorse 12 = .ok (.sipush 150, 3) := by decide +kernel
theorem dX5_setHorse_15 : decode cX5_setHorse 15 = .ok (.invokestatic 47, 3) := by decide +kernel
theorem dX5_setHorse_18 : decode cX5_setHorse 18 = .ok (.ifCond .ne 13, 3) := by decide +kernel
theorem dX5_setHorse_21 : decode cX5_setHorse 21 = .ok (.iload_n 3, 1) := by decide +kernel
theorem dX5_setHorse_22 : decode cX5_setHorse 22 = .ok (.iconst 0, 1) := by decide +kernel
theorem dX5_setHorse_23 : decode cX5_setHorse 23 = .ok (.bipush 9, 2) := by decide +kernel
theorem dX5_setHorse_25 : decode cX5_setHorse 25 = .ok (.invokestatic 47, 3) := by decide +kernel
theorem dX5_setHorse_28 : decode cX5_setHorse 28 = .ok (.ifCond .eq 6, 3) := by decide +kernel
theorem dX5_setHorse_31 : decode cX5_setHorse 31 = .ok (.bipush (-2), 2) := by decide +kernel
theorem dX5_setHorse_33 : decode cX5_setHorse 33 = .ok (.ireturn, 1) := by decide +kernel
theorem dX5_setHorse_34 : decode cX5_setHorse 34 = .ok (.aload_n 0, 1) := by decide +kernel
theorem dX5_setHorse_35 : decode cX5_setHorse 35 = .ok (.getfield 10, 3) := by decide +kernel
theorem dX5_setHorse_38 : decode cX5_setHorse 38 = .ok (.iload_n 1, 1) := by decide +kernel
theorem dX5_setHorse_39 : decode cX5_setHorse 39 = .ok (.iconst 0, 1) := by decide +kernel
theorem dX5_setHorse_40 : decode cX5_setHorse 40 = .ok (.invokevirtual 51, 3) := by decide +kernel
theorem dX5_setHorse_43 : decode cX5_setHorse 43 = .ok (.istore 4, 2) := by decide +kernel
theorem dX5_setHorse_45 : decode cX5_setHorse 45 = .ok (.iload 4, 2) := by decide +kernel
theorem dX5_setHorse_47 : decode cX5_setHorse 47 = .ok (.iload_n 2, 1) := by decide +kernel
theorem dX5_setHorse_48 : decode cX5_setHorse 48 = .ok (.if_icmp .ne 19, 3) := by decide +kernel
theorem dX5_setHorse_51 : decode cX5_setHorse 51 = .ok (.aload_n 0, 1) := by decide +kernel
theorem dX5_setHorse_52 : decode cX5_setHorse 52 = .ok (.getfield 10, 3) := by decide +kernel
theorem dX5_setHorse_55 : decode cX5_setHorse 55 = .ok (.iload_n 1, 1) := by decide +kernel
theorem dX5_setHorse_56 : decode cX5_setHorse 56 = .ok (.iconst 1, 1) := by decide +kernel
theorem dX5_setHorse_57 : decode cX5_setHorse 57 = .ok (.invokevirtual 51, 3) := by decide +kernel
theorem dX5_setHorse_60 : decode cX5_setHorse 60 = .ok (.iload_n 3, 1) := by decide +kernel
theorem dX5_setHorse_61 : decode cX5_setHorse 61 = .ok (.if_icmp .ne 6, 3) := by decide +kernel
theorem dX5_setHorse_64 : decode cX5_setHorse 64 = .ok (.bipush (-5), 2) := by decide +kernel
theorem dX5_setHorse_66 : decode cX5_setHorse 66 = .ok (.ireturn, 1) := by decide +kernel
theorem dX5_setHorse_67 : decode cX5_setHorse 67 = .ok (.aload_n 0, 1) := by decide +kernel
theorem dX5_setHorse_68 : decode cX5_setHorse 68 = .ok (.getfield 25, 3) := by decide +kernel
theorem dX5_setHorse_71 : decode cX5_setHorse 71 = .ok (.aload_n 0, 1) := by decide +kernel
theorem dX5_setHorse_72 : decode cX5_setHorse 72 = .ok (.getfield 10, 3) := by decide +kernel
theorem dX5_setHorse_75 : decode cX5_setHorse 75 = .ok (.invokevirtual 55, 3) := by decide +kernel
theorem dX5_setHorse_78 : decode cX5_setHorse 78 = .ok (.aload_n 0, 1) := by decide +kernel
theorem dX5_setHorse_79 : decode cX5_setHorse 79 = .ok (.getfield 10, 3) := by decide +kernel
theorem dX5_setHorse_82 : decode cX5_setHorse 82 = .ok (.iload_n 1, 1) := by decide +kernel
theorem dX5_setHorse_83 : decode cX5_setHorse 83 = .ok (.iload_n 2, 1) := by decide +kernel
theorem dX5_setHorse_84 : decode cX5_setHorse 84 = .ok (.iload_n 3, 1) := by decide +kernel
theorem dX5_setHorse_85 : decode cX5_setHorse 85 = .ok (.invokevirtual 59, 3) := by decide +kernel
theorem dX5_setHorse_88 : decode cX5_setHorse 88 = .ok (.iload 4, 2) := by decide +kernel
theorem dX5_setHorse_90 : decode cX5_setHorse 90 = .ok (.ireturn, 1) := by decide +kernel
theorem dX5_setRider_0 : decode cX5_setRider 0 = .ok (.iload_n 1, 1) := by decide +kernel
theorem dX5_setRider_1 : decode cX5_setRider 1 = .ok (.invokestatic 63, 3) := by decide +kernel
theorem dX5_setRider_4 : decode cX5_setRider 4 = .ok (.ifCond .eq 5, 3) := by decide +kernel
theorem dX5_setRider_7 : decode cX5_setRider 7 = .ok (.iconst (-1), 1) := by decide +kernel
theorem dX5_setRider_8 : decode cX5_setRider 8 = .ok (.ireturn, 1) := by decide +kernel
theorem dX5_setRider_9 : decode cX5_setRider 9 = .ok (.iload_n 2, 1) := by decide +kernel
theorem dX5_setRider_10 : decode cX5_setRider 10 = .ok (.bipush 20, 2) := by decide +kernel
theorem dX5_setRider_12 : decode cX5_setRider 12 = .ok (.sipush 150, 3) := by decide +kernel
theorem dX5_setRider_15 : decode cX5_setRider 15 = .ok (.invokestatic 47, 3) := by decide +kernel
theorem dX5_setRider_18 : decode cX5_setRider 18 = .ok (.ifCond .ne 13, 3) := by decide +kernel
theorem dX5_setRider_21 : decode cX5_setRider 21 = .ok (.iload_n 3, 1) := by decide +kernel
theorem dX5_setRider_22 : decode cX5_setRider 22 = .ok (.iconst 0, 1) := by decide +kernel
theorem dX5_setRider_23 : decode cX5_setRider 23 = .ok (.bipush 9, 2) := by decide +kernel
theorem dX5_setRider_25 : decode cX5_setRider 25 = .ok (.invokestatic 47, 3) := by decide +kernel
theorem dX5_setRider_28 : decode cX5_setRider 28 = .ok (.ifCond .eq 6, 3) := by decide +kernel
theorem dX5_setRider_31 : decode cX5_setRider 31 = .ok (.bipush (-2), 2) := by decide +kernel
theorem dX5_setRider_33 : decode cX5_setRider 33 = .ok (.ireturn, 1) := by decide +kernel
theorem dX5_setRider_34 : decode cX5_setRider 34 = .ok (.aload_n 0, 1) := by decide +kernel
theorem dX5_setRider_35 : decode cX5_setRider 35 = .ok (.getfield 10, 3) := by decide +kernel
theorem dX5_setRider_38 : decode cX5_setRider 38 = .ok (.iload_n 1, 1) := by decide +kernel
theorem dX5_setRider_39 : decode cX5_setRider 39 = .ok (.iconst 0, 1) := by decide +kernel
theorem dX5_setRider_40 : decode cX5_setRider 40 = .ok (.invokevirtual 66, 3) := by decide +kernel
theorem dX5_setRider_43 : decode cX5_setRider 43 = .ok (.istore 4, 2) := by decide +kernel
theorem dX5_setRider_45 : decode cX5_setRider 45 = .ok (.aload_n 0, 1) := by decide +kernel
theorem dX5_setRider_46 : decode cX5_setRider 46 = .ok (.getfield 25, 3) := by decide +kernel
theorem dX5_setRider_49 : decode cX5_setRider 49 = .ok (.aload_n 0, 1) := by decide +kernel
theorem dX5_setRider_50 : decode cX5_setRider 50 = .ok (.getfield 10, 3) := by decide +kernel
theorem dX5_setRider_53 : decode cX5_setRider 53 = .ok (.invokevirtual 55, 3) := by decide +kernel
theorem dX5_setRider_56 : decode cX5_setRider 56 = .ok (.aload_n 0, 1) := by decide +kernel
theorem dX5_setRider_57 : decode cX5_setRider 57 = .ok (.getfield 10, 3) := by decide +kernel
theorem dX5_setRider_60 : decode cX5_setRider 60 = .ok (.iload_n 1, 1) := by decide +kernel
theorem dX5_setRider_61 : decode cX5_setRider 61 = .ok (.iload_n 2, 1) := by decide +kernel
theorem dX5_setRider_62 : decode cX5_setRider 62 = .ok (.iload_n 3, 1) := by decide +kernel
theorem dX5_setRider_63 : decode cX5_setRider 63 = .ok (.invokevirtual 69, 3) := by decide +kernel
theorem dX5_setRider_66 : decode cX5_setRider 66 = .ok (.iload 4, 2) := by decide +kernel
theorem dX5_setRider_68 : decode cX5_setRider 68 = .ok (.ireturn, 1) := by decide +kernel
theorem dX5_set_0 : decode cX5_set 0 = .ok (.iload_n 1, 1) := by decide +kernel
theorem dX5_set_1 : decode cX5_set 1 = .ok (.iconst 0, 1) := by decide +kernel
theorem dX5_set_2 : decode cX5_set 2 = .ok (.iconst 4, 1) := by decide +kernel
theorem dX5_set_3 : decode cX5_set 3 = .ok (.invokestatic 47, 3) := by decide +kernel
theorem dX5_set_6 : decode cX5_set 6 = .ok (.ifCond .eq 5, 3) := by decide +kernel
theorem dX5_set_9 : decode cX5_set 9 = .ok (.iconst (-1), 1) := by decide +kernel
theorem dX5_set_10 : decode cX5_set 10 = .ok (.ireturn, 1) := by decide +kernel
theorem dX5_set_11 : decode cX5_set 11 = .ok (.iload_n 2, 1) := by decide +kernel
theorem dX5_set_12 : decode cX5_set 12 = .ok (.getstatic 72, 3) := by decide +kernel
theorem dX5_set_15 : decode cX5_set 15 = .ok (.iload_n 1, 1) := by decide +kernel
theorem dX5_set_16 : decode cX5_set 16 = .ok (.invokestatic 76, 3) := by decide +kernel
theorem dX5_set_19 : decode cX5_set 19 = .ok (.getstatic 80, 3) := by decide +kernel
theorem dX5_set_22 : decode cX5_set 22 = .ok (.iload_n 1, 1) := by decide +kernel
theorem dX5_set_23 : decode cX5_set 23 = .ok (.invokestatic 76, 3) := by decide +kernel
theorem dX5_set_26 : decode cX5_set 26 = .ok (.invokestatic 47, 3) := by decide +kernel
theorem dX5_set_29 : decode cX5_set 29 = .ok (.ifCond .eq 6, 3) := by decide +kernel
theorem dX5_set_32 : decode cX5_set 32 = .ok (.bipush (-2), 2) := by decide +kernel
theorem dX5_set_34 : decode cX5_set 34 = .ok (.ireturn, 1) := by decide +kernel
theorem dX5_set_35 : decode cX5_set 35 = .ok (.aload_n 0, 1) := by decide +kernel
theorem dX5_set_36 : decode cX5_set 36 = .ok (.getfield 10, 3) := by decide +kernel
theorem dX5_set_39 : decode cX5_set 39 = .ok (.iload_n 1, 1) := by decide +kernel
theorem dX5_set_40 : decode cX5_set 40 = .ok (.invokevirtual 83, 3) := by decide +kernel
theorem dX5_set_43 : decode cX5_set 43 = .ok (.istore_n 3, 1) := by decide +kernel
theorem dX5_set_44 : decode cX5_set 44 = .ok (.iload_n 3, 1) := by decide +kernel
theorem dX5_set_45 : decode cX5_set 45 = .ok (.iload_n 2, 1) := by decide +kernel
theorem dX5_set_46 : decode cX5_set 46 = .ok (.if_icmp .ne 6, 3) := by decide +kernel
theorem dX5_set_49 : decode cX5_set 49 = .ok (.bipush (-5), 2) := by decide +kernel
theorem dX5_set_51 : decode cX5_set 51 = .ok (.ireturn, 1) := by decide +kernel
theorem dX5_set_52 : decode cX5_set 52 = .ok (.aload_n 0, 1) := by decide +kernel
theorem dX5_set_53 : decode cX5_set 53 = .ok (.getfield 25, 3) := by decide +kernel
theorem dX5_set_56 : decode cX5_set 56 = .ok (.aload_n 0, 1) := by decide +kernel
theorem dX5_set_57 : decode cX5_set 57 = .ok (.getfield 10, 3) := by decide +kernel
theorem dX5_set_60 : decode cX5_set 60 = .ok (.invokevirtual 55, 3) := by decide +kernel
theorem dX5_set_63 : decode cX5_set 63 = .ok (.aload_n 0, 1) := by decide +kernel
theorem dX5_set_64 : decode cX5_set 64 = .ok (.getfield 10, 3) := by decide +kernel
theorem dX5_set_67 : decode cX5_set 67 = .ok (.iload_n 1, 1) := by decide +kernel
theorem dX5_set_68 : decode cX5_set 68 = .ok (.iload_n 2, 1) := by decide +kernel
theorem dX5_set_69 : decode cX5_set 69 = .ok (.invokevirtual 87, 3) := by decide +kernel
theorem dX5_set_72 : decode cX5_set 72 = .ok (.iload_n 3, 1) := by decide +kernel
theorem dX5_set_73 : decode cX5_set 73 = .ok (.ireturn, 1) := by decide +kernel
theorem dX5_book_0 : decode cX5_book 0 = .ok (.iload_n 2, 1) := by decide +kernel
theorem dX5_book_1 : decode cX5_book 1 = .ok (.invokestatic 91, 3) := by decide +kernel
theorem dX5_book_4 : decode cX5_book 4 = .ok (.ifCond .ne 10, 3) := by decide +kernel
theorem dX5_book_7 : decode cX5_book 7 = .ok (.iload_n 3, 1) := by decide +kernel
theorem dX5_book_8 : decode cX5_book 8 = .ok (.invokestatic 63, 3) := by decide +kernel
theorem dX5_book_11 : decode cX5_book 11 = .ok (.ifCond .eq 5, 3) := by decide +kernel
theorem dX5_book_14 : decode cX5_book 14 = .ok (.iconst (-1), 1) := by decide +kernel
theorem dX5_book_15 : decode cX5_book 15 = .ok (.ireturn, 1) := by decide +kernel
theorem dX5_book_16 : decode cX5_book 16 = .ok (.iload_n 1, 1) := by decide +kernel
theorem dX5_book_17 : decode cX5_book 17 = .ok (.iconst 0, 1) := by decide +kernel
theorem dX5_book_18 : decode cX5_book 18 = .ok (.bipush 99, 2) := by decide +kernel
theorem dX5_book_20 : decode cX5_book 20 = .ok (.invokestatic 47, 3) := by decide +kernel
theorem dX5_book_23 : decode cX5_book 23 = .ok (.ifCond .eq 6, 3) := by decide +kernel
theorem dX5_book_26 : decode cX5_book 26 = .ok (.bipush (-2), 2) := by decide +kernel
theorem dX5_book_28 : decode cX5_book 28 = .ok (.ireturn, 1) := by decide +kernel
theorem dX5_book_29 : decode cX5_book 29 = .ok (.aload_n 0, 1) := by decide +kernel
theorem dX5_book_30 : decode cX5_book 30 = .ok (.getfield 10, 3) := by decide +kernel
theorem dX5_book_33 : decode cX5_book 33 = .ok (.iload_n 1, 1) := by decide +kernel
theorem dX5_book_34 : decode cX5_book 34 = .ok (.iload_n 2, 1) := by decide +kernel
theorem dX5_book_35 : decode cX5_book 35 = .ok (.iload_n 3, 1) := by decide +kernel
theorem dX5_book_36 : decode cX5_book 36 = .ok (.invokevirtual 94, 3) := by decide +kernel
theorem dX5_book_39 : decode cX5_book 39 = .ok (.istore 4, 2) := by decide +kernel
theorem dX5_book_41 : decode cX5_book 41 = .ok (.iload 4, 2) := by decide +kernel
theorem dX5_book_43 : decode cX5_book 43 = .ok (.ifCond .eq 6, 3) := by decide +kernel
theorem dX5_book_46 : decode cX5_book 46 = .ok (.iload 4, 2) := by decide +kernel
theorem dX5_book_48 : decode cX5_book 48 = .ok (.ireturn, 1) := by decide +kernel
theorem dX5_book_49 : decode cX5_book 49 = .ok (.aload_n 0, 1) := by decide +kernel
theorem dX5_book_50 : decode cX5_book 50 = .ok (.getfield 25, 3) := by decide +kernel
theorem dX5_book_53 : decode cX5_book 53 = .ok (.aload_n 0, 1) := by decide +kernel
theorem dX5_book_54 : decode cX5_book 54 = .ok (.getfield 10, 3) := by decide +kernel
theorem dX5_book_57 : decode cX5_book 57 = .ok (.invokevirtual 55, 3) := by decide +kernel
theorem dX5_book_60 : decode cX5_book 60 = .ok (.aload_n 0, 1) := by decide +kernel
theorem dX5_book_61 : decode cX5_book 61 = .ok (.getfield 10, 3) := by decide +kernel
theorem dX5_book_64 : decode cX5_book 64 = .ok (.iload_n 1, 1) := by decide +kernel
theorem dX5_book_65 : decode cX5_book 65 = .ok (.iload_n 2, 1) := by decide +kernel
theorem dX5_book_66 : decode cX5_book 66 = .ok (.iload_n 3, 1) := by decide +kernel
theorem dX5_book_67 : decode cX5_book 67 = .ok (.invokevirtual 98, 3) := by decide +kernel
theorem dX5_book_70 : decode cX5_book 70 = .ok (.aload_n 0, 1) := by decide +kernel
theorem dX5_book_71 : decode cX5_book 71 = .ok (.getfield 10, 3) := by decide +kernel
theorem dX5_book_74 : decode cX5_book 74 = .ok (.iload_n 1, 1) := by decide +kernel
theorem dX5_book_75 : decode cX5_book 75 = .ok (.iload_n 2, 1) := by decide +kernel
theorem dX5_book_76 : decode cX5_book 76 = .ok (.invokevirtual 101, 3) := by decide +kernel
theorem dX5_book_79 : decode cX5_book 79 = .ok (.ireturn, 1) := by decide +kernel
theorem dX5_cancel_0 : decode cX5_cancel 0 = .ok (.iload_n 2, 1) := by decide +kernel
theorem dX5_cancel_1 : decode cX5_cancel 1 = .ok (.invokestatic 63, 3) := by decide +kernel
theorem dX5_cancel_4 : decode cX5_cancel 4 = .ok (.ifCond .eq 5, 3) := by decide +kernel
theorem dX5_cancel_7 : decode cX5_cancel 7 = .ok (.iconst (-1), 1) := by decide +kernel
theorem dX5_cancel_8 : decode cX5_cancel 8 = .ok (.ireturn, 1) := by decide +kernel
theorem dX5_cancel_9 : decode cX5_cancel 9 = .ok (.iload_n 1, 1) := by decide +kernel
theorem dX5_cancel_10 : decode cX5_cancel 10 = .ok (.iconst 0, 1) := by decide +kernel
theorem dX5_cancel_11 : decode cX5_cancel 11 = .ok (.bipush 99, 2) := by decide +kernel
theorem dX5_cancel_13 : decode cX5_cancel 13 = .ok (.invokestatic 47, 3) := by decide +kernel
theorem dX5_cancel_16 : decode cX5_cancel 16 = .ok (.ifCond .eq 6, 3) := by decide +kernel
theorem dX5_cancel_19 : decode cX5_cancel 19 = .ok (.bipush (-2), 2) := by decide +kernel
theorem dX5_cancel_21 : decode cX5_cancel 21 = .ok (.ireturn, 1) := by decide +kernel
theorem dX5_cancel_22 : decode cX5_cancel 22 = .ok (.aload_n 0, 1) := by decide +kernel
theorem dX5_cancel_23 : decode cX5_cancel 23 = .ok (.getfield 10, 3) := by decide +kernel
theorem dX5_cancel_26 : decode cX5_cancel 26 = .ok (.iload_n 1, 1) := by decide +kernel
theorem dX5_cancel_27 : decode cX5_cancel 27 = .ok (.iload_n 2, 1) := by decide +kernel
theorem dX5_cancel_28 : decode cX5_cancel 28 = .ok (.invokevirtual 104, 3) := by decide +kernel
theorem dX5_cancel_31 : decode cX5_cancel 31 = .ok (.istore_n 3, 1) := by decide +kernel
theorem dX5_cancel_32 : decode cX5_cancel 32 = .ok (.iload_n 3, 1) := by decide +kernel
theorem dX5_cancel_33 : decode cX5_cancel 33 = .ok (.bipush (-5), 2) := by decide +kernel
theorem dX5_cancel_35 : decode cX5_cancel 35 = .ok (.if_icmp .ne 6, 3) := by decide +kernel
theorem dX5_cancel_38 : decode cX5_cancel 38 = .ok (.bipush (-5), 2) := by decide +kernel
theorem dX5_cancel_40 : decode cX5_cancel 40 = .ok (.ireturn, 1) := by decide +kernel
theorem dX5_cancel_41 : decode cX5_cancel 41 = .ok (.aload_n 0, 1) := by decide +kernel
theorem dX5_cancel_42 : decode cX5_cancel 42 = .ok (.getfield 10, 3) := by decide +kernel
theorem dX5_cancel_45 : decode cX5_cancel 45 = .ok (.iload_n 3, 1) := by decide +kernel
theorem dX5_cancel_46 : decode cX5_cancel 46 = .ok (.invokevirtual 107, 3) := by decide +kernel
theorem dX5_cancel_49 : decode cX5_cancel 49 = .ok (.istore 4, 2) := by decide +kernel
theorem dX5_cancel_51 : decode cX5_cancel 51 = .ok (.aload_n 0, 1) := by decide +kernel
theorem dX5_cancel_52 : decode cX5_cancel 52 = .ok (.getfield 25, 3) := by decide +kernel
theorem dX5_cancel_55 : decode cX5_cancel 55 = .ok (.aload_n 0, 1) := by decide +kernel
theorem dX5_cancel_56 : decode cX5_cancel 56 = .ok (.getfield 10, 3) := by decide +kernel
theorem dX5_cancel_59 : decode cX5_cancel 59 = .ok (.invokevirtual 55, 3) := by decide +kernel
theorem dX5_cancel_62 : decode cX5_cancel 62 = .ok (.aload_n 0, 1) := by decide +kernel
theorem dX5_cancel_63 : decode cX5_cancel 63 = .ok (.getfield 10, 3) := by decide +kernel
theorem dX5_cancel_66 : decode cX5_cancel 66 = .ok (.iload_n 3, 1) := by decide +kernel
theorem dX5_cancel_67 : decode cX5_cancel 67 = .ok (.invokevirtual 110, 3) := by decide +kernel
theorem dX5_cancel_70 : decode cX5_cancel 70 = .ok (.iload 4, 2) := by decide +kernel
theorem dX5_cancel_72 : decode cX5_cancel 72 = .ok (.ireturn, 1) := by decide +kernel
theorem dX5_pass_0 : decode cX5_pass 0 = .ok (.iload_n 1, 1) := by decide +kernel
theorem dX5_pass_1 : decode cX5_pass 1 = .ok (.iconst 1, 1) := by decide +kernel
theorem dX5_pass_2 : decode cX5_pass 2 = .ok (.bipush 99, 2) := by decide +kernel
theorem dX5_pass_4 : decode cX5_pass 4 = .ok (.invokestatic 47, 3) := by decide +kernel
theorem dX5_pass_7 : decode cX5_pass 7 = .ok (.ifCond .eq 6, 3) := by decide +kernel
theorem dX5_pass_10 : decode cX5_pass 10 = .ok (.bipush (-2), 2) := by decide +kernel
theorem dX5_pass_12 : decode cX5_pass 12 = .ok (.ireturn, 1) := by decide +kernel
theorem dX5_pass_13 : decode cX5_pass 13 = .ok (.aload_n 0, 1) := by decide +kernel
theorem dX5_pass_14 : decode cX5_pass 14 = .ok (.getfield 10, 3) := by decide +kernel
theorem dX5_pass_17 : decode cX5_pass 17 = .ok (.invokevirtual 114, 3) := by decide +kernel
theorem dX5_pass_20 : decode cX5_pass 20 = .ok (.sipush 9999, 3) := by decide +kernel
theorem dX5_pass_23 : decode cX5_pass 23 = .ok (.iload_n 1, 1) := by decide +kernel
theorem dX5_pass_24 : decode cX5_pass 24 = .ok (.isub, 1) := by decide +kernel
theorem dX5_pass_25 : decode cX5_pass 25 = .ok (.if_icmp .le 6, 3) := by decide +kernel
theorem dX5_pass_28 : decode cX5_pass 28 = .ok (.bipush (-3), 2) := by decide +kernel
theorem dX5_pass_30 : decode cX5_pass 30 = .ok (.ireturn, 1) := by decide +kernel
theorem dX5_pass_31 : decode cX5_pass 31 = .ok (.aload_n 0, 1) := by decide +kernel
theorem dX5_pass_32 : decode cX5_pass 32 = .ok (.getfield 25, 3) := by decide +kernel
theorem dX5_pass_35 : decode cX5_pass 35 = .ok (.aload_n 0, 1) := by decide +kernel
theorem dX5_pass_36 : decode cX5_pass 36 = .ok (.getfield 10, 3) := by decide +kernel
theorem dX5_pass_39 : decode cX5_pass 39 = .ok (.invokevirtual 55, 3) := by decide +kernel
theorem dX5_pass_42 : decode cX5_pass 42 = .ok (.aload_n 0, 1) := by decide +kernel
theorem dX5_pass_43 : decode cX5_pass 43 = .ok (.getfield 10, 3) := by decide +kernel
theorem dX5_pass_46 : decode cX5_pass 46 = .ok (.bipush 6, 2) := by decide +kernel
theorem dX5_pass_48 : decode cX5_pass 48 = .ok (.invokevirtual 118, 3) := by decide +kernel
theorem dX5_pass_51 : decode cX5_pass 51 = .ok (.istore_n 2, 1) := by decide +kernel
theorem dX5_pass_52 : decode cX5_pass 52 = .ok (.iconst 0, 1) := by decide +kernel
theorem dX5_pass_53 : decode cX5_pass 53 = .ok (.istore_n 3, 1) := by decide +kernel
theorem dX5_pass_54 : decode cX5_pass 54 = .ok (.iload_n 3, 1) := by decide +kernel
theorem dX5_pass_55 : decode cX5_pass 55 = .ok (.iload_n 1, 1) := by decide +kernel
theorem dX5_pass_56 : decode cX5_pass 56 = .ok (.if_icmp .ge 17, 3) := by decide +kernel
theorem dX5_pass_59 : decode cX5_pass 59 = .ok (.aload_n 0, 1) := by decide +kernel
theorem dX5_pass_60 : decode cX5_pass 60 = .ok (.getfield 10, 3) := by decide +kernel
theorem dX5_pass_63 : decode cX5_pass 63 = .ok (.iconst 1, 1) := by decide +kernel
theorem dX5_pass_64 : decode cX5_pass 64 = .ok (.invokevirtual 121, 3) := by decide +kernel
theorem dX5_pass_67 : decode cX5_pass 67 = .ok (.iinc 3 1, 3) := by decide +kernel
theorem dX5_pass_70 : decode cX5_pass 70 = .ok (.goto (-16), 3) := by decide +kernel
theorem dX5_pass_73 : decode cX5_pass 73 = .ok (.aload_n 0, 1) := by decide +kernel
theorem dX5_pass_74 : decode cX5_pass 74 = .ok (.getfield 10, 3) := by decide +kernel
theorem dX5_pass_77 : decode cX5_pass 77 = .ok (.bipush 6, 2) := by decide +kernel
theorem dX5_pass_79 : decode cX5_pass 79 = .ok (.invokevirtual 118, 3) := by decide +kernel
theorem dX5_pass_82 : decode cX5_pass 82 = .ok (.iload_n 2, 1) := by decide +kernel
theorem dX5_pass_83 : decode cX5_pass 83 = .ok (.isub, 1) := by decide +kernel
theorem dX5_pass_84 : decode cX5_pass 84 = .ok (.ireturn, 1) := by decide +kernel
theorem dX5_undo_0 : decode cX5_undo 0 = .ok (.aload_n 0, 1) := by decide +kernel
theorem dX5_undo_1 : decode cX5_undo 1 = .ok (.getfield 25, 3) := by decide +kernel
theorem dX5_undo_4 : decode cX5_undo 4 = .ok (.invokevirtual 154, 3) := by decide +kernel
theorem dX5_undo_7 : decode cX5_undo 7 = .ok (.ifCond .ne 6, 3) := by decide +kernel
theorem dX5_undo_10 : decode cX5_undo 10 = .ok (.bipush (-5), 2) := by decide +kernel
theorem dX5_undo_12 : decode cX5_undo 12 = .ok (.ireturn, 1) := by decide +kernel
theorem dX5_undo_13 : decode cX5_undo 13 = .ok (.aload_n 0, 1) := by decide +kernel
theorem dX5_undo_14 : decode cX5_undo 14 = .ok (.getfield 25, 3) := by decide +kernel
theorem dX5_undo_17 : decode cX5_undo 17 = .ok (.aload_n 0, 1) := by decide +kernel
theorem dX5_undo_18 : decode cX5_undo 18 = .ok (.getfield 10, 3) := by decide +kernel
theorem dX5_undo_21 : decode cX5_undo 21 = .ok (.invokevirtual 155, 3) := by decide +kernel
theorem dX5_undo_24 : decode cX5_undo 24 = .ok (.aload_n 0, 1) := by decide +kernel
theorem dX5_undo_25 : decode cX5_undo 25 = .ok (.getfield 25, 3) := by decide +kernel
theorem dX5_undo_28 : decode cX5_undo 28 = .ok (.invokevirtual 154, 3) := by decide +kernel
theorem dX5_undo_31 : decode cX5_undo 31 = .ok (.ireturn, 1) := by decide +kernel
theorem dX5_horse_0 : decode cX5_horse 0 = .ok (.iload_n 1, 1) := by decide +kernel
theorem dX5_horse_1 : decode cX5_horse 1 = .ok (.invokestatic 43, 3) := by decide +kernel
theorem dX5_horse_4 : decode cX5_horse 4 = .ok (.ifCond .eq 5, 3) := by decide +kernel
theorem dX5_horse_7 : decode cX5_horse 7 = .ok (.iconst (-1), 1) := by decide +kernel
theorem dX5_horse_8 : decode cX5_horse 8 = .ok (.ireturn, 1) := by decide +kernel
theorem dX5_horse_9 : decode cX5_horse 9 = .ok (.iload_n 2, 1) := by decide +kernel
theorem dX5_horse_10 : decode cX5_horse 10 = .ok (.iconst 0, 1) := by decide +kernel
theorem dX5_horse_11 : decode cX5_horse 11 = .ok (.bipush 8, 2) := by decide +kernel
theorem dX5_horse_13 : decode cX5_horse 13 = .ok (.invokestatic 47, 3) := by decide +kernel
theorem dX5_horse_16 : decode cX5_horse 16 = .ok (.ifCond .eq 8, 3) := by decide +kernel
theorem dX5_horse_19 : decode cX5_horse 19 = .ok (.bipush (-2), 2) := by decide +kernel
theorem dX5_horse_21 : decode cX5_horse 21 = .ok (.goto 12, 3) := by decide +kernel
theorem dX5_horse_24 : decode cX5_horse 24 = .ok (.aload_n 0, 1) := by decide +kernel
theorem dX5_horse_25 : decode cX5_horse 25 = .ok (.getfield 10, 3) := by decide +kernel
theorem dX5_horse_28 : decode cX5_horse 28 = .ok (.iload_n 1, 1) := by decide +kernel
theorem dX5_horse_29 : decode cX5_horse 29 = .ok (.iload_n 2, 1) := by decide +kernel
theorem dX5_horse_30 : decode cX5_horse 30 = .ok (.invokevirtual 51, 3) := by decide +kernel
theorem dX5_horse_33 : decode cX5_horse 33 = .ok (.ireturn, 1) := by decide +kernel
theorem dX5_rider_0 : decode cX5_rider 0 = .ok (.iload_n 1, 1) := by decide +kernel
theorem dX5_rider_1 : decode cX5_rider 1 = .ok (.invokestatic 63, 3) := by decide +kernel
theorem dX5_rider_4 : decode cX5_rider 4 = .ok (.ifCond .eq 5, 3) := by decide +kernel
theorem dX5_rider_7 : decode cX5_rider 7 = .ok (.iconst (-1), 1) := by decide +kernel
theorem dX5_rider_8 : decode cX5_rider 8 = .ok (.ireturn, 1) := by decide +kernel
theorem dX5_rider_9 : decode cX5_rider 9 = .ok (.iload_n 2, 1) := by decide +kernel
theorem dX5_rider_10 : decode cX5_rider 10 = .ok (.iconst 0, 1) := by decide +kernel
theorem dX5_rider_11 : decode cX5_rider 11 = .ok (.bipush 9, 2) := by decide +kernel
theorem dX5_rider_13 : decode cX5_rider 13 = .ok (.invokestatic 47, 3) := by decide +kernel
theorem dX5_rider_16 : decode cX5_rider 16 = .ok (.ifCond .eq 8, 3) := by decide +kernel
theorem dX5_rider_19 : decode cX5_rider 19 = .ok (.bipush (-2), 2) := by decide +kernel
theorem dX5_rider_21 : decode cX5_rider 21 = .ok (.goto 12, 3) := by decide +kernel
theorem dX5_rider_24 : decode cX5_rider 24 = .ok (.aload_n 0, 1) := by decide +kernel
theorem dX5_rider_25 : decode cX5_rider 25 = .ok (.getfield 10, 3) := by decide +kernel
theorem dX5_rider_28 : decode cX5_rider 28 = .ok (.iload_n 1, 1) := by decide +kernel
theorem dX5_rider_29 : decode cX5_rider 29 = .ok (.iload_n 2, 1) := by decide +kernel
theorem dX5_rider_30 : decode cX5_rider 30 = .ok (.invokevirtual 66, 3) := by decide +kernel
theorem dX5_rider_33 : decode cX5_rider 33 = .ok (.ireturn, 1) := by decide +kernel
theorem dX5_lesson_0 : decode cX5_lesson 0 = .ok (.iload_n 2, 1) := by decide +kernel
theorem dX5_lesson_1 : decode cX5_lesson 1 = .ok (.invokestatic 91, 3) := by decide +kernel
theorem dX5_lesson_4 : decode cX5_lesson 4 = .ok (.ifCond .eq 5, 3) := by decide +kernel
theorem dX5_lesson_7 : decode cX5_lesson 7 = .ok (.iconst (-1), 1) := by decide +kernel
theorem dX5_lesson_8 : decode cX5_lesson 8 = .ok (.ireturn, 1) := by decide +kernel
theorem dX5_lesson_9 : decode cX5_lesson 9 = .ok (.iload_n 1, 1) := by decide +kernel
theorem dX5_lesson_10 : decode cX5_lesson 10 = .ok (.iconst 0, 1) := by decide +kernel
theorem dX5_lesson_11 : decode cX5_lesson 11 = .ok (.bipush 99, 2) := by decide +kernel
theorem dX5_lesson_13 : decode cX5_lesson 13 = .ok (.invokestatic 47, 3) := by decide +kernel
theorem dX5_lesson_16 : decode cX5_lesson 16 = .ok (.ifCond .ne 12, 3) := by decide +kernel
theorem dX5_lesson_19 : decode cX5_lesson 19 = .ok (.iload_n 3, 1) := by decide +kernel
theorem dX5_lesson_20 : decode cX5_lesson 20 = .ok (.iconst 0, 1) := by decide +kernel
theorem dX5_lesson_21 : decode cX5_lesson 21 = .ok (.iconst 2, 1) := by decide +kernel
theorem dX5_lesson_22 : decode cX5_lesson 22 = .ok (.invokestatic 47, 3) := by decide +kernel
theorem dX5_lesson_25 : decode cX5_lesson 25 = .ok (.ifCond .eq 6, 3) := by decide +kernel
theorem dX5_lesson_28 : decode cX5_lesson 28 = .ok (.bipush (-2), 2) := by decide +kernel
theorem dX5_lesson_30 : decode cX5_lesson 30 = .ok (.ireturn, 1) := by decide +kernel
theorem dX5_lesson_31 : decode cX5_lesson 31 = .ok (.iload_n 3, 1) := by decide +kernel
theorem dX5_lesson_32 : decode cX5_lesson 32 = .ok (.iconst 2, 1) := by decide +kernel
theorem dX5_lesson_33 : decode cX5_lesson 33 = .ok (.if_icmp .ne 13, 3) := by decide +kernel
theorem dX5_lesson_36 : decode cX5_lesson 36 = .ok (.aload_n 0, 1) := by decide +kernel
theorem dX5_lesson_37 : decode cX5_lesson 37 = .ok (.getfield 10, 3) := by decide +kernel
theorem dX5_lesson_40 : decode cX5_lesson 40 = .ok (.iload_n 1, 1) := by decide +kernel
theorem dX5_lesson_41 : decode cX5_lesson 41 = .ok (.iload_n 2, 1) := by decide +kernel
theorem dX5_lesson_42 : decode cX5_lesson 42 = .ok (.invokevirtual 162, 3) := by decide +kernel
theorem dX5_lesson_45 : decode cX5_lesson 45 = .ok (.ireturn, 1) := by decide +kernel
theorem dX5_lesson_46 : decode cX5_lesson 46 = .ok (.aload_n 0, 1) := by decide +kernel
theorem dX5_lesson_47 : decode cX5_lesson 47 = .ok (.getfield 10, 3) := by decide +kernel
theorem dX5_lesson_50 : decode cX5_lesson 50 = .ok (.iload_n 1, 1) := by decide +kernel
theorem dX5_lesson_51 : decode cX5_lesson 51 = .ok (.iload_n 2, 1) := by decide +kernel
theorem dX5_lesson_52 : decode cX5_lesson 52 = .ok (.invokevirtual 101, 3) := by decide +kernel
theorem dX5_lesson_55 : decode cX5_lesson 55 = .ok (.istore 4, 2) := by decide +kernel
theorem dX5_lesson_57 : decode cX5_lesson 57 = .ok (.iload_n 3, 1) := by decide +kernel
theorem dX5_lesson_58 : decode cX5_lesson 58 = .ok (.ifCond .ne 8, 3) := by decide +kernel
theorem dX5_lesson_61 : decode cX5_lesson 61 = .ok (.iload 4, 2) := by decide +kernel
theorem dX5_lesson_63 : decode cX5_lesson 63 = .ok (.goto 13, 3) := by decide +kernel
theorem dX5_lesson_66 : decode cX5_lesson 66 = .ok (.getstatic 165, 3) := by decide +kernel
theorem dX5_lesson_69 : decode cX5_lesson 69 = .ok (.iload_n 2, 1) := by decide +kernel
theorem dX5_lesson_70 : decode cX5_lesson 70 = .ok (.invokestatic 76, 3) := by decide +kernel
theorem dX5_lesson_73 : decode cX5_lesson 73 = .ok (.iload 4, 2) := by decide +kernel
theorem dX5_lesson_75 : decode cX5_lesson 75 = .ok (.isub, 1) := by decide +kernel
theorem dX5_lesson_76 : decode cX5_lesson 76 = .ok (.ireturn, 1) := by decide +kernel
theorem dX5_fall_0 : decode cX5_fall 0 = .ok (.iload_n 1, 1) := by decide +kernel
theorem dX5_fall_1 : decode cX5_fall 1 = .ok (.ifCond .lt 12, 3) := by decide +kernel
theorem dX5_fall_4 : decode cX5_fall 4 = .ok (.iload_n 2, 1) := by decide +kernel
theorem dX5_fall_5 : decode cX5_fall 5 = .ok (.iconst 0, 1) := by decide +kernel
theorem dX5_fall_6 : decode cX5_fall 6 = .ok (.iconst 2, 1) := by decide +kernel
theorem dX5_fall_7 : decode cX5_fall 7 = .ok (.invokestatic 47, 3) := by decide +kernel
theorem dX5_fall_10 : decode cX5_fall 10 = .ok (.ifCond .eq 6, 3) := by decide +kernel
theorem dX5_fall_13 : decode cX5_fall 13 = .ok (.bipush (-2), 2) := by decide +kernel
theorem dX5_fall_15 : decode cX5_fall 15 = .ok (.ireturn, 1) := by decide +kernel
theorem dX5_fall_16 : decode cX5_fall 16 = .ok (.aload_n 0, 1) := by decide +kernel
theorem dX5_fall_17 : decode cX5_fall 17 = .ok (.getfield 10, 3) := by decide +kernel
theorem dX5_fall_20 : decode cX5_fall 20 = .ok (.iload_n 1, 1) := by decide +kernel
theorem dX5_fall_21 : decode cX5_fall 21 = .ok (.iload_n 2, 1) := by decide +kernel
theorem dX5_fall_22 : decode cX5_fall 22 = .ok (.invokevirtual 168, 3) := by decide +kernel
theorem dX5_fall_25 : decode cX5_fall 25 = .ok (.ireturn, 1) := by decide +kernel
theorem dX5_reason_0 : decode cX5_reason 0 = .ok (.iload_n 1, 1) := by decide +kernel
theorem dX5_reason_1 : decode cX5_reason 1 = .ok (.invokestatic 43, 3) := by decide +kernel
theorem dX5_reason_4 : decode cX5_reason 4 = .ok (.ifCond .ne 10, 3) := by decide +kernel
theorem dX5_reason_7 : decode cX5_reason 7 = .ok (.iload_n 2, 1) := by decide +kernel
theorem dX5_reason_8 : decode cX5_reason 8 = .ok (.invokestatic 63, 3) := by decide +kernel
theorem dX5_reason_11 : decode cX5_reason 11 = .ok (.ifCond .eq 5, 3) := by decide +kernel
theorem dX5_reason_14 : decode cX5_reason 14 = .ok (.iconst (-1), 1) := by decide +kernel
theorem dX5_reason_15 : decode cX5_reason 15 = .ok (.ireturn, 1) := by decide +kernel
theorem dX5_reason_16 : decode cX5_reason 16 = .ok (.aload_n 0, 1) := by decide +kernel
theorem dX5_reason_17 : decode cX5_reason 17 = .ok (.getfield 10, 3) := by decide +kernel
theorem dX5_reason_20 : decode cX5_reason 20 = .ok (.iload_n 1, 1) := by decide +kernel
theorem dX5_reason_21 : decode cX5_reason 21 = .ok (.iload_n 2, 1) := by decide +kernel
theorem dX5_reason_22 : decode cX5_reason 22 = .ok (.aload_n 0, 1) := by decide +kernel
theorem dX5_reason_23 : decode cX5_reason 23 = .ok (.getfield 10, 3) := by decide +kernel
theorem dX5_reason_26 : decode cX5_reason 26 = .ok (.invokevirtual 171, 3) := by decide +kernel
theorem dX5_reason_29 : decode cX5_reason 29 = .ok (.invokevirtual 174, 3) := by decide +kernel
theorem dX5_reason_32 : decode cX5_reason 32 = .ok (.ireturn, 1) := by decide +kernel
theorem dX5_best_0 : decode cX5_best 0 = .ok (.iload_n 1, 1) := by decide +kernel
theorem dX5_best_1 : decode cX5_best 1 = .ok (.invokestatic 63, 3) := by decide +kernel
theorem dX5_best_4 : decode cX5_best 4 = .ok (.ifCond .eq 5, 3) := by decide +kernel
theorem dX5_best_7 : decode cX5_best 7 = .ok (.iconst (-1), 1) := by decide +kernel
theorem dX5_best_8 : decode cX5_best 8 = .ok (.ireturn, 1) := by decide +kernel
theorem dX5_best_9 : decode cX5_best 9 = .ok (.aload_n 0, 1) := by decide +kernel
theorem dX5_best_10 : decode cX5_best 10 = .ok (.getfield 10, 3) := by decide +kernel
theorem dX5_best_13 : decode cX5_best 13 = .ok (.iload_n 1, 1) := by decide +kernel
theorem dX5_best_14 : decode cX5_best 14 = .ok (.aload_n 0, 1) := by decide +kernel
theorem dX5_best_15 : decode cX5_best 15 = .ok (.getfield 10, 3) := by decide +kernel
theorem dX5_best_18 : decode cX5_best 18 = .ok (.invokevirtual 171, 3) := by decide +kernel
theorem dX5_best_21 : decode cX5_best 21 = .ok (.iconst 0, 1) := by decide +kernel
theorem dX5_best_22 : decode cX5_best 22 = .ok (.invokevirtual 177, 3) := by decide +kernel
theorem dX5_best_25 : decode cX5_best 25 = .ok (.ireturn, 1) := by decide +kernel
theorem dX5_takenIn_0 : decode cX5_takenIn 0 = .ok (.iload_n 1, 1) := by decide +kernel
theorem dX5_takenIn_1 : decode cX5_takenIn 1 = .ok (.invokestatic 43, 3) := by decide +kernel
theorem dX5_takenIn_4 : decode cX5_takenIn 4 = .ok (.ifCond .ne 10, 3) := by decide +kernel
theorem dX5_takenIn_7 : decode cX5_takenIn 7 = .ok (.iload_n 2, 1) := by decide +kernel
theorem dX5_takenIn_8 : decode cX5_takenIn 8 = .ok (.invokestatic 63, 3) := by decide +kernel
theorem dX5_takenIn_11 : decode cX5_takenIn 11 = .ok (.ifCond .eq 5, 3) := by decide +kernel
theorem dX5_takenIn_14 : decode cX5_takenIn 14 = .ok (.iconst (-1), 1) := by decide +kernel
theorem dX5_takenIn_15 : decode cX5_takenIn 15 = .ok (.ireturn, 1) := by decide +kernel
theorem dX5_takenIn_16 : decode cX5_takenIn 16 = .ok (.aload_n 0, 1) := by decide +kernel
theorem dX5_takenIn_17 : decode cX5_takenIn 17 = .ok (.getfield 10, 3) := by decide +kernel
theorem dX5_takenIn_20 : decode cX5_takenIn 20 = .ok (.iload_n 1, 1) := by decide +kernel
theorem dX5_takenIn_21 : decode cX5_takenIn 21 = .ok (.iconst 0, 1) := by decide +kernel
theorem dX5_takenIn_22 : decode cX5_takenIn 22 = .ok (.invokevirtual 51, 3) := by decide +kernel
theorem dX5_takenIn_25 : decode cX5_takenIn 25 = .ok (.aload_n 0, 1) := by decide +kernel
theorem dX5_takenIn_26 : decode cX5_takenIn 26 = .ok (.getfield 10, 3) := by decide +kernel
theorem dX5_takenIn_29 : decode cX5_takenIn 29 = .ok (.iload_n 2, 1) := by decide +kernel
theorem dX5_takenIn_30 : decode cX5_takenIn 30 = .ok (.iconst 0, 1) := by decide +kernel
theorem dX5_takenIn_31 : decode cX5_takenIn 31 = .ok (.invokevirtual 66, 3) := by decide +kernel
theorem dX5_takenIn_34 : decode cX5_takenIn 34 = .ok (.if_icmp .ge 6, 3) := by decide +kernel
theorem dX5_takenIn_37 : decode cX5_takenIn 37 = .ok (.bipush (-5), 2) := by decide +kernel
theorem dX5_takenIn_39 : decode cX5_takenIn 39 = .ok (.ireturn, 1) := by decide +kernel
theorem dX5_takenIn_40 : decode cX5_takenIn 40 = .ok (.aload_n 0, 1) := by decide +kernel
theorem dX5_takenIn_41 : decode cX5_takenIn 41 = .ok (.getfield 16, 3) := by decide +kernel
theorem dX5_takenIn_44 : decode cX5_takenIn 44 = .ok (.aload_n 0, 1) := by decide +kernel
theorem dX5_takenIn_45 : decode cX5_takenIn 45 = .ok (.getfield 10, 3) := by decide +kernel
theorem dX5_takenIn_48 : decode cX5_takenIn 48 = .ok (.invokevirtual 139, 3) := by decide +kernel
theorem dX5_takenIn_51 : decode cX5_takenIn 51 = .ok (.iconst 0, 1) := by decide +kernel
theorem dX5_takenIn_52 : decode cX5_takenIn 52 = .ok (.istore_n 3, 1) := by decide +kernel
theorem dX5_takenIn_53 : decode cX5_takenIn 53 = .ok (.iload_n 3, 1) := by decide +kernel
theorem dX5_takenIn_54 : decode cX5_takenIn 54 = .ok (.sipush 200, 3) := by decide +kernel
theorem dX5_takenIn_57 : decode cX5_takenIn 57 = .ok (.if_icmp .gt 38, 3) := by decide +kernel
theorem dX5_takenIn_60 : decode cX5_takenIn 60 = .ok (.aload_n 0, 1) := by decide +kernel
