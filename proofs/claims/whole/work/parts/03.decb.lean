theorem dX2_farriersHorse_50 : decode cX2_farriersHorse 50 = .ok (.iload_n 2, 1) := by decide +kernel
theorem dX2_farriersHorse_51 : decode cX2_farriersHorse 51 = .ok (.ireturn, 1) := by decide +kernel
theorem dX2_hindrance_0 : decode cX2_hindrance 0 = .ok (.aload_n 0, 1) := by decide +kernel
theorem dX2_hindrance_1 : decode cX2_hindrance 1 = .ok (.getfield 20, 3) := by decide +kernel
theorem dX2_hindrance_4 : decode cX2_hindrance 4 = .ok (.iconst 5, 1) := by decide +kernel
theorem dX2_hindrance_5 : decode cX2_hindrance 5 = .ok (.iload_n 1, 1) := by decide +kernel
theorem dX2_hindrance_6 : decode cX2_hindrance 6 = .ok (.invokevirtual 58, 3) := by decide +kernel
theorem dX2_hindrance_9 : decode cX2_hindrance 9 = .ok (.ifCond .le 5, 3) := by decide +kernel
theorem dX2_hindrance_12 : decode cX2_hindrance 12 = .ok (.iconst 1, 1) := by decide +kernel
theorem dX2_hindrance_13 : decode cX2_hindrance 13 = .ok (.ireturn, 1) := by decide +kernel
theorem dX2_hindrance_14 : decode cX2_hindrance 14 = .ok (.iload_n 1, 1) := by decide +kernel
theorem dX2_hindrance_15 : decode cX2_hindrance 15 = .ok (.iload_n 3, 1) := by decide +kernel
theorem dX2_hindrance_16 : decode cX2_hindrance 16 = .ok (.if_icmp .ne 5, 3) := by decide +kernel
theorem dX2_hindrance_19 : decode cX2_hindrance 19 = .ok (.iconst 2, 1) := by decide +kernel
theorem dX2_hindrance_20 : decode cX2_hindrance 20 = .ok (.ireturn, 1) := by decide +kernel
theorem dX2_hindrance_21 : decode cX2_hindrance 21 = .ok (.aload_n 0, 1) := by decide +kernel
theorem dX2_hindrance_22 : decode cX2_hindrance 22 = .ok (.getfield 20, 3) := by decide +kernel
theorem dX2_hindrance_25 : decode cX2_hindrance 25 = .ok (.iconst 3, 1) := by decide +kernel
theorem dX2_hindrance_26 : decode cX2_hindrance 26 = .ok (.iload_n 1, 1) := by decide +kernel
theorem dX2_hindrance_27 : decode cX2_hindrance 27 = .ok (.invokevirtual 58, 3) := by decide +kernel
theorem dX2_hindrance_30 : decode cX2_hindrance 30 = .ok (.aload_n 0, 1) := by decide +kernel
theorem dX2_hindrance_31 : decode cX2_hindrance 31 = .ok (.getfield 14, 3) := by decide +kernel
theorem dX2_hindrance_34 : decode cX2_hindrance 34 = .ok (.iconst 0, 1) := by decide +kernel
theorem dX2_hindrance_35 : decode cX2_hindrance 35 = .ok (.iconst 1, 1) := by decide +kernel
theorem dX2_hindrance_36 : decode cX2_hindrance 36 = .ok (.invokevirtual 58, 3) := by decide +kernel
theorem dX2_hindrance_39 : decode cX2_hindrance 39 = .ok (.if_icmp .lt 5, 3) := by decide +kernel
theorem dX2_hindrance_42 : decode cX2_hindrance 42 = .ok (.iconst 3, 1) := by decide +kernel
theorem dX2_hindrance_43 : decode cX2_hindrance 43 = .ok (.ireturn, 1) := by decide +kernel
theorem dX2_hindrance_44 : decode cX2_hindrance 44 = .ok (.aload_n 0, 1) := by decide +kernel
theorem dX2_hindrance_45 : decode cX2_hindrance 45 = .ok (.getfield 20, 3) := by decide +kernel
theorem dX2_hindrance_48 : decode cX2_hindrance 48 = .ok (.iconst 2, 1) := by decide +kernel
theorem dX2_hindrance_49 : decode cX2_hindrance 49 = .ok (.iload_n 1, 1) := by decide +kernel
theorem dX2_hindrance_50 : decode cX2_hindrance 50 = .ok (.invokevirtual 58, 3) := by decide +kernel
theorem dX2_hindrance_53 : decode cX2_hindrance 53 = .ok (.aload_n 0, 1) := by decide +kernel
theorem dX2_hindrance_54 : decode cX2_hindrance 54 = .ok (.getfield 14, 3) := by decide +kernel
theorem dX2_hindrance_57 : decode cX2_hindrance 57 = .ok (.iconst 0, 1) := by decide +kernel
theorem dX2_hindrance_58 : decode cX2_hindrance 58 = .ok (.iconst 0, 1) := by decide +kernel
theorem dX2_hindrance_59 : decode cX2_hindrance 59 = .ok (.invokevirtual 58, 3) := by decide +kernel
theorem dX2_hindrance_62 : decode cX2_hindrance 62 = .ok (.if_icmp .lt 5, 3) := by decide +kernel
theorem dX2_hindrance_65 : decode cX2_hindrance 65 = .ok (.iconst 4, 1) := by decide +kernel
theorem dX2_hindrance_66 : decode cX2_hindrance 66 = .ok (.ireturn, 1) := by decide +kernel
theorem dX2_hindrance_67 : decode cX2_hindrance 67 = .ok (.aload_n 0, 1) := by decide +kernel
theorem dX2_hindrance_68 : decode cX2_hindrance 68 = .ok (.getfield 20, 3) := by decide +kernel
theorem dX2_hindrance_71 : decode cX2_hindrance 71 = .ok (.iconst 0, 1) := by decide +kernel
theorem dX2_hindrance_72 : decode cX2_hindrance 72 = .ok (.iload_n 1, 1) := by decide +kernel
theorem dX2_hindrance_73 : decode cX2_hindrance 73 = .ok (.invokevirtual 58, 3) := by decide +kernel
theorem dX2_hindrance_76 : decode cX2_hindrance 76 = .ok (.aload_n 0, 1) := by decide +kernel
theorem dX2_hindrance_77 : decode cX2_hindrance 77 = .ok (.getfield 23, 3) := by decide +kernel
theorem dX2_hindrance_80 : decode cX2_hindrance 80 = .ok (.iconst 0, 1) := by decide +kernel
theorem dX2_hindrance_81 : decode cX2_hindrance 81 = .ok (.iload_n 2, 1) := by decide +kernel
theorem dX2_hindrance_82 : decode cX2_hindrance 82 = .ok (.invokevirtual 58, 3) := by decide +kernel
theorem dX2_hindrance_85 : decode cX2_hindrance 85 = .ok (.if_icmp .ge 7, 3) := by decide +kernel
theorem dX2_hindrance_88 : decode cX2_hindrance 88 = .ok (.iconst 5, 1) := by decide +kernel
theorem dX2_hindrance_89 : decode cX2_hindrance 89 = .ok (.goto 4, 3) := by decide +kernel
theorem dX2_hindrance_92 : decode cX2_hindrance 92 = .ok (.iconst 0, 1) := by decide +kernel
theorem dX2_hindrance_93 : decode cX2_hindrance 93 = .ok (.ireturn, 1) := by decide +kernel
theorem dX2_bestHorse_0 : decode cX2_bestHorse 0 = .ok (.aload_n 0, 1) := by decide +kernel
theorem dX2_bestHorse_1 : decode cX2_bestHorse 1 = .ok (.iload_n 1, 1) := by decide +kernel
theorem dX2_bestHorse_2 : decode cX2_bestHorse 2 = .ok (.invokevirtual 66, 3) := by decide +kernel
theorem dX2_bestHorse_5 : decode cX2_bestHorse 5 = .ok (.istore 4, 2) := by decide +kernel
theorem dX2_bestHorse_7 : decode cX2_bestHorse 7 = .ok (.bipush (-5), 2) := by decide +kernel
theorem dX2_bestHorse_9 : decode cX2_bestHorse 9 = .ok (.istore 5, 2) := by decide +kernel
theorem dX2_bestHorse_11 : decode cX2_bestHorse 11 = .ok (.iconst 0, 1) := by decide +kernel
theorem dX2_bestHorse_12 : decode cX2_bestHorse 12 = .ok (.istore 6, 2) := by decide +kernel
theorem dX2_bestHorse_14 : decode cX2_bestHorse 14 = .ok (.iload 6, 2) := by decide +kernel
theorem dX2_bestHorse_16 : decode cX2_bestHorse 16 = .ok (.bipush 10, 2) := by decide +kernel
theorem dX2_bestHorse_18 : decode cX2_bestHorse 18 = .ok (.if_icmp .ge 53, 3) := by decide +kernel
theorem dX2_bestHorse_21 : decode cX2_bestHorse 21 = .ok (.iload_n 3, 1) := by decide +kernel
theorem dX2_bestHorse_22 : decode cX2_bestHorse 22 = .ok (.iload 6, 2) := by decide +kernel
theorem dX2_bestHorse_24 : decode cX2_bestHorse 24 = .ok (.ishr, 1) := by decide +kernel
theorem dX2_bestHorse_25 : decode cX2_bestHorse 25 = .ok (.iconst 1, 1) := by decide +kernel
theorem dX2_bestHorse_26 : decode cX2_bestHorse 26 = .ok (.iand, 1) := by decide +kernel
theorem dX2_bestHorse_27 : decode cX2_bestHorse 27 = .ok (.ifCond .ne 38, 3) := by decide +kernel
theorem dX2_bestHorse_30 : decode cX2_bestHorse 30 = .ok (.aload_n 0, 1) := by decide +kernel
theorem dX2_bestHorse_31 : decode cX2_bestHorse 31 = .ok (.iload 6, 2) := by decide +kernel
theorem dX2_bestHorse_33 : decode cX2_bestHorse 33 = .ok (.iload_n 1, 1) := by decide +kernel
theorem dX2_bestHorse_34 : decode cX2_bestHorse 34 = .ok (.iload_n 2, 1) := by decide +kernel
theorem dX2_bestHorse_35 : decode cX2_bestHorse 35 = .ok (.invokevirtual 103, 3) := by decide +kernel
theorem dX2_bestHorse_38 : decode cX2_bestHorse 38 = .ok (.ifCond .ne 27, 3) := by decide +kernel
theorem dX2_bestHorse_41 : decode cX2_bestHorse 41 = .ok (.iload 5, 2) := by decide +kernel
theorem dX2_bestHorse_43 : decode cX2_bestHorse 43 = .ok (.bipush (-5), 2) := by decide +kernel
theorem dX2_bestHorse_45 : decode cX2_bestHorse 45 = .ok (.if_icmp .eq 16, 3) := by decide +kernel
theorem dX2_bestHorse_48 : decode cX2_bestHorse 48 = .ok (.aload_n 0, 1) := by decide +kernel
theorem dX2_bestHorse_49 : decode cX2_bestHorse 49 = .ok (.iload 6, 2) := by decide +kernel
theorem dX2_bestHorse_51 : decode cX2_bestHorse 51 = .ok (.iload 5, 2) := by decide +kernel
theorem dX2_bestHorse_53 : decode cX2_bestHorse 53 = .ok (.iload 4, 2) := by decide +kernel
theorem dX2_bestHorse_55 : decode cX2_bestHorse 55 = .ok (.invokevirtual 107, 3) := by decide +kernel
theorem dX2_bestHorse_58 : decode cX2_bestHorse 58 = .ok (.ifCond .eq 7, 3) := by decide +kernel
theorem dX2_bestHorse_61 : decode cX2_bestHorse 61 = .ok (.iload 6, 2) := by decide +kernel
theorem dX2_bestHorse_63 : decode cX2_bestHorse 63 = .ok (.istore 5, 2) := by decide +kernel
theorem dX2_bestHorse_65 : decode cX2_bestHorse 65 = .ok (.iinc 6 1, 3) := by decide +kernel
theorem dX2_bestHorse_68 : decode cX2_bestHorse 68 = .ok (.goto (-54), 3) := by decide +kernel
theorem dX2_bestHorse_71 : decode cX2_bestHorse 71 = .ok (.iload 5, 2) := by decide +kernel
theorem dX2_bestHorse_73 : decode cX2_bestHorse 73 = .ok (.ireturn, 1) := by decide +kernel
theorem dX2_isBetter_0 : decode cX2_isBetter 0 = .ok (.aload_n 0, 1) := by decide +kernel
theorem dX2_isBetter_1 : decode cX2_isBetter 1 = .ok (.getfield 20, 3) := by decide +kernel
theorem dX2_isBetter_4 : decode cX2_isBetter 4 = .ok (.iconst 1, 1) := by decide +kernel
theorem dX2_isBetter_5 : decode cX2_isBetter 5 = .ok (.iload_n 1, 1) := by decide +kernel
theorem dX2_isBetter_6 : decode cX2_isBetter 6 = .ok (.invokevirtual 58, 3) := by decide +kernel
theorem dX2_isBetter_9 : decode cX2_isBetter 9 = .ok (.iload_n 3, 1) := by decide +kernel
theorem dX2_isBetter_10 : decode cX2_isBetter 10 = .ok (.if_icmp .gt 7, 3) := by decide +kernel
theorem dX2_isBetter_13 : decode cX2_isBetter 13 = .ok (.iconst 1, 1) := by decide +kernel
theorem dX2_isBetter_14 : decode cX2_isBetter 14 = .ok (.goto 4, 3) := by decide +kernel
theorem dX2_isBetter_17 : decode cX2_isBetter 17 = .ok (.iconst 0, 1) := by decide +kernel
theorem dX2_isBetter_18 : decode cX2_isBetter 18 = .ok (.istore 4, 2) := by decide +kernel
theorem dX2_isBetter_20 : decode cX2_isBetter 20 = .ok (.aload_n 0, 1) := by decide +kernel
theorem dX2_isBetter_21 : decode cX2_isBetter 21 = .ok (.getfield 20, 3) := by decide +kernel
theorem dX2_isBetter_24 : decode cX2_isBetter 24 = .ok (.iconst 1, 1) := by decide +kernel
theorem dX2_isBetter_25 : decode cX2_isBetter 25 = .ok (.iload_n 2, 1) := by decide +kernel
theorem dX2_isBetter_26 : decode cX2_isBetter 26 = .ok (.invokevirtual 58, 3) := by decide +kernel
theorem dX2_isBetter_29 : decode cX2_isBetter 29 = .ok (.iload_n 3, 1) := by decide +kernel
theorem dX2_isBetter_30 : decode cX2_isBetter 30 = .ok (.if_icmp .gt 7, 3) := by decide +kernel
theorem dX2_isBetter_33 : decode cX2_isBetter 33 = .ok (.iconst 1, 1) := by decide +kernel
theorem dX2_isBetter_34 : decode cX2_isBetter 34 = .ok (.goto 4, 3) := by decide +kernel
theorem dX2_isBetter_37 : decode cX2_isBetter 37 = .ok (.iconst 0, 1) := by decide +kernel
theorem dX2_isBetter_38 : decode cX2_isBetter 38 = .ok (.istore 5, 2) := by decide +kernel
theorem dX2_isBetter_40 : decode cX2_isBetter 40 = .ok (.iload 4, 2) := by decide +kernel
theorem dX2_isBetter_42 : decode cX2_isBetter 42 = .ok (.iload 5, 2) := by decide +kernel
theorem dX2_isBetter_44 : decode cX2_isBetter 44 = .ok (.if_icmp .eq 6, 3) := by decide +kernel
theorem dX2_isBetter_47 : decode cX2_isBetter 47 = .ok (.iload 4, 2) := by decide +kernel
theorem dX2_isBetter_49 : decode cX2_isBetter 49 = .ok (.ireturn, 1) := by decide +kernel
theorem dX2_isBetter_50 : decode cX2_isBetter 50 = .ok (.aload_n 0, 1) := by decide +kernel
theorem dX2_isBetter_51 : decode cX2_isBetter 51 = .ok (.getfield 20, 3) := by decide +kernel
theorem dX2_isBetter_54 : decode cX2_isBetter 54 = .ok (.iconst 2, 1) := by decide +kernel
theorem dX2_isBetter_55 : decode cX2_isBetter 55 = .ok (.iload_n 1, 1) := by decide +kernel
theorem dX2_isBetter_56 : decode cX2_isBetter 56 = .ok (.invokevirtual 58, 3) := by decide +kernel
theorem dX2_isBetter_59 : decode cX2_isBetter 59 = .ok (.aload_n 0, 1) := by decide +kernel
theorem dX2_isBetter_60 : decode cX2_isBetter 60 = .ok (.getfield 20, 3) := by decide +kernel
theorem dX2_isBetter_63 : decode cX2_isBetter 63 = .ok (.iconst 2, 1) := by decide +kernel
theorem dX2_isBetter_64 : decode cX2_isBetter 64 = .ok (.iload_n 2, 1) := by decide +kernel
theorem dX2_isBetter_65 : decode cX2_isBetter 65 = .ok (.invokevirtual 58, 3) := by decide +kernel
theorem dX2_isBetter_68 : decode cX2_isBetter 68 = .ok (.isub, 1) := by decide +kernel
theorem dX2_isBetter_69 : decode cX2_isBetter 69 = .ok (.istore 6, 2) := by decide +kernel
theorem dX2_isBetter_71 : decode cX2_isBetter 71 = .ok (.aload_n 0, 1) := by decide +kernel
theorem dX2_isBetter_72 : decode cX2_isBetter 72 = .ok (.getfield 20, 3) := by decide +kernel
theorem dX2_isBetter_75 : decode cX2_isBetter 75 = .ok (.iconst 0, 1) := by decide +kernel
theorem dX2_isBetter_76 : decode cX2_isBetter 76 = .ok (.iload_n 1, 1) := by decide +kernel
theorem dX2_isBetter_77 : decode cX2_isBetter 77 = .ok (.invokevirtual 58, 3) := by decide +kernel
theorem dX2_isBetter_80 : decode cX2_isBetter 80 = .ok (.aload_n 0, 1) := by decide +kernel
theorem dX2_isBetter_81 : decode cX2_isBetter 81 = .ok (.getfield 20, 3) := by decide +kernel
theorem dX2_isBetter_84 : decode cX2_isBetter 84 = .ok (.iconst 0, 1) := by decide +kernel
theorem dX2_isBetter_85 : decode cX2_isBetter 85 = .ok (.iload_n 2, 1) := by decide +kernel
theorem dX2_isBetter_86 : decode cX2_isBetter 86 = .ok (.invokevirtual 58, 3) := by decide +kernel
theorem dX2_isBetter_89 : decode cX2_isBetter 89 = .ok (.isub, 1) := by decide +kernel
theorem dX2_isBetter_90 : decode cX2_isBetter 90 = .ok (.istore 7, 2) := by decide +kernel
theorem dX2_isBetter_92 : decode cX2_isBetter 92 = .ok (.iload 6, 2) := by decide +kernel
theorem dX2_isBetter_94 : decode cX2_isBetter 94 = .ok (.ifCond .lt 13, 3) := by decide +kernel
theorem dX2_isBetter_97 : decode cX2_isBetter 97 = .ok (.iload 6, 2) := by decide +kernel
theorem dX2_isBetter_99 : decode cX2_isBetter 99 = .ok (.ifCond .ne 12, 3) := by decide +kernel
theorem dX2_isBetter_102 : decode cX2_isBetter 102 = .ok (.iload 7, 2) := by decide +kernel
theorem dX2_isBetter_104 : decode cX2_isBetter 104 = .ok (.ifCond .ge 7, 3) := by decide +kernel
theorem dX2_isBetter_107 : decode cX2_isBetter 107 = .ok (.iconst 1, 1) := by decide +kernel
theorem dX2_isBetter_108 : decode cX2_isBetter 108 = .ok (.goto 4, 3) := by decide +kernel
theorem dX2_isBetter_111 : decode cX2_isBetter 111 = .ok (.iconst 0, 1) := by decide +kernel
theorem dX2_isBetter_112 : decode cX2_isBetter 112 = .ok (.ireturn, 1) := by decide +kernel
theorem dX2_passHour_0 : decode cX2_passHour 0 = .ok (.aload_n 0, 1) := by decide +kernel
theorem dX2_passHour_1 : decode cX2_passHour 1 = .ok (.invokevirtual 110, 3) := by decide +kernel
theorem dX2_passHour_4 : decode cX2_passHour 4 = .ok (.istore_n 2, 1) := by decide +kernel
theorem dX2_passHour_5 : decode cX2_passHour 5 = .ok (.iload_n 1, 1) := by decide +kernel
theorem dX2_passHour_6 : decode cX2_passHour 6 = .ok (.ifCond .eq 11, 3) := by decide +kernel
theorem dX2_passHour_9 : decode cX2_passHour 9 = .ok (.aload_n 0, 1) := by decide +kernel
theorem dX2_passHour_10 : decode cX2_passHour 10 = .ok (.iload_n 2, 1) := by decide +kernel
theorem dX2_passHour_11 : decode cX2_passHour 11 = .ok (.invokevirtual 114, 3) := by decide +kernel
theorem dX2_passHour_14 : decode cX2_passHour 14 = .ok (.goto 4, 3) := by decide +kernel
theorem dX2_passHour_17 : decode cX2_passHour 17 = .ok (.iconst 0, 1) := by decide +kernel
theorem dX2_passHour_18 : decode cX2_passHour 18 = .ok (.istore_n 3, 1) := by decide +kernel
theorem dX2_passHour_19 : decode cX2_passHour 19 = .ok (.iconst 0, 1) := by decide +kernel
theorem dX2_passHour_20 : decode cX2_passHour 20 = .ok (.istore 4, 2) := by decide +kernel
theorem dX2_passHour_22 : decode cX2_passHour 22 = .ok (.iload 4, 2) := by decide +kernel
theorem dX2_passHour_24 : decode cX2_passHour 24 = .ok (.bipush 10, 2) := by decide +kernel
theorem dX2_passHour_26 : decode cX2_passHour 26 = .ok (.if_icmp .ge 90, 3) := by decide +kernel
theorem dX2_passHour_29 : decode cX2_passHour 29 = .ok (.iload_n 3, 1) := by decide +kernel
theorem dX2_passHour_30 : decode cX2_passHour 30 = .ok (.iload 4, 2) := by decide +kernel
theorem dX2_passHour_32 : decode cX2_passHour 32 = .ok (.ishr, 1) := by decide +kernel
theorem dX2_passHour_33 : decode cX2_passHour 33 = .ok (.iconst 1, 1) := by decide +kernel
theorem dX2_passHour_34 : decode cX2_passHour 34 = .ok (.iand, 1) := by decide +kernel
theorem dX2_passHour_35 : decode cX2_passHour 35 = .ok (.iconst 1, 1) := by decide +kernel
theorem dX2_passHour_36 : decode cX2_passHour 36 = .ok (.if_icmp .ne 28, 3) := by decide +kernel
theorem dX2_passHour_39 : decode cX2_passHour 39 = .ok (.aload_n 0, 1) := by decide +kernel
theorem dX2_passHour_40 : decode cX2_passHour 40 = .ok (.getfield 20, 3) := by decide +kernel
theorem dX2_passHour_43 : decode cX2_passHour 43 = .ok (.iconst 2, 1) := by decide +kernel
theorem dX2_passHour_44 : decode cX2_passHour 44 = .ok (.iload 4, 2) := by decide +kernel
theorem dX2_passHour_46 : decode cX2_passHour 46 = .ok (.iconst 1, 1) := by decide +kernel
theorem dX2_passHour_47 : decode cX2_passHour 47 = .ok (.invokevirtual 117, 3) := by decide +kernel
theorem dX2_passHour_50 : decode cX2_passHour 50 = .ok (.aload_n 0, 1) := by decide +kernel
theorem dX2_passHour_51 : decode cX2_passHour 51 = .ok (.getfield 20, 3) := by decide +kernel
theorem dX2_passHour_54 : decode cX2_passHour 54 = .ok (.iconst 3, 1) := by decide +kernel
theorem dX2_passHour_55 : decode cX2_passHour 55 = .ok (.iload 4, 2) := by decide +kernel
theorem dX2_passHour_57 : decode cX2_passHour 57 = .ok (.iconst 1, 1) := by decide +kernel
theorem dX2_passHour_58 : decode cX2_passHour 58 = .ok (.invokevirtual 117, 3) := by decide +kernel
theorem dX2_passHour_61 : decode cX2_passHour 61 = .ok (.goto 25, 3) := by decide +kernel
theorem dX2_passHour_64 : decode cX2_passHour 64 = .ok (.aload_n 0, 1) := by decide +kernel
theorem dX2_passHour_65 : decode cX2_passHour 65 = .ok (.getfield 20, 3) := by decide +kernel
theorem dX2_passHour_68 : decode cX2_passHour 68 = .ok (.iconst 2, 1) := by decide +kernel
theorem dX2_passHour_69 : decode cX2_passHour 69 = .ok (.iload 4, 2) := by decide +kernel
theorem dX2_passHour_71 : decode cX2_passHour 71 = .ok (.iconst 1, 1) := by decide +kernel
theorem dX2_passHour_72 : decode cX2_passHour 72 = .ok (.invokevirtual 120, 3) := by decide +kernel
theorem dX2_passHour_75 : decode cX2_passHour 75 = .ok (.aload_n 0, 1) := by decide +kernel
theorem dX2_passHour_76 : decode cX2_passHour 76 = .ok (.getfield 20, 3) := by decide +kernel
theorem dX2_passHour_79 : decode cX2_passHour 79 = .ok (.iconst 5, 1) := by decide +kernel
theorem dX2_passHour_80 : decode cX2_passHour 80 = .ok (.iload 4, 2) := by decide +kernel
theorem dX2_passHour_82 : decode cX2_passHour 82 = .ok (.iconst 1, 1) := by decide +kernel
theorem dX2_passHour_83 : decode cX2_passHour 83 = .ok (.invokevirtual 120, 3) := by decide +kernel
theorem dX2_passHour_86 : decode cX2_passHour 86 = .ok (.aload_n 0, 1) := by decide +kernel
theorem dX2_passHour_87 : decode cX2_passHour 87 = .ok (.getfield 44, 3) := by decide +kernel
theorem dX2_passHour_90 : decode cX2_passHour 90 = .ok (.bipush 10, 2) := by decide +kernel
theorem dX2_passHour_92 : decode cX2_passHour 92 = .ok (.irem, 1) := by decide +kernel
theorem dX2_passHour_93 : decode cX2_passHour 93 = .ok (.bipush 9, 2) := by decide +kernel
theorem dX2_passHour_95 : decode cX2_passHour 95 = .ok (.if_icmp .ne 15, 3) := by decide +kernel
theorem dX2_passHour_98 : decode cX2_passHour 98 = .ok (.aload_n 0, 1) := by decide +kernel
theorem dX2_passHour_99 : decode cX2_passHour 99 = .ok (.getfield 20, 3) := by decide +kernel
theorem dX2_passHour_102 : decode cX2_passHour 102 = .ok (.iconst 2, 1) := by decide +kernel
theorem dX2_passHour_103 : decode cX2_passHour 103 = .ok (.iload 4, 2) := by decide +kernel
theorem dX2_passHour_105 : decode cX2_passHour 105 = .ok (.bipush 8, 2) := by decide +kernel
theorem dX2_passHour_107 : decode cX2_passHour 107 = .ok (.invokevirtual 120, 3) := by decide +kernel
theorem dX2_passHour_110 : decode cX2_passHour 110 = .ok (.iinc 4 1, 3) := by decide +kernel
theorem dX2_passHour_113 : decode cX2_passHour 113 = .ok (.goto (-91), 3) := by decide +kernel
theorem dX2_passHour_116 : decode cX2_passHour 116 = .ok (.iload_n 2, 1) := by decide +kernel
theorem dX2_passHour_117 : decode cX2_passHour 117 = .ok (.bipush (-5), 2) := by decide +kernel
theorem dX2_passHour_119 : decode cX2_passHour 119 = .ok (.if_icmp .eq 24, 3) := by decide +kernel
theorem dX2_passHour_122 : decode cX2_passHour 122 = .ok (.aload_n 0, 1) := by decide +kernel
theorem dX2_passHour_123 : decode cX2_passHour 123 = .ok (.getfield 20, 3) := by decide +kernel
theorem dX2_passHour_126 : decode cX2_passHour 126 = .ok (.iconst 3, 1) := by decide +kernel
theorem dX2_passHour_127 : decode cX2_passHour 127 = .ok (.iload_n 2, 1) := by decide +kernel
theorem dX2_passHour_128 : decode cX2_passHour 128 = .ok (.iconst 0, 1) := by decide +kernel
theorem dX2_passHour_129 : decode cX2_passHour 129 = .ok (.invokevirtual 40, 3) := by decide +kernel
theorem dX2_passHour_132 : decode cX2_passHour 132 = .ok (.aload_n 0, 1) := by decide +kernel
theorem dX2_passHour_133 : decode cX2_passHour 133 = .ok (.getfield 20, 3) := by decide +kernel
theorem dX2_passHour_136 : decode cX2_passHour 136 = .ok (.bipush 8, 2) := by decide +kernel
theorem dX2_passHour_138 : decode cX2_passHour 138 = .ok (.iload_n 2, 1) := by decide +kernel
theorem dX2_passHour_139 : decode cX2_passHour 139 = .ok (.iconst 1, 1) := by decide +kernel
theorem dX2_passHour_140 : decode cX2_passHour 140 = .ok (.invokevirtual 117, 3) := by decide +kernel
theorem dX2_passHour_143 : decode cX2_passHour 143 = .ok (.aload_n 0, 1) := by decide +kernel
theorem dX2_passHour_144 : decode cX2_passHour 144 = .ok (.dup, 1) := by decide +kernel
theorem dX2_passHour_145 : decode cX2_passHour 145 = .ok (.getfield 44, 3) := by decide +kernel
theorem dX2_passHour_148 : decode cX2_passHour 148 = .ok (.iconst 1, 1) := by decide +kernel
theorem dX2_passHour_149 : decode cX2_passHour 149 = .ok (.iadd, 1) := by decide +kernel
theorem dX2_passHour_150 : decode cX2_passHour 150 = .ok (.putfield 44, 3) := by decide +kernel
theorem dX2_passHour_153 : decode cX2_passHour 153 = .ok (.return_, 1) := by decide +kernel
theorem dX2_giveLessons_0 : decode cX2_giveLessons 0 = .ok (.iconst 0, 1) := by decide +kernel
theorem dX2_giveLessons_1 : decode cX2_giveLessons 1 = .ok (.istore_n 2, 1) := by decide +kernel
theorem dX2_giveLessons_2 : decode cX2_giveLessons 2 = .ok (.iconst 0, 1) := by decide +kernel
theorem dX2_giveLessons_3 : decode cX2_giveLessons 3 = .ok (.istore_n 3, 1) := by decide +kernel
theorem dX2_giveLessons_4 : decode cX2_giveLessons 4 = .ok (.iconst 0, 1) := by decide +kernel
theorem dX2_giveLessons_5 : decode cX2_giveLessons 5 = .ok (.istore 4, 2) := by decide +kernel
theorem dX2_giveLessons_7 : decode cX2_giveLessons 7 = .ok (.iload 4, 2) := by decide +kernel
theorem dX2_giveLessons_9 : decode cX2_giveLessons 9 = .ok (.aload_n 0, 1) := by decide +kernel
theorem dX2_giveLessons_10 : decode cX2_giveLessons 10 = .ok (.getfield 52, 3) := by decide +kernel
theorem dX2_giveLessons_13 : decode cX2_giveLessons 13 = .ok (.if_icmp .ge 61, 3) := by decide +kernel
theorem dX2_giveLessons_16 : decode cX2_giveLessons 16 = .ok (.aload_n 0, 1) := by decide +kernel
theorem dX2_giveLessons_17 : decode cX2_giveLessons 17 = .ok (.iload 4, 2) := by decide +kernel
theorem dX2_giveLessons_19 : decode cX2_giveLessons 19 = .ok (.iconst 0, 1) := by decide +kernel
theorem dX2_giveLessons_20 : decode cX2_giveLessons 20 = .ok (.invokevirtual 77, 3) := by decide +kernel
theorem dX2_giveLessons_23 : decode cX2_giveLessons 23 = .ok (.ifCond .eq 25, 3) := by decide +kernel
theorem dX2_giveLessons_26 : decode cX2_giveLessons 26 = .ok (.iload_n 2, 1) := by decide +kernel
theorem dX2_giveLessons_27 : decode cX2_giveLessons 27 = .ok (.aload_n 0, 1) := by decide +kernel
theorem dX2_giveLessons_28 : decode cX2_giveLessons 28 = .ok (.aload_n 0, 1) := by decide +kernel
theorem dX2_giveLessons_29 : decode cX2_giveLessons 29 = .ok (.getfield 26, 3) := by decide +kernel
theorem dX2_giveLessons_32 : decode cX2_giveLessons 32 = .ok (.iconst 2, 1) := by decide +kernel
theorem dX2_giveLessons_33 : decode cX2_giveLessons 33 = .ok (.iload 4, 2) := by decide +kernel
theorem dX2_giveLessons_35 : decode cX2_giveLessons 35 = .ok (.invokevirtual 58, 3) := by decide +kernel
theorem dX2_giveLessons_38 : decode cX2_giveLessons 38 = .ok (.iload_n 1, 1) := by decide +kernel
theorem dX2_giveLessons_39 : decode cX2_giveLessons 39 = .ok (.iload_n 2, 1) := by decide +kernel
theorem dX2_giveLessons_40 : decode cX2_giveLessons 40 = .ok (.invokevirtual 123, 3) := by decide +kernel
theorem dX2_giveLessons_43 : decode cX2_giveLessons 43 = .ok (.ior, 1) := by decide +kernel
theorem dX2_giveLessons_44 : decode cX2_giveLessons 44 = .ok (.istore_n 2, 1) := by decide +kernel
theorem dX2_giveLessons_45 : decode cX2_giveLessons 45 = .ok (.goto 23, 3) := by decide +kernel
theorem dX2_giveLessons_48 : decode cX2_giveLessons 48 = .ok (.iload_n 3, 1) := by decide +kernel
theorem dX2_giveLessons_49 : decode cX2_giveLessons 49 = .ok (.iload 4, 2) := by decide +kernel
theorem dX2_giveLessons_51 : decode cX2_giveLessons 51 = .ok (.if_icmp .ge 14, 3) := by decide +kernel
theorem dX2_giveLessons_54 : decode cX2_giveLessons 54 = .ok (.aload_n 0, 1) := by decide +kernel
theorem dX2_giveLessons_55 : decode cX2_giveLessons 55 = .ok (.getfield 26, 3) := by decide +kernel
theorem dX2_giveLessons_58 : decode cX2_giveLessons 58 = .ok (.iload 4, 2) := by decide +kernel
theorem dX2_giveLessons_60 : decode cX2_giveLessons 60 = .ok (.iload_n 3, 1) := by decide +kernel
theorem dX2_giveLessons_61 : decode cX2_giveLessons 61 = .ok (.iconst 3, 1) := by decide +kernel
theorem dX2_giveLessons_62 : decode cX2_giveLessons 62 = .ok (.invokevirtual 96, 3) := by decide +kernel
theorem dX2_giveLessons_65 : decode cX2_giveLessons 65 = .ok (.iinc 3 1, 3) := by decide +kernel
theorem dX2_giveLessons_68 : decode cX2_giveLessons 68 = .ok (.iinc 4 1, 3) := by decide +kernel
theorem dX2_giveLessons_71 : decode cX2_giveLessons 71 = .ok (.goto (-64), 3) := by decide +kernel
theorem dX2_giveLessons_74 : decode cX2_giveLessons 74 = .ok (.aload_n 0, 1) := by decide +kernel
theorem dX2_giveLessons_75 : decode cX2_giveLessons 75 = .ok (.iload_n 3, 1) := by decide +kernel
theorem dX2_giveLessons_76 : decode cX2_giveLessons 76 = .ok (.putfield 52, 3) := by decide +kernel
theorem dX2_giveLessons_79 : decode cX2_giveLessons 79 = .ok (.iload_n 2, 1) := by decide +kernel
theorem dX2_giveLessons_80 : decode cX2_giveLessons 80 = .ok (.ireturn, 1) := by decide +kernel
theorem dX2_giveLesson_0 : decode cX2_giveLesson 0 = .ok (.aload_n 0, 1) := by decide +kernel
theorem dX2_giveLesson_1 : decode cX2_giveLesson 1 = .ok (.iload_n 1, 1) := by decide +kernel
theorem dX2_giveLesson_2 : decode cX2_giveLesson 2 = .ok (.iload_n 2, 1) := by decide +kernel
theorem dX2_giveLesson_3 : decode cX2_giveLesson 3 = .ok (.iload_n 3, 1) := by decide +kernel
theorem dX2_giveLesson_4 : decode cX2_giveLesson 4 = .ok (.invokevirtual 126, 3) := by decide +kernel
theorem dX2_giveLesson_7 : decode cX2_giveLesson 7 = .ok (.istore 4, 2) := by decide +kernel
theorem dX2_giveLesson_9 : decode cX2_giveLesson 9 = .ok (.iload 4, 2) := by decide +kernel
theorem dX2_giveLesson_11 : decode cX2_giveLesson 11 = .ok (.bipush (-5), 2) := by decide +kernel
theorem dX2_giveLesson_13 : decode cX2_giveLesson 13 = .ok (.if_icmp .ne 16, 3) := by decide +kernel
theorem dX2_giveLesson_16 : decode cX2_giveLesson 16 = .ok (.aload_n 0, 1) := by decide +kernel
theorem dX2_giveLesson_17 : decode cX2_giveLesson 17 = .ok (.getfield 23, 3) := by decide +kernel
theorem dX2_giveLesson_20 : decode cX2_giveLesson 20 = .ok (.bipush 7, 2) := by decide +kernel
theorem dX2_giveLesson_22 : decode cX2_giveLesson 22 = .ok (.iload_n 1, 1) := by decide +kernel
theorem dX2_giveLesson_23 : decode cX2_giveLesson 23 = .ok (.iconst 1, 1) := by decide +kernel
theorem dX2_giveLesson_24 : decode cX2_giveLesson 24 = .ok (.invokevirtual 117, 3) := by decide +kernel
theorem dX2_giveLesson_27 : decode cX2_giveLesson 27 = .ok (.iconst 0, 1) := by decide +kernel
theorem dX2_giveLesson_28 : decode cX2_giveLesson 28 = .ok (.ireturn, 1) := by decide +kernel
theorem dX2_giveLesson_29 : decode cX2_giveLesson 29 = .ok (.aload_n 0, 1) := by decide +kernel
theorem dX2_giveLesson_30 : decode cX2_giveLesson 30 = .ok (.getfield 20, 3) := by decide +kernel
theorem dX2_giveLesson_33 : decode cX2_giveLesson 33 = .ok (.bipush 6, 2) := by decide +kernel
theorem dX2_giveLesson_35 : decode cX2_giveLesson 35 = .ok (.iload 4, 2) := by decide +kernel
theorem dX2_giveLesson_37 : decode cX2_giveLesson 37 = .ok (.iconst 1, 1) := by decide +kernel
theorem dX2_giveLesson_38 : decode cX2_giveLesson 38 = .ok (.invokevirtual 117, 3) := by decide +kernel
theorem dX2_giveLesson_41 : decode cX2_giveLesson 41 = .ok (.aload_n 0, 1) := by decide +kernel
theorem dX2_giveLesson_42 : decode cX2_giveLesson 42 = .ok (.getfield 23, 3) := by decide +kernel
theorem dX2_giveLesson_45 : decode cX2_giveLesson 45 = .ok (.iconst 5, 1) := by decide +kernel
theorem dX2_giveLesson_46 : decode cX2_giveLesson 46 = .ok (.iload_n 1, 1) := by decide +kernel
theorem dX2_giveLesson_47 : decode cX2_giveLesson 47 = .ok (.iconst 1, 1) := by decide +kernel
theorem dX2_giveLesson_48 : decode cX2_giveLesson 48 = .ok (.invokevirtual 117, 3) := by decide +kernel
theorem dX2_giveLesson_51 : decode cX2_giveLesson 51 = .ok (.aload_n 0, 1) := by decide +kernel
theorem dX2_giveLesson_52 : decode cX2_giveLesson 52 = .ok (.getfield 23, 3) := by decide +kernel
theorem dX2_giveLesson_55 : decode cX2_giveLesson 55 = .ok (.bipush 9, 2) := by decide +kernel
theorem dX2_giveLesson_57 : decode cX2_giveLesson 57 = .ok (.iload_n 1, 1) := by decide +kernel
theorem dX2_giveLesson_58 : decode cX2_giveLesson 58 = .ok (.iload 4, 2) := by decide +kernel
theorem dX2_giveLesson_60 : decode cX2_giveLesson 60 = .ok (.invokevirtual 40, 3) := by decide +kernel
theorem dX2_giveLesson_63 : decode cX2_giveLesson 63 = .ok (.aload_n 0, 1) := by decide +kernel
theorem dX2_giveLesson_64 : decode cX2_giveLesson 64 = .ok (.getfield 20, 3) := by decide +kernel
theorem dX2_giveLesson_67 : decode cX2_giveLesson 67 = .ok (.iconst 1, 1) := by decide +kernel
theorem dX2_giveLesson_68 : decode cX2_giveLesson 68 = .ok (.iload 4, 2) := by decide +kernel
theorem dX2_giveLesson_70 : decode cX2_giveLesson 70 = .ok (.invokevirtual 58, 3) := by decide +kernel
theorem dX2_giveLesson_73 : decode cX2_giveLesson 73 = .ok (.aload_n 0, 1) := by decide +kernel
theorem dX2_giveLesson_74 : decode cX2_giveLesson 74 = .ok (.iload_n 1, 1) := by decide +kernel
theorem dX2_giveLesson_75 : decode cX2_giveLesson 75 = .ok (.invokevirtual 66, 3) := by decide +kernel
theorem dX2_giveLesson_78 : decode cX2_giveLesson 78 = .ok (.if_icmp .le 13, 3) := by decide +kernel
theorem dX2_giveLesson_81 : decode cX2_giveLesson 81 = .ok (.aload_n 0, 1) := by decide +kernel
theorem dX2_giveLesson_82 : decode cX2_giveLesson 82 = .ok (.iload_n 1, 1) := by decide +kernel
theorem dX2_giveLesson_83 : decode cX2_giveLesson 83 = .ok (.iload 4, 2) := by decide +kernel
theorem dX2_giveLesson_85 : decode cX2_giveLesson 85 = .ok (.invokevirtual 129, 3) := by decide +kernel
theorem dX2_giveLesson_88 : decode cX2_giveLesson 88 = .ok (.goto 8, 3) := by decide +kernel
theorem dX2_giveLesson_91 : decode cX2_giveLesson 91 = .ok (.aload_n 0, 1) := by decide +kernel
theorem dX2_giveLesson_92 : decode cX2_giveLesson 92 = .ok (.iload_n 1, 1) := by decide +kernel
theorem dX2_giveLesson_93 : decode cX2_giveLesson 93 = .ok (.invokevirtual 132, 3) := by decide +kernel
theorem dX2_giveLesson_96 : decode cX2_giveLesson 96 = .ok (.aload_n 0, 1) := by decide +kernel
theorem dX2_giveLesson_97 : decode cX2_giveLesson 97 = .ok (.iload 4, 2) := by decide +kernel
theorem dX2_giveLesson_99 : decode cX2_giveLesson 99 = .ok (.aload_n 0, 1) := by decide +kernel
theorem dX2_giveLesson_100 : decode cX2_giveLesson 100 = .ok (.getfield 23, 3) := by decide +kernel
theorem dX2_giveLesson_103 : decode cX2_giveLesson 103 = .ok (.iconst 0, 1) := by decide +kernel
theorem dX2_giveLesson_104 : decode cX2_giveLesson 104 = .ok (.iload_n 1, 1) := by decide +kernel
theorem dX2_giveLesson_105 : decode cX2_giveLesson 105 = .ok (.invokevirtual 58, 3) := by decide +kernel
theorem dX2_giveLesson_108 : decode cX2_giveLesson 108 = .ok (.invokevirtual 136, 3) := by decide +kernel
theorem dX2_giveLesson_111 : decode cX2_giveLesson 111 = .ok (.iconst 1, 1) := by decide +kernel
theorem dX2_giveLesson_112 : decode cX2_giveLesson 112 = .ok (.iload 4, 2) := by decide +kernel
theorem dX2_giveLesson_114 : decode cX2_giveLesson 114 = .ok (.ishl, 1) := by decide +kernel
theorem dX2_giveLesson_115 : decode cX2_giveLesson 115 = .ok (.ireturn, 1) := by decide +kernel
theorem dX2_letFall_0 : decode cX2_letFall 0 = .ok (.aload_n 0, 1) := by decide +kernel
theorem dX2_letFall_1 : decode cX2_letFall 1 = .ok (.getfield 23, 3) := by decide +kernel
theorem dX2_letFall_4 : decode cX2_letFall 4 = .ok (.iconst 2, 1) := by decide +kernel
theorem dX2_letFall_5 : decode cX2_letFall 5 = .ok (.iload_n 1, 1) := by decide +kernel
theorem dX2_letFall_6 : decode cX2_letFall 6 = .ok (.bipush 9, 2) := by decide +kernel
theorem dX2_letFall_8 : decode cX2_letFall 8 = .ok (.invokevirtual 139, 3) := by decide +kernel
theorem dX2_letFall_11 : decode cX2_letFall 11 = .ok (.aload_n 0, 1) := by decide +kernel
theorem dX2_letFall_12 : decode cX2_letFall 12 = .ok (.getfield 23, 3) := by decide +kernel
theorem dX2_letFall_15 : decode cX2_letFall 15 = .ok (.iconst 4, 1) := by decide +kernel
theorem dX2_letFall_16 : decode cX2_letFall 16 = .ok (.iload_n 1, 1) := by decide +kernel
theorem dX2_letFall_17 : decode cX2_letFall 17 = .ok (.iconst 0, 1) := by decide +kernel
theorem dX2_letFall_18 : decode cX2_letFall 18 = .ok (.invokevirtual 40, 3) := by decide +kernel
theorem dX2_letFall_21 : decode cX2_letFall 21 = .ok (.aload_n 0, 1) := by decide +kernel
theorem dX2_letFall_22 : decode cX2_letFall 22 = .ok (.getfield 23, 3) := by decide +kernel
theorem dX2_letFall_25 : decode cX2_letFall 25 = .ok (.bipush 6, 2) := by decide +kernel
theorem dX2_letFall_27 : decode cX2_letFall 27 = .ok (.iload_n 1, 1) := by decide +kernel
theorem dX2_letFall_28 : decode cX2_letFall 28 = .ok (.iconst 1, 1) := by decide +kernel
theorem dX2_letFall_29 : decode cX2_letFall 29 = .ok (.invokevirtual 117, 3) := by decide +kernel
theorem dX2_letFall_32 : decode cX2_letFall 32 = .ok (.aload_n 0, 1) := by decide +kernel
theorem dX2_letFall_33 : decode cX2_letFall 33 = .ok (.getfield 20, 3) := by decide +kernel
theorem dX2_letFall_36 : decode cX2_letFall 36 = .ok (.bipush 7, 2) := by decide +kernel
theorem dX2_letFall_38 : decode cX2_letFall 38 = .ok (.iload_n 2, 1) := by decide +kernel
theorem dX2_letFall_39 : decode cX2_letFall 39 = .ok (.iconst 1, 1) := by decide +kernel
theorem dX2_letFall_40 : decode cX2_letFall 40 = .ok (.invokevirtual 117, 3) := by decide +kernel
theorem dX2_letFall_43 : decode cX2_letFall 43 = .ok (.aload_n 0, 1) := by decide +kernel
theorem dX2_letFall_44 : decode cX2_letFall 44 = .ok (.getfield 55, 3) := by decide +kernel
theorem dX2_letFall_47 : decode cX2_letFall 47 = .ok (.bipush 20, 2) := by decide +kernel
theorem dX2_letFall_49 : decode cX2_letFall 49 = .ok (.irem, 1) := by decide +kernel
theorem dX2_letFall_50 : decode cX2_letFall 50 = .ok (.istore_n 3, 1) := by decide +kernel
theorem dX2_letFall_51 : decode cX2_letFall 51 = .ok (.aload_n 0, 1) := by decide +kernel
theorem dX2_letFall_52 : decode cX2_letFall 52 = .ok (.getfield 29, 3) := by decide +kernel
theorem dX2_letFall_55 : decode cX2_letFall 55 = .ok (.iconst 0, 1) := by decide +kernel
theorem dX2_letFall_56 : decode cX2_letFall 56 = .ok (.iload_n 3, 1) := by decide +kernel
theorem dX2_letFall_57 : decode cX2_letFall 57 = .ok (.aload_n 0, 1) := by decide +kernel
theorem dX2_letFall_58 : decode cX2_letFall 58 = .ok (.getfield 44, 3) := by decide +kernel
theorem dX2_letFall_61 : decode cX2_letFall 61 = .ok (.invokevirtual 40, 3) := by decide +kernel
theorem dX2_letFall_64 : decode cX2_letFall 64 = .ok (.aload_n 0, 1) := by decide +kernel
theorem dX2_letFall_65 : decode cX2_letFall 65 = .ok (.getfield 29, 3) := by decide +kernel
theorem dX2_letFall_68 : decode cX2_letFall 68 = .ok (.iconst 1, 1) := by decide +kernel
theorem dX2_letFall_69 : decode cX2_letFall 69 = .ok (.iload_n 3, 1) := by decide +kernel
theorem dX2_letFall_70 : decode cX2_letFall 70 = .ok (.iload_n 1, 1) := by decide +kernel
theorem dX2_letFall_71 : decode cX2_letFall 71 = .ok (.invokevirtual 40, 3) := by decide +kernel
theorem dX2_letFall_74 : decode cX2_letFall 74 = .ok (.aload_n 0, 1) := by decide +kernel
theorem dX2_letFall_75 : decode cX2_letFall 75 = .ok (.getfield 29, 3) := by decide +kernel
theorem dX2_letFall_78 : decode cX2_letFall 78 = .ok (.iconst 2, 1) := by decide +kernel
theorem dX2_letFall_79 : decode cX2_letFall 79 = .ok (.iload_n 3, 1) := by decide +kernel
theorem dX2_letFall_80 : decode cX2_letFall 80 = .ok (.iload_n 2, 1) := by decide +kernel
theorem dX2_letFall_81 : decode cX2_letFall 81 = .ok (.invokevirtual 40, 3) := by decide +kernel
theorem dX2_letFall_84 : decode cX2_letFall 84 = .ok (.aload_n 0, 1) := by decide +kernel
theorem dX2_letFall_85 : decode cX2_letFall 85 = .ok (.dup, 1) := by decide +kernel
theorem dX2_letFall_86 : decode cX2_letFall 86 = .ok (.getfield 55, 3) := by decide +kernel
theorem dX2_letFall_89 : decode cX2_letFall 89 = .ok (.iconst 1, 1) := by decide +kernel
theorem dX2_letFall_90 : decode cX2_letFall 90 = .ok (.iadd, 1) := by decide +kernel
theorem dX2_letFall_91 : decode cX2_letFall 91 = .ok (.putfield 55, 3) := by decide +kernel
theorem dX2_letFall_94 : decode cX2_letFall 94 = .ok (.return_, 1) := by decide +kernel
theorem dX2_letLearn_0 : decode cX2_letLearn 0 = .ok (.aload_n 0, 1) := by decide +kernel
theorem dX2_letLearn_1 : decode cX2_letLearn 1 = .ok (.getfield 23, 3) := by decide +kernel
theorem dX2_letLearn_4 : decode cX2_letLearn 4 = .ok (.iconst 2, 1) := by decide +kernel
theorem dX2_letLearn_5 : decode cX2_letLearn 5 = .ok (.iload_n 1, 1) := by decide +kernel
theorem dX2_letLearn_6 : decode cX2_letLearn 6 = .ok (.iconst 1, 1) := by decide +kernel
theorem dX2_letLearn_7 : decode cX2_letLearn 7 = .ok (.invokevirtual 120, 3) := by decide +kernel
theorem dX2_letLearn_10 : decode cX2_letLearn 10 = .ok (.aload_n 0, 1) := by decide +kernel
theorem dX2_letLearn_11 : decode cX2_letLearn 11 = .ok (.getfield 23, 3) := by decide +kernel
theorem dX2_letLearn_14 : decode cX2_letLearn 14 = .ok (.iconst 4, 1) := by decide +kernel
theorem dX2_letLearn_15 : decode cX2_letLearn 15 = .ok (.iload_n 1, 1) := by decide +kernel
theorem dX2_letLearn_16 : decode cX2_letLearn 16 = .ok (.iconst 1, 1) := by decide +kernel
theorem dX2_letLearn_17 : decode cX2_letLearn 17 = .ok (.invokevirtual 117, 3) := by decide +kernel
theorem dX2_letLearn_20 : decode cX2_letLearn 20 = .ok (.aload_n 0, 1) := by decide +kernel
theorem dX2_letLearn_21 : decode cX2_letLearn 21 = .ok (.getfield 23, 3) := by decide +kernel
theorem dX2_letLearn_24 : decode cX2_letLearn 24 = .ok (.iconst 4, 1) := by decide +kernel
theorem dX2_letLearn_25 : decode cX2_letLearn 25 = .ok (.iload_n 1, 1) := by decide +kernel
theorem dX2_letLearn_26 : decode cX2_letLearn 26 = .ok (.invokevirtual 58, 3) := by decide +kernel
theorem dX2_letLearn_29 : decode cX2_letLearn 29 = .ok (.iconst 3, 1) := by decide +kernel
theorem dX2_letLearn_30 : decode cX2_letLearn 30 = .ok (.irem, 1) := by decide +kernel
theorem dX2_letLearn_31 : decode cX2_letLearn 31 = .ok (.ifCond .ne 14, 3) := by decide +kernel
theorem dX2_letLearn_34 : decode cX2_letLearn 34 = .ok (.aload_n 0, 1) := by decide +kernel
theorem dX2_letLearn_35 : decode cX2_letLearn 35 = .ok (.getfield 23, 3) := by decide +kernel
theorem dX2_letLearn_38 : decode cX2_letLearn 38 = .ok (.iconst 1, 1) := by decide +kernel
theorem dX2_letLearn_39 : decode cX2_letLearn 39 = .ok (.iload_n 1, 1) := by decide +kernel
theorem dX2_letLearn_40 : decode cX2_letLearn 40 = .ok (.bipush 9, 2) := by decide +kernel
theorem dX2_letLearn_42 : decode cX2_letLearn 42 = .ok (.invokevirtual 139, 3) := by decide +kernel
theorem dX2_letLearn_45 : decode cX2_letLearn 45 = .ok (.return_, 1) := by decide +kernel
theorem dX2_strain_0 : decode cX2_strain 0 = .ok (.iload_n 2, 1) := by decide +kernel
theorem dX2_strain_1 : decode cX2_strain 1 = .ok (.aload_n 0, 1) := by decide +kernel
theorem dX2_strain_2 : decode cX2_strain 2 = .ok (.getfield 14, 3) := by decide +kernel
theorem dX2_strain_5 : decode cX2_strain 5 = .ok (.iconst 0, 1) := by decide +kernel
theorem dX2_strain_6 : decode cX2_strain 6 = .ok (.iconst 2, 1) := by decide +kernel
theorem dX2_strain_7 : decode cX2_strain 7 = .ok (.invokevirtual 58, 3) := by decide +kernel
theorem dX2_strain_10 : decode cX2_strain 10 = .ok (.iadd, 1) := by decide +kernel
theorem dX2_strain_11 : decode cX2_strain 11 = .ok (.aload_n 0, 1) := by decide +kernel
theorem dX2_strain_12 : decode cX2_strain 12 = .ok (.getfield 20, 3) := by decide +kernel
theorem dX2_strain_15 : decode cX2_strain 15 = .ok (.iconst 0, 1) := by decide +kernel
theorem dX2_strain_16 : decode cX2_strain 16 = .ok (.iload_n 1, 1) := by decide +kernel
theorem dX2_strain_17 : decode cX2_strain 17 = .ok (.invokevirtual 58, 3) := by decide +kernel
theorem dX2_strain_20 : decode cX2_strain 20 = .ok (.if_icmp .gt 4, 3) := by decide +kernel
theorem dX2_strain_23 : decode cX2_strain 23 = .ok (.return_, 1) := by decide +kernel
theorem dX2_strain_24 : decode cX2_strain 24 = .ok (.aload_n 0, 1) := by decide +kernel
theorem dX2_strain_25 : decode cX2_strain 25 = .ok (.getfield 20, 3) := by decide +kernel
theorem dX2_strain_28 : decode cX2_strain 28 = .ok (.iconst 4, 1) := by decide +kernel
theorem dX2_strain_29 : decode cX2_strain 29 = .ok (.iload_n 1, 1) := by decide +kernel
theorem dX2_strain_30 : decode cX2_strain 30 = .ok (.iconst 1, 1) := by decide +kernel
theorem dX2_strain_31 : decode cX2_strain 31 = .ok (.invokevirtual 117, 3) := by decide +kernel
theorem dX2_strain_34 : decode cX2_strain 34 = .ok (.aload_n 0, 1) := by decide +kernel
theorem dX2_strain_35 : decode cX2_strain 35 = .ok (.getfield 20, 3) := by decide +kernel
theorem dX2_strain_38 : decode cX2_strain 38 = .ok (.iconst 4, 1) := by decide +kernel
theorem dX2_strain_39 : decode cX2_strain 39 = .ok (.iload_n 1, 1) := by decide +kernel
theorem dX2_strain_40 : decode cX2_strain 40 = .ok (.invokevirtual 58, 3) := by decide +kernel
theorem dX2_strain_43 : decode cX2_strain 43 = .ok (.iconst 3, 1) := by decide +kernel
theorem dX2_strain_44 : decode cX2_strain 44 = .ok (.if_icmp .lt 31, 3) := by decide +kernel
theorem dX2_strain_47 : decode cX2_strain 47 = .ok (.aload_n 0, 1) := by decide +kernel
theorem dX2_strain_48 : decode cX2_strain 48 = .ok (.getfield 20, 3) := by decide +kernel
theorem dX2_strain_51 : decode cX2_strain 51 = .ok (.iconst 5, 1) := by decide +kernel
theorem dX2_strain_52 : decode cX2_strain 52 = .ok (.iload_n 1, 1) := by decide +kernel
theorem dX2_strain_53 : decode cX2_strain 53 = .ok (.aload_n 0, 1) := by decide +kernel
theorem dX2_strain_54 : decode cX2_strain 54 = .ok (.getfield 14, 3) := by decide +kernel
theorem dX2_strain_57 : decode cX2_strain 57 = .ok (.iconst 0, 1) := by decide +kernel
theorem dX2_strain_58 : decode cX2_strain 58 = .ok (.iconst 3, 1) := by decide +kernel
theorem dX2_strain_59 : decode cX2_strain 59 = .ok (.invokevirtual 58, 3) := by decide +kernel
theorem dX2_strain_62 : decode cX2_strain 62 = .ok (.invokevirtual 40, 3) := by decide +kernel
theorem dX2_strain_65 : decode cX2_strain 65 = .ok (.aload_n 0, 1) := by decide +kernel
theorem dX2_strain_66 : decode cX2_strain 66 = .ok (.getfield 20, 3) := by decide +kernel
theorem dX2_strain_69 : decode cX2_strain 69 = .ok (.iconst 4, 1) := by decide +kernel
theorem dX2_strain_70 : decode cX2_strain 70 = .ok (.iload_n 1, 1) := by decide +kernel
theorem dX2_strain_71 : decode cX2_strain 71 = .ok (.iconst 0, 1) := by decide +kernel
theorem dX2_strain_72 : decode cX2_strain 72 = .ok (.invokevirtual 40, 3) := by decide +kernel
theorem dX2_strain_75 : decode cX2_strain 75 = .ok (.return_, 1) := by decide +kernel
theorem dX2_fallsSoFar_0 : decode cX2_fallsSoFar 0 = .ok (.aload_n 0, 1) := by decide +kernel
theorem dX2_fallsSoFar_1 : decode cX2_fallsSoFar 1 = .ok (.getfield 55, 3) := by decide +kernel
theorem dX2_fallsSoFar_4 : decode cX2_fallsSoFar 4 = .ok (.ireturn, 1) := by decide +kernel
theorem dX2_ofFall_0 : decode cX2_ofFall 0 = .ok (.iload_n 1, 1) := by decide +kernel
theorem dX2_ofFall_1 : decode cX2_ofFall 1 = .ok (.ifCond .lt 16, 3) := by decide +kernel
theorem dX2_ofFall_4 : decode cX2_ofFall 4 = .ok (.iload_n 1, 1) := by decide +kernel
theorem dX2_ofFall_5 : decode cX2_ofFall 5 = .ok (.aload_n 0, 1) := by decide +kernel
theorem dX2_ofFall_6 : decode cX2_ofFall 6 = .ok (.getfield 55, 3) := by decide +kernel
theorem dX2_ofFall_9 : decode cX2_ofFall 9 = .ok (.bipush 20, 2) := by decide +kernel
theorem dX2_ofFall_11 : decode cX2_ofFall 11 = .ok (.invokestatic 93, 3) := by decide +kernel
theorem dX2_ofFall_14 : decode cX2_ofFall 14 = .ok (.if_icmp .lt 6, 3) := by decide +kernel
theorem dX2_ofFall_17 : decode cX2_ofFall 17 = .ok (.bipush (-5), 2) := by decide +kernel
theorem dX2_ofFall_19 : decode cX2_ofFall 19 = .ok (.ireturn, 1) := by decide +kernel
theorem dX2_ofFall_20 : decode cX2_ofFall 20 = .ok (.aload_n 0, 1) := by decide +kernel
theorem dX2_ofFall_21 : decode cX2_ofFall 21 = .ok (.getfield 29, 3) := by decide +kernel
theorem dX2_ofFall_24 : decode cX2_ofFall 24 = .ok (.iload_n 2, 1) := by decide +kernel
theorem dX2_ofFall_25 : decode cX2_ofFall 25 = .ok (.aload_n 0, 1) := by decide +kernel
theorem dX2_ofFall_26 : decode cX2_ofFall 26 = .ok (.getfield 55, 3) := by decide +kernel
theorem dX2_ofFall_29 : decode cX2_ofFall 29 = .ok (.iconst 1, 1) := by decide +kernel
theorem dX2_ofFall_30 : decode cX2_ofFall 30 = .ok (.isub, 1) := by decide +kernel
theorem dX2_ofFall_31 : decode cX2_ofFall 31 = .ok (.iload_n 1, 1) := by decide +kernel
theorem dX2_ofFall_32 : decode cX2_ofFall 32 = .ok (.isub, 1) := by decide +kernel
theorem dX2_ofFall_33 : decode cX2_ofFall 33 = .ok (.bipush 20, 2) := by decide +kernel
theorem dX2_ofFall_35 : decode cX2_ofFall 35 = .ok (.irem, 1) := by decide +kernel
theorem dX2_ofFall_36 : decode cX2_ofFall 36 = .ok (.invokevirtual 58, 3) := by decide +kernel
theorem dX2_ofFall_39 : decode cX2_ofFall 39 = .ok (.ireturn, 1) := by decide +kernel
theorem dX3_init_0 : decode cX3_init 0 = .ok (.aload_n 0, 1) := by decide +kernel
theorem dX3_init_1 : decode cX3_init 1 = .ok (.invokespecial 1, 3) := by decide +kernel
theorem dX3_init_4 : decode cX3_init 4 = .ok (.iload_n 1, 1) := by decide +kernel
theorem dX3_init_5 : decode cX3_init 5 = .ok (.iload_n 2, 1) := by decide +kernel
theorem dX3_init_6 : decode cX3_init 6 = .ok (.imul, 1) := by decide +kernel
theorem dX3_init_7 : decode cX3_init 7 = .ok (.istore_n 3, 1) := by decide +kernel
theorem dX3_init_8 : decode cX3_init 8 = .ok (.aload_n 0, 1) := by decide +kernel
theorem dX3_init_9 : decode cX3_init 9 = .ok (.iload_n 2, 1) := by decide +kernel
theorem dX3_init_10 : decode cX3_init 10 = .ok (.putfield 7, 3) := by decide +kernel
theorem dX3_init_13 : decode cX3_init 13 = .ok (.aload_n 0, 1) := by decide +kernel
theorem dX3_init_14 : decode cX3_init 14 = .ok (.iload_n 3, 1) := by decide +kernel
theorem dX3_init_15 : decode cX3_init 15 = .ok (.ifCond .le 7, 3) := by decide +kernel
theorem dX3_init_18 : decode cX3_init 18 = .ok (.iload_n 3, 1) := by decide +kernel
theorem dX3_init_19 : decode cX3_init 19 = .ok (.goto 4, 3) := by decide +kernel
theorem dX3_init_22 : decode cX3_init 22 = .ok (.iconst 0, 1) := by decide +kernel
theorem dX3_init_23 : decode cX3_init 23 = .ok (.newarray .int, 2) := by decide +kernel
theorem dX3_init_25 : decode cX3_init 25 = .ok (.putfield 13, 3) := by decide +kernel
theorem dX3_init_28 : decode cX3_init 28 = .ok (.return_, 1) := by decide +kernel
theorem dX3_at_0 : decode cX3_at 0 = .ok (.iload_n 1, 1) := by decide +kernel
theorem dX3_at_1 : decode cX3_at 1 = .ok (.aload_n 0, 1) := by decide +kernel
theorem dX3_at_2 : decode cX3_at 2 = .ok (.getfield 7, 3) := by decide +kernel
theorem dX3_at_5 : decode cX3_at 5 = .ok (.imul, 1) := by decide +kernel
theorem dX3_at_6 : decode cX3_at 6 = .ok (.iload_n 2, 1) := by decide +kernel
theorem dX3_at_7 : decode cX3_at 7 = .ok (.iadd, 1) := by decide +kernel
theorem dX3_at_8 : decode cX3_at 8 = .ok (.istore_n 3, 1) := by decide +kernel
theorem dX3_at_9 : decode cX3_at 9 = .ok (.iload_n 2, 1) := by decide +kernel
theorem dX3_at_10 : decode cX3_at 10 = .ok (.ifCond .lt 33, 3) := by decide +kernel
theorem dX3_at_13 : decode cX3_at 13 = .ok (.iload_n 2, 1) := by decide +kernel
theorem dX3_at_14 : decode cX3_at 14 = .ok (.aload_n 0, 1) := by decide +kernel
theorem dX3_at_15 : decode cX3_at 15 = .ok (.getfield 7, 3) := by decide +kernel
theorem dX3_at_18 : decode cX3_at 18 = .ok (.if_icmp .ge 25, 3) := by decide +kernel
theorem dX3_at_21 : decode cX3_at 21 = .ok (.iload_n 3, 1) := by decide +kernel
theorem dX3_at_22 : decode cX3_at 22 = .ok (.ifCond .lt 21, 3) := by decide +kernel
theorem dX3_at_25 : decode cX3_at 25 = .ok (.iload_n 3, 1) := by decide +kernel
theorem dX3_at_26 : decode cX3_at 26 = .ok (.aload_n 0, 1) := by decide +kernel
theorem dX3_at_27 : decode cX3_at 27 = .ok (.getfield 13, 3) := by decide +kernel
theorem dX3_at_30 : decode cX3_at 30 = .ok (.arraylength, 1) := by decide +kernel
theorem dX3_at_31 : decode cX3_at 31 = .ok (.if_icmp .ge 12, 3) := by decide +kernel
theorem dX3_at_34 : decode cX3_at 34 = .ok (.aload_n 0, 1) := by decide +kernel
theorem dX3_at_35 : decode cX3_at 35 = .ok (.getfield 13, 3) := by decide +kernel
theorem dX3_at_38 : decode cX3_at 38 = .ok (.iload_n 3, 1) := by decide +kernel
theorem dX3_at_39 : decode cX3_at 39 = .ok (.iaload, 1) := by decide +kernel
theorem dX3_at_40 : decode cX3_at 40 = .ok (.goto 4, 3) := by decide +kernel
theorem dX3_at_43 : decode cX3_at 43 = .ok (.iconst 0, 1) := by decide +kernel
theorem dX3_at_44 : decode cX3_at 44 = .ok (.ireturn, 1) := by decide +kernel
theorem dX3_put_0 : decode cX3_put 0 = .ok (.iload_n 1, 1) := by decide +kernel
theorem dX3_put_1 : decode cX3_put 1 = .ok (.aload_n 0, 1) := by decide +kernel
theorem dX3_put_2 : decode cX3_put 2 = .ok (.getfield 7, 3) := by decide +kernel
theorem dX3_put_5 : decode cX3_put 5 = .ok (.imul, 1) := by decide +kernel
theorem dX3_put_6 : decode cX3_put 6 = .ok (.iload_n 2, 1) := by decide +kernel
theorem dX3_put_7 : decode cX3_put 7 = .ok (.iadd, 1) := by decide +kernel
theorem dX3_put_8 : decode cX3_put 8 = .ok (.istore 4, 2) := by decide +kernel
theorem dX3_put_10 : decode cX3_put 10 = .ok (.iload_n 2, 1) := by decide +kernel
theorem dX3_put_11 : decode cX3_put 11 = .ok (.ifCond .lt 34, 3) := by decide +kernel
theorem dX3_put_14 : decode cX3_put 14 = .ok (.iload_n 2, 1) := by decide +kernel
theorem dX3_put_15 : decode cX3_put 15 = .ok (.aload_n 0, 1) := by decide +kernel
theorem dX3_put_16 : decode cX3_put 16 = .ok (.getfield 7, 3) := by decide +kernel
theorem dX3_put_19 : decode cX3_put 19 = .ok (.if_icmp .ge 26, 3) := by decide +kernel
theorem dX3_put_22 : decode cX3_put 22 = .ok (.iload 4, 2) := by decide +kernel
theorem dX3_put_24 : decode cX3_put 24 = .ok (.ifCond .lt 21, 3) := by decide +kernel
theorem dX3_put_27 : decode cX3_put 27 = .ok (.iload 4, 2) := by decide +kernel
theorem dX3_put_29 : decode cX3_put 29 = .ok (.aload_n 0, 1) := by decide +kernel
theorem dX3_put_30 : decode cX3_put 30 = .ok (.getfield 13, 3) := by decide +kernel
theorem dX3_put_33 : decode cX3_put 33 = .ok (.arraylength, 1) := by decide +kernel
theorem dX3_put_34 : decode cX3_put 34 = .ok (.if_icmp .ge 11, 3) := by decide +kernel
theorem dX3_put_37 : decode cX3_put 37 = .ok (.aload_n 0, 1) := by decide +kernel
theorem dX3_put_38 : decode cX3_put 38 = .ok (.getfield 13, 3) := by decide +kernel
theorem dX3_put_41 : decode cX3_put 41 = .ok (.iload 4, 2) := by decide +kernel
theorem dX3_put_43 : decode cX3_put 43 = .ok (.iload_n 3, 1) := by decide +kernel
theorem dX3_put_44 : decode cX3_put 44 = .ok (.iastore, 1) := by decide +kernel
theorem dX3_put_45 : decode cX3_put 45 = .ok (.return_, 1) := by decide +kernel
theorem dX3_add_0 : decode cX3_add 0 = .ok (.aload_n 0, 1) := by decide +kernel
theorem dX3_add_1 : decode cX3_add 1 = .ok (.iload_n 1, 1) := by decide +kernel
theorem dX3_add_2 : decode cX3_add 2 = .ok (.iload_n 2, 1) := by decide +kernel
theorem dX3_add_3 : decode cX3_add 3 = .ok (.aload_n 0, 1) := by decide +kernel
theorem dX3_add_4 : decode cX3_add 4 = .ok (.iload_n 1, 1) := by decide +kernel
theorem dX3_add_5 : decode cX3_add 5 = .ok (.iload_n 2, 1) := by decide +kernel
theorem dX3_add_6 : decode cX3_add 6 = .ok (.invokevirtual 17, 3) := by decide +kernel
theorem dX3_add_9 : decode cX3_add 9 = .ok (.iload_n 3, 1) := by decide +kernel
theorem dX3_add_10 : decode cX3_add 10 = .ok (.iadd, 1) := by decide +kernel
theorem dX3_add_11 : decode cX3_add 11 = .ok (.invokevirtual 21, 3) := by decide +kernel
theorem dX3_add_14 : decode cX3_add 14 = .ok (.return_, 1) := by decide +kernel
theorem dX3_takeAway_0 : decode cX3_takeAway 0 = .ok (.aload_n 0, 1) := by decide +kernel
theorem dX3_takeAway_1 : decode cX3_takeAway 1 = .ok (.iload_n 1, 1) := by decide +kernel
theorem dX3_takeAway_2 : decode cX3_takeAway 2 = .ok (.iload_n 2, 1) := by decide +kernel
theorem dX3_takeAway_3 : decode cX3_takeAway 3 = .ok (.iconst 0, 1) := by decide +kernel
theorem dX3_takeAway_4 : decode cX3_takeAway 4 = .ok (.aload_n 0, 1) := by decide +kernel
theorem dX3_takeAway_5 : decode cX3_takeAway 5 = .ok (.iload_n 1, 1) := by decide +kernel
theorem dX3_takeAway_6 : decode cX3_takeAway 6 = .ok (.iload_n 2, 1) := by decide +kernel
theorem dX3_takeAway_7 : decode cX3_takeAway 7 = .ok (.invokevirtual 17, 3) := by decide +kernel
theorem dX3_takeAway_10 : decode cX3_takeAway 10 = .ok (.iload_n 3, 1) := by decide +kernel
theorem dX3_takeAway_11 : decode cX3_takeAway 11 = .ok (.isub, 1) := by decide +kernel
theorem dX3_takeAway_12 : decode cX3_takeAway 12 = .ok (.invokestatic 25, 3) := by decide +kernel
theorem dX3_takeAway_15 : decode cX3_takeAway 15 = .ok (.invokevirtual 21, 3) := by decide +kernel
theorem dX3_takeAway_18 : decode cX3_takeAway 18 = .ok (.return_, 1) := by decide +kernel
theorem dX3_addUpTo_0 : decode cX3_addUpTo 0 = .ok (.aload_n 0, 1) := by decide +kernel
theorem dX3_addUpTo_1 : decode cX3_addUpTo 1 = .ok (.iload_n 1, 1) := by decide +kernel
theorem dX3_addUpTo_2 : decode cX3_addUpTo 2 = .ok (.iload_n 2, 1) := by decide +kernel
theorem dX3_addUpTo_3 : decode cX3_addUpTo 3 = .ok (.iload_n 3, 1) := by decide +kernel
theorem dX3_addUpTo_4 : decode cX3_addUpTo 4 = .ok (.aload_n 0, 1) := by decide +kernel
theorem dX3_addUpTo_5 : decode cX3_addUpTo 5 = .ok (.iload_n 1, 1) := by decide +kernel
theorem dX3_addUpTo_6 : decode cX3_addUpTo 6 = .ok (.iload_n 2, 1) := by decide +kernel
theorem dX3_addUpTo_7 : decode cX3_addUpTo 7 = .ok (.invokevirtual 17, 3) := by decide +kernel
theorem dX3_addUpTo_10 : decode cX3_addUpTo 10 = .ok (.iconst 1, 1) := by decide +kernel
theorem dX3_addUpTo_11 : decode cX3_addUpTo 11 = .ok (.iadd, 1) := by decide +kernel
theorem dX3_addUpTo_12 : decode cX3_addUpTo 12 = .ok (.invokestatic 30, 3) := by decide +kernel
theorem dX3_addUpTo_15 : decode cX3_addUpTo 15 = .ok (.invokevirtual 21, 3) := by decide +kernel
theorem dX3_addUpTo_18 : decode cX3_addUpTo 18 = .ok (.return_, 1) := by decide +kernel
theorem dX3_sum_0 : decode cX3_sum 0 = .ok (.iconst 0, 1) := by decide +kernel
theorem dX3_sum_1 : decode cX3_sum 1 = .ok (.istore_n 2, 1) := by decide +kernel
theorem dX3_sum_2 : decode cX3_sum 2 = .ok (.iconst 0, 1) := by decide +kernel
theorem dX3_sum_3 : decode cX3_sum 3 = .ok (.istore_n 3, 1) := by decide +kernel
theorem dX3_sum_4 : decode cX3_sum 4 = .ok (.iload_n 3, 1) := by decide +kernel
theorem dX3_sum_5 : decode cX3_sum 5 = .ok (.aload_n 0, 1) := by decide +kernel
theorem dX3_sum_6 : decode cX3_sum 6 = .ok (.getfield 7, 3) := by decide +kernel
theorem dX3_sum_9 : decode cX3_sum 9 = .ok (.if_icmp .ge 18, 3) := by decide +kernel
theorem dX3_sum_12 : decode cX3_sum 12 = .ok (.iload_n 2, 1) := by decide +kernel
theorem dX3_sum_13 : decode cX3_sum 13 = .ok (.aload_n 0, 1) := by decide +kernel
theorem dX3_sum_14 : decode cX3_sum 14 = .ok (.iload_n 1, 1) := by decide +kernel
theorem dX3_sum_15 : decode cX3_sum 15 = .ok (.iload_n 3, 1) := by decide +kernel
theorem dX3_sum_16 : decode cX3_sum 16 = .ok (.invokevirtual 17, 3) := by decide +kernel
theorem dX3_sum_19 : decode cX3_sum 19 = .ok (.iadd, 1) := by decide +kernel
theorem dX3_sum_20 : decode cX3_sum 20 = .ok (.istore_n 2, 1) := by decide +kernel
theorem dX3_sum_21 : decode cX3_sum 21 = .ok (.iinc 3 1, 3) := by decide +kernel
theorem dX3_sum_24 : decode cX3_sum 24 = .ok (.goto (-20), 3) := by decide +kernel
theorem dX3_sum_27 : decode cX3_sum 27 = .ok (.iload_n 2, 1) := by decide +kernel
theorem dX3_sum_28 : decode cX3_sum 28 = .ok (.ireturn, 1) := by decide +kernel
theorem dX3_moveColumn_0 : decode cX3_moveColumn 0 = .ok (.iconst 0, 1) := by decide +kernel
theorem dX3_moveColumn_1 : decode cX3_moveColumn 1 = .ok (.istore 4, 2) := by decide +kernel
theorem dX3_moveColumn_3 : decode cX3_moveColumn 3 = .ok (.iload 4, 2) := by decide +kernel
theorem dX3_moveColumn_5 : decode cX3_moveColumn 5 = .ok (.iload_n 3, 1) := by decide +kernel
theorem dX3_moveColumn_6 : decode cX3_moveColumn 6 = .ok (.if_icmp .ge 23, 3) := by decide +kernel
theorem dX3_moveColumn_9 : decode cX3_moveColumn 9 = .ok (.aload_n 0, 1) := by decide +kernel
theorem dX3_moveColumn_10 : decode cX3_moveColumn 10 = .ok (.iload 4, 2) := by decide +kernel
theorem dX3_moveColumn_12 : decode cX3_moveColumn 12 = .ok (.iload_n 2, 1) := by decide +kernel
theorem dX3_moveColumn_13 : decode cX3_moveColumn 13 = .ok (.aload_n 0, 1) := by decide +kernel
theorem dX3_moveColumn_14 : decode cX3_moveColumn 14 = .ok (.iload 4, 2) := by decide +kernel
theorem dX3_moveColumn_16 : decode cX3_moveColumn 16 = .ok (.iload_n 1, 1) := by decide +kernel
theorem dX3_moveColumn_17 : decode cX3_moveColumn 17 = .ok (.invokevirtual 17, 3) := by decide +kernel
theorem dX3_moveColumn_20 : decode cX3_moveColumn 20 = .ok (.invokevirtual 21, 3) := by decide +kernel
theorem dX3_moveColumn_23 : decode cX3_moveColumn 23 = .ok (.iinc 4 1, 3) := by decide +kernel
theorem dX3_moveColumn_26 : decode cX3_moveColumn 26 = .ok (.goto (-23), 3) := by decide +kernel
theorem dX3_moveColumn_29 : decode cX3_moveColumn 29 = .ok (.return_, 1) := by decide +kernel
theorem dX3_copyFrom_0 : decode cX3_copyFrom 0 = .ok (.aload_n 1, 1) := by decide +kernel
theorem dX3_copyFrom_1 : decode cX3_copyFrom 1 = .ok (.getfield 13, 3) := by decide +kernel
theorem dX3_copyFrom_4 : decode cX3_copyFrom 4 = .ok (.arraylength, 1) := by decide +kernel
theorem dX3_copyFrom_5 : decode cX3_copyFrom 5 = .ok (.aload_n 0, 1) := by decide +kernel
theorem dX3_copyFrom_6 : decode cX3_copyFrom 6 = .ok (.getfield 13, 3) := by decide +kernel
theorem dX3_copyFrom_9 : decode cX3_copyFrom 9 = .ok (.arraylength, 1) := by decide +kernel
theorem dX3_copyFrom_10 : decode cX3_copyFrom 10 = .ok (.if_icmp .ne 21, 3) := by decide +kernel
theorem dX3_copyFrom_13 : decode cX3_copyFrom 13 = .ok (.aload_n 1, 1) := by decide +kernel
theorem dX3_copyFrom_14 : decode cX3_copyFrom 14 = .ok (.getfield 13, 3) := by decide +kernel
theorem dX3_copyFrom_17 : decode cX3_copyFrom 17 = .ok (.iconst 0, 1) := by decide +kernel
theorem dX3_copyFrom_18 : decode cX3_copyFrom 18 = .ok (.aload_n 0, 1) := by decide +kernel
theorem dX3_copyFrom_19 : decode cX3_copyFrom 19 = .ok (.getfield 13, 3) := by decide +kernel
theorem dX3_copyFrom_22 : decode cX3_copyFrom 22 = .ok (.iconst 0, 1) := by decide +kernel
theorem dX3_copyFrom_23 : decode cX3_copyFrom 23 = .ok (.aload_n 0, 1) := by decide +kernel
theorem dX3_copyFrom_24 : decode cX3_copyFrom 24 = .ok (.getfield 13, 3) := by decide +kernel
theorem dX3_copyFrom_27 : decode cX3_copyFrom 27 = .ok (.arraylength, 1) := by decide +kernel
theorem dX3_copyFrom_28 : decode cX3_copyFrom 28 = .ok (.invokestatic 33, 3) := by decide +kernel
theorem dX3_copyFrom_31 : decode cX3_copyFrom 31 = .ok (.return_, 1) := by decide +kernel
theorem dX4_init_0 : decode cX4_init 0 = .ok (.aload_n 0, 1) := by decide +kernel
theorem dX4_init_1 : decode cX4_init 1 = .ok (.invokespecial 3, 3) := by decide +kernel
theorem dX4_init_4 : decode cX4_init 4 = .ok (.aload_n 0, 1) := by decide +kernel
theorem dX4_init_5 : decode cX4_init 5 = .ok (.bipush 60, 2) := by decide +kernel
theorem dX4_init_7 : decode cX4_init 7 = .ok (.newarray .char, 2) := by decide +kernel
theorem dX4_init_9 : decode cX4_init 9 = .ok (.putfield 9, 3) := by decide +kernel
theorem dX4_init_12 : decode cX4_init 12 = .ok (.return_, 1) := by decide +kernel
theorem dX4_length_0 : decode cX4_length 0 = .ok (.aload_n 0, 1) := by decide +kernel
theorem dX4_length_1 : decode cX4_length 1 = .ok (.getfield 15, 3) := by decide +kernel
theorem dX4_length_4 : decode cX4_length 4 = .ok (.ireturn, 1) := by decide +kernel
theorem dX4_characterAt_0 : decode cX4_characterAt 0 = .ok (.iload_n 1, 1) := by decide +kernel
theorem dX4_characterAt_1 : decode cX4_characterAt 1 = .ok (.ifCond .lt 21, 3) := by decide +kernel
theorem dX4_characterAt_4 : decode cX4_characterAt 4 = .ok (.iload_n 1, 1) := by decide +kernel
theorem dX4_characterAt_5 : decode cX4_characterAt 5 = .ok (.aload_n 0, 1) := by decide +kernel
theorem dX4_characterAt_6 : decode cX4_characterAt 6 = .ok (.getfield 9, 3) := by decide +kernel
theorem dX4_characterAt_9 : decode cX4_characterAt 9 = .ok (.arraylength, 1) := by decide +kernel
theorem dX4_characterAt_10 : decode cX4_characterAt 10 = .ok (.if_icmp .ge 12, 3) := by decide +kernel
theorem dX4_characterAt_13 : decode cX4_characterAt 13 = .ok (.aload_n 0, 1) := by decide +kernel
theorem dX4_characterAt_14 : decode cX4_characterAt 14 = .ok (.getfield 9, 3) := by decide +kernel
theorem dX4_characterAt_17 : decode cX4_characterAt 17 = .ok (.iload_n 1, 1) := by decide +kernel
theorem dX4_characterAt_18 : decode cX4_characterAt 18 = .ok (.caload, 1) := by decide +kernel
theorem dX4_characterAt_19 : decode cX4_characterAt 19 = .ok (.goto 4, 3) := by decide +kernel
theorem dX4_characterAt_22 : decode cX4_characterAt 22 = .ok (.iconst 0, 1) := by decide +kernel
theorem dX4_characterAt_23 : decode cX4_characterAt 23 = .ok (.ireturn, 1) := by decide +kernel
theorem dX4_append_0 : decode cX4_append 0 = .ok (.aload_n 0, 1) := by decide +kernel
theorem dX4_append_1 : decode cX4_append 1 = .ok (.getfield 15, 3) := by decide +kernel
theorem dX4_append_4 : decode cX4_append 4 = .ok (.ifCond .lt 15, 3) := by decide +kernel
theorem dX4_append_7 : decode cX4_append 7 = .ok (.aload_n 0, 1) := by decide +kernel
theorem dX4_append_8 : decode cX4_append 8 = .ok (.getfield 15, 3) := by decide +kernel
theorem dX4_append_11 : decode cX4_append 11 = .ok (.aload_n 0, 1) := by decide +kernel
theorem dX4_append_12 : decode cX4_append 12 = .ok (.getfield 9, 3) := by decide +kernel
theorem dX4_append_15 : decode cX4_append 15 = .ok (.arraylength, 1) := by decide +kernel
theorem dX4_append_16 : decode cX4_append 16 = .ok (.if_icmp .lt 5, 3) := by decide +kernel
theorem dX4_append_19 : decode cX4_append 19 = .ok (.iconst 0, 1) := by decide +kernel
theorem dX4_append_20 : decode cX4_append 20 = .ok (.ireturn, 1) := by decide +kernel
theorem dX4_append_21 : decode cX4_append 21 = .ok (.aload_n 0, 1) := by decide +kernel
theorem dX4_append_22 : decode cX4_append 22 = .ok (.getfield 9, 3) := by decide +kernel
theorem dX4_append_25 : decode cX4_append 25 = .ok (.aload_n 0, 1) := by decide +kernel
theorem dX4_append_26 : decode cX4_append 26 = .ok (.getfield 15, 3) := by decide +kernel
theorem dX4_append_29 : decode cX4_append 29 = .ok (.iload_n 1, 1) := by decide +kernel
theorem dX4_append_30 : decode cX4_append 30 = .ok (.castore, 1) := by decide +kernel
theorem dX4_append_31 : decode cX4_append 31 = .ok (.aload_n 0, 1) := by decide +kernel
theorem dX4_append_32 : decode cX4_append 32 = .ok (.dup, 1) := by decide +kernel
theorem dX4_append_33 : decode cX4_append 33 = .ok (.getfield 15, 3) := by decide +kernel
theorem dX4_append_36 : decode cX4_append 36 = .ok (.iconst 1, 1) := by decide +kernel
theorem dX4_append_37 : decode cX4_append 37 = .ok (.iadd, 1) := by decide +kernel
theorem dX4_append_38 : decode cX4_append 38 = .ok (.putfield 15, 3) := by decide +kernel
theorem dX4_append_41 : decode cX4_append 41 = .ok (.iconst 1, 1) := by decide +kernel
theorem dX4_append_42 : decode cX4_append 42 = .ok (.ireturn, 1) := by decide +kernel
theorem dX4_empty_0 : decode cX4_empty 0 = .ok (.aload_n 0, 1) := by decide +kernel
theorem dX4_empty_1 : decode cX4_empty 1 = .ok (.iconst 0, 1) := by decide +kernel
theorem dX4_empty_2 : decode cX4_empty 2 = .ok (.putfield 15, 3) := by decide +kernel
theorem dX4_empty_5 : decode cX4_empty 5 = .ok (.return_, 1) := by decide +kernel
theorem dX5_init_0 : decode cX5_init 0 = .ok (.aload_n 0, 1) := by decide +kernel
theorem dX5_init_1 : decode cX5_init 1 = .ok (.invokespecial 1, 3) := by decide +kernel
theorem dX5_init_4 : decode cX5_init 4 = .ok (.aload_n 0, 1) := by decide +kernel
theorem dX5_init_5 : decode cX5_init 5 = .ok (.new 7, 3) := by decide +kernel
theorem dX5_init_8 : decode cX5_init 8 = .ok (.dup, 1) := by decide +kernel
theorem dX5_init_9 : decode cX5_init 9 = .ok (.invokespecial 9, 3) := by decide +kernel
theorem dX5_init_12 : decode cX5_init 12 = .ok (.putfield 10, 3) := by decide +kernel
theorem dX5_init_15 : decode cX5_init 15 = .ok (.aload_n 0, 1) := by decide +kernel
theorem dX5_init_16 : decode cX5_init 16 = .ok (.new 7, 3) := by decide +kernel
theorem dX5_init_19 : decode cX5_init 19 = .ok (.dup, 1) := by decide +kernel
theorem dX5_init_20 : decode cX5_init 20 = .ok (.invokespecial 9, 3) := by decide +kernel
theorem dX5_init_23 : decode cX5_init 23 = .ok (.putfield 16, 3) := by decide +kernel
theorem dX5_init_26 : decode cX5_init 26 = .ok (.aload_n 0, 1) := by decide +kernel
theorem dX5_init_27 : decode cX5_init 27 = .ok (.new 7, 3) := by decide +kernel
theorem dX5_init_30 : decode cX5_init 30 = .ok (.dup, 1) := by decide +kernel
theorem dX5_init_31 : decode cX5_init 31 = .ok (.invokespecial 9, 3) := by decide +kernel
theorem dX5_init_34 : decode cX5_init 34 = .ok (.putfield 19, 3) := by decide +kernel
theorem dX5_init_37 : decode cX5_init 37 = .ok (.aload_n 0, 1) := by decide +kernel
theorem dX5_init_38 : decode cX5_init 38 = .ok (.new 22, 3) := by decide +kernel
theorem dX5_init_41 : decode cX5_init 41 = .ok (.dup, 1) := by decide +kernel
theorem dX5_init_42 : decode cX5_init 42 = .ok (.invokespecial 24, 3) := by decide +kernel
theorem dX5_init_45 : decode cX5_init 45 = .ok (.putfield 25, 3) := by decide +kernel
theorem dX5_init_48 : decode cX5_init 48 = .ok (.aload_n 0, 1) := by decide +kernel
theorem dX5_init_49 : decode cX5_init 49 = .ok (.new 29, 3) := by decide +kernel
theorem dX5_init_52 : decode cX5_init 52 = .ok (.dup, 1) := by decide +kernel
theorem dX5_init_53 : decode cX5_init 53 = .ok (.invokespecial 31, 3) := by decide +kernel
theorem dX5_init_56 : decode cX5_init 56 = .ok (.putfield 32, 3) := by decide +kernel
theorem dX5_init_59 : decode cX5_init 59 = .ok (.aload_n 0, 1) := by decide +kernel
theorem dX5_init_60 : decode cX5_init 60 = .ok (.new 36, 3) := by decide +kernel
theorem dX5_init_63 : decode cX5_init 63 = .ok (.dup, 1) := by decide +kernel
theorem dX5_init_64 : decode cX5_init 64 = .ok (.invokespecial 38, 3) := by decide +kernel
theorem dX5_init_67 : decode cX5_init 67 = .ok (.putfield 39, 3) := by decide +kernel
theorem dX5_init_70 : decode cX5_init 70 = .ok (.return_, 1) := by decide +kernel
theorem dX5_setHorse_0 : decode cX5_setHorse 0 = .ok (.iload_n 1, 1) := by decide +kernel
theorem dX5_setHorse_1 : decode cX5_setHorse 1 = .ok (.invokestatic 43, 3) := by decide +kernel
theorem dX5_setHorse_4 : decode cX5_setHorse 4 = .ok (.ifCond .eq 5, 3) := by decide +kernel
theorem dX5_setHorse_7 : decode cX5_setHorse 7 = .ok (.iconst (-1), 1) := by decide +kernel
theorem dX5_setHorse_8 : decode cX5_setHorse 8 = .ok (.ireturn, 1) := by decide +kernel
theorem dX5_setHorse_9 : decode cX5_setHorse 9 = .ok (.iload_n 2, 1) := by decide +kernel
theorem dX5_setHorse_10 : decode cX5_setHorse 10 = .ok (.bipush 20, 2) := by decide +kernel
theorem dX5_setHorse_12 : decode cX5_setHorse 12 = .ok (.sipush 150, 3) := by decide +kernel
theorem dX5_setHorse_15 : decode cX5_setHorse 15 = .ok (.invokestatic 47, 3) := by decide +kernel
theorem dX5_setHorse_18 : decode cX5_setHorse 18 = .ok (.ifCond .ne 13, 3) := by decide +kernel
theorem dX5_setHorse_21 : decode cX5_setHorse 21 = .ok (.iload_n 3, 1) := by decide +kernel
theorem dX5_setHorse_22 : decode cX5_setHorse 22 = .ok (.iconst 0, 1) := by decide +kernel
theorem dX5_setHorse_23 : decode cX5_setHorse 23 = .ok (.bipush 9, 2) := by decide +kernel
theorem dX5_setHorse_25 : decode cX5_setHorse 25 = .ok (.invokestatic 47, 3) := by decide +kernel
theorem dX5_setHorse_28 : decode cX5_setHorse 28 = .ok (.ifCond .eq 6, 3) := by decide +kernel
theorem dX5_setHorse_31 : decode cX5_setHorse 31 = .ok (.bipush (-2), 2) := by decide +kernel
theorem dX5_setHorse_33 : decode cX5_setHorse 33 = .ok (.ireturn, 1) := by decide +kernel
theorem dX5_setHorse_34 : decode cX5_setHorse 34 = .ok (.aload_n 0, 1) := by decide +kernel
theorem dX5_setHorse_35 : decode cX5_setHorse 35 = .ok (.getfield 10, 3) := by decide +kernel
theorem dX5_setHorse_38 : decode cX5_setHorse 38 = .ok (.iload_n 1, 1) := by decide +kernel
theorem dX5_setHorse_39 : decode cX5_setHorse 39 = .ok (.iconst 0, 1) := by decide +kernel
theorem dX5_setHorse_40 : decode cX5_setHorse 40 = .ok (.invokevirtual 51, 3) := by decide +kernel
theorem dX5_setHorse_43 : decode cX5_setHorse 43 = .ok (.istore 4, 2) := by decide +kernel
theorem dX5_setHorse_45 : decode cX5_setHorse 45 = .ok (.iload 4, 2) := by decide +kernel
theorem dX5_setHorse_47 : decode cX5_setHorse 47 = .ok (.iload_n 2, 1) := by decide +kernel
theorem dX5_setHorse_48 : decode cX5_setHorse 48 = .ok (.if_icmp .ne 19, 3) := by decide +kernel
theorem dX5_setHorse_51 : decode cX5_setHorse 51 = .ok (.aload_n 0, 1) := by decide +kernel
theorem dX5_setHorse_52 : decode cX5_setHorse 52 = .ok (.getfield 10, 3) := by decide +kernel
theorem dX5_setHorse_55 : decode cX5_setHorse 55 = .ok (.iload_n 1, 1) := by decide +kernel
theorem dX5_setHorse_56 : decode cX5_setHorse 56 = .ok (.iconst 1, 1) := by decide +kernel
theorem dX5_setHorse_57 : decode cX5_setHorse 57 = .ok (.invokevirtual 51, 3) := by decide +kernel
theorem dX5_setHorse_60 : decode cX5_setHorse 60 = .ok (.iload_n 3, 1) := by decide +kernel
theorem dX5_setHorse_61 : decode cX5_setHorse 61 = .ok (.if_icmp .ne 6, 3) := by decide +kernel
theorem dX5_setHorse_64 : decode cX5_setHorse 64 = .ok (.bipush (-5), 2) := by decide +kernel
theorem dX5_setHorse_66 : decode cX5_setHorse 66 = .ok (.ireturn, 1) := by decide +kernel
theorem dX5_setHorse_67 : decode cX5_setHorse 67 = .ok (.aload_n 0, 1) := by decide +kernel
theorem dX5_setHorse_68 : decode cX5_setHorse 68 = .ok (.getfield 25, 3) := by decide +kernel
theorem dX5_setHorse_71 : decode cX5_setHorse 71 = .ok (.aload_n 0, 1) := by decide +kernel
theorem dX5_setHorse_72 : decode cX5_setHorse 72 = .ok (.getfield 10, 3) := by decide +kernel
theorem dX5_setHorse_75 : decode cX5_setHorse 75 = .ok (.invokevirtual 55, 3) := by decide +kernel
theorem dX5_setHorse_78 : decode cX5_setHorse 78 = .ok (.aload_n 0, 1) := by decide +kernel
theorem dX5_setHorse_79 : decode cX5_setHorse 79 = .ok (.getfield 10, 3) := by decide +kernel
theorem dX5_setHorse_82 : decode cX5_setHorse 82 = .ok (.iload_n 1, 1) := by decide +kernel
theorem dX5_setHorse_83 : decode cX5_setHorse 83 = .ok (.iload_n 2, 1) := by decide +kernel
theorem dX5_setHorse_84 : decode cX5_setHorse 84 = .ok (.iload_n 3, 1) := by decide +kernel
theorem dX5_setHorse_85 : decode cX5_setHorse 85 = .ok (.invokevirtual 59, 3) := by decide +kernel
theorem dX5_setHorse_88 : decode cX5_setHorse 88 = .ok (.iload 4, 2) := by decide +kernel
theorem dX5_setHorse_90 : decode cX5_setHorse 90 = .ok (.ireturn, 1) := by decide +kernel
theorem dX5_setRider_0 : decode cX5_setRider 0 = .ok (.iload_n 1, 1) := by decide +kernel
theorem dX5_setRider_1 : decode cX5_setRider 1 = .ok (.invokestatic 63, 3) := by decide +kernel
theorem dX5_setRider_4 : decode cX5_setRider 4 = .ok (.ifCond .eq 5, 3) := by decide +kernel
theorem dX5_setRider_7 : decode cX5_setRider 7 = .ok (.iconst (-1), 1) := by decide +kernel
theorem dX5_setRider_8 : decode cX5_setRider 8 = .ok (.ireturn, 1) := by decide +kernel
theorem dX5_setRider_9 : decode cX5_setRider 9 = .ok (.iload_n 2, 1) := by decide +kernel
theorem dX5_setRider_10 : decode cX5_setRider 10 = .ok (.bipush 20, 2) := by decide +kernel
theorem dX5_setRider_12 : decode cX5_setRider 12 = .ok (.sipush 150, 3) := by decide +kernel
theorem dX5_setRider_15 : decode cX5_setRider 15 = .ok (.invokestatic 47, 3) := by decide +kernel
theorem dX5_setRider_18 : decode cX5_setRider 18 = .ok (.ifCond .ne 13, 3) := by decide +kernel
theorem dX5_setRider_21 : decode cX5_setRider 21 = .ok (.iload_n 3, 1) := by decide +kernel
theorem dX5_setRider_22 : decode cX5_setRider 22 = .ok (.iconst 0, 1) := by decide +kernel
theorem dX5_setRider_23 : decode cX5_setRider 23 = .ok (.bipush 9, 2) := by decide +kernel
theorem dX5_setRider_25 : decode cX5_setRider 25 = .ok (.invokestatic 47, 3) := by decide +kernel
theorem dX5_setRider_28 : decode cX5_setRider 28 = .ok (.ifCond .eq 6, 3) := by decide +kernel
theorem dX5_setRider_31 : decode cX5_setRider 31 = .ok (.bipush (-2), 2) := by decide +kernel
theorem dX5_setRider_33 : decode cX5_setRider 33 = .ok (.ireturn, 1) := by decide +kernel
theorem dX5_setRider_34 : decode cX5_setRider 34 = .ok (.aload_n 0, 1) := by decide +kernel
theorem dX5_setRider_35 : decode cX5_setRider 35 = .ok (.getfield 10, 3) := by decide +kernel
theorem dX5_setRider_38 : decode cX5_setRider 38 = .ok (.iload_n 1, 1) := by decide +kernel
theorem dX5_setRider_39 : decode cX5_setRider 39 = .ok (.iconst 0, 1) := by decide +kernel
theorem dX5_setRider_40 : decode cX5_setRider 40 = .ok (.invokevirtual 66, 3) := by decide +kernel
theorem dX5_setRider_43 : decode cX5_setRider 43 = .ok (.istore 4, 2) := by decide +kernel
theorem dX5_setRider_45 : decode cX5_setRider 45 = .ok (.aload_n 0, 1) := by decide +kernel
theorem dX5_setRider_46 : decode cX5_setRider 46 = .ok (.getfield 25, 3) := by decide +kernel
theorem dX5_setRider_49 : decode cX5_setRider 49 = .ok (.aload_n 0, 1) := by decide +kernel
theorem dX5_setRider_50 : decode cX5_setRider 50 = .ok (.getfield 10, 3) := by decide +kernel
theorem dX5_setRider_53 : decode cX5_setRider 53 = .ok (.invokevirtual 55, 3) := by decide +kernel
theorem dX5_setRider_56 : decode cX5_setRider 56 = .ok (.aload_n 0, 1) := by decide +kernel
theorem dX5_setRider_57 : decode cX5_setRider 57 = .ok (.getfield 10, 3) := by decide +kernel
theorem dX5_setRider_60 : decode cX5_setRider 60 = .ok (.iload_n 1, 1) := by decide +kernel
theorem dX5_setRider_61 : decode cX5_setRider 61 = .ok (.iload_n 2, 1) := by decide +kernel
theorem dX5_setRider_62 : decode cX5_setRider 62 = .ok (.iload_n 3, 1) := by decide +kernel
theorem dX5_setRider_63 : decode cX5_setRider 63 = .ok (.invokevirtual 69, 3) := by decide +kernel
theorem dX5_setRider_66 : decode cX5_setRider 66 = .ok (.iload 4, 2) := by decide +kernel
theorem dX5_setRider_68 : decode cX5_setRider 68 = .ok (.ireturn, 1) := by decide +kernel
theorem dX5_set_0 : decode cX5_set 0 = .ok (.iload_n 1, 1) := by decide +kernel
theorem dX5_set_1 : decode cX5_set 1 = .ok (.iconst 0, 1) := by decide +kernel
theorem dX5_set_2 : decode cX5_set 2 = .ok (.iconst 4, 1) := by decide +kernel
theorem dX5_set_3 : decode cX5_set 3 = .ok (.invokestatic 47, 3) := by decide +kernel
theorem dX5_set_6 : decode cX5_set 6 = .ok (.ifCond .eq 5, 3) := by decide +kernel
theorem dX5_set_9 : decode cX5_set 9 = .ok (.iconst (-1), 1) := by decide +kernel
theorem dX5_set_10 : decode cX5_set 10 = .ok (.ireturn, 1) := by decide +kernel
theorem dX5_set_11 : decode cX5_set 11 = .ok (.iload_n 2, 1) := by decide +kernel
theorem dX5_set_12 : decode cX5_set 12 = .ok (.getstatic 72, 3) := by decide +kernel
theorem dX5_set_15 : decode cX5_set 15 = .ok (.iload_n 1, 1) := by decide +kernel
theorem dX5_set_16 : decode cX5_set 16 = .ok (.invokestatic 76, 3) := by decide +kernel
theorem dX5_set_19 : decode cX5_set 19 = .ok (.getstatic 80, 3) := by decide +kernel
theorem dX5_set_22 : decode cX5_set 22 = .ok (.iload_n 1, 1) := by decide +kernel
theorem dX5_set_23 : decode cX5_set 23 = .ok (.invokestatic 76, 3) := by decide +kernel
theorem dX5_set_26 : decode cX5_set 26 = .ok (.invokestatic 47, 3) := by decide +kernel
theorem dX5_set_29 : decode cX5_set 29 = .ok (.ifCond .eq 6, 3) := by decide +kernel
theorem dX5_set_32 : decode cX5_set 32 = .ok (.bipush (-2), 2) := by decide +kernel
theorem dX5_set_34 : decode cX5_set 34 = .ok (.ireturn, 1) := by decide +kernel
theorem dX5_set_35 : decode cX5_set 35 = .ok (.aload_n 0, 1) := by decide +kernel
theorem dX5_set_36 : decode cX5_set 36 = .ok (.getfield 10, 3) := by decide +kernel
theorem dX5_set_39 : decode cX5_set 39 = .ok (.iload_n 1, 1) := by decide +kernel
theorem dX5_set_40 : decode cX5_set 40 = .ok (.invokevirtual 83, 3) := by decide +kernel
theorem dX5_set_43 : decode cX5_set 43 = .ok (.istore_n 3, 1) := by decide +kernel
theorem dX5_set_44 : decode cX5_set 44 = .ok (.iload_n 3, 1) := by decide +kernel
theorem dX5_set_45 : decode cX5_set 45 = .ok (.iload_n 2, 1) := by decide +kernel
theorem dX5_set_46 : decode cX5_set 46 = .ok (.if_icmp .ne 6, 3) := by decide +kernel
theorem dX5_set_49 : decode cX5_set 49 = .ok (.bipush (-5), 2) := by decide +kernel
theorem dX5_set_51 : decode cX5_set 51 = .ok (.ireturn, 1) := by decide +kernel
theorem dX5_set_52 : decode cX5_set 52 = .ok (.aload_n 0, 1) := by decide +kernel
theorem dX5_set_53 : decode cX5_set 53 = .ok (.getfield 25, 3) := by decide +kernel
theorem dX5_set_56 : decode cX5_set 56 = .ok (.aload_n 0, 1) := by decide +kernel
theorem dX5_set_57 : decode cX5_set 57 = .ok (.getfield 10, 3) := by decide +kernel
theorem dX5_set_60 : decode cX5_set 60 = .ok (.invokevirtual 55, 3) := by decide +kernel
theorem dX5_set_63 : decode cX5_set 63 = .ok (.aload_n 0, 1) := by decide +kernel
theorem dX5_set_64 : decode cX5_set 64 = .ok (.getfield 10, 3) := by decide +kernel
theorem dX5_set_67 : decode cX5_set 67 = .ok (.iload_n 1, 1) := by decide +kernel
theorem dX5_set_68 : decode cX5_set 68 = .ok (.iload_n 2, 1) := by decide +kernel
theorem dX5_set_69 : decode cX5_set 69 = .ok (.invokevirtual 87, 3) := by decide +kernel
theorem dX5_set_72 : decode cX5_set 72 = .ok (.iload_n 3, 1) := by decide +kernel
theorem dX5_set_73 : decode cX5_set 73 = .ok (.ireturn, 1) := by decide +kernel
theorem dX5_book_0 : decode cX5_book 0 = .ok (.iload_n 2, 1) := by decide +kernel
theorem dX5_book_1 : decode cX5_book 1 = .ok (.invokestatic 91, 3) := by decide +kernel
theorem dX5_book_4 : decode cX5_book 4 = .ok (.ifCond .ne 10, 3) := by decide +kernel
theorem dX5_book_7 : decode cX5_book 7 = .ok (.iload_n 3, 1) := by decide +kernel
theorem dX5_book_8 : decode cX5_book 8 = .ok (.invokestatic 63, 3) := by decide +kernel
theorem dX5_book_11 : decode cX5_book 11 = .ok (.ifCond .eq 5, 3) := by decide +kernel
theorem dX5_book_14 : decode cX5_book 14 = .ok (.iconst (-1), 1) := by decide +kernel
theorem dX5_book_15 : decode cX5_book 15 = .ok (.ireturn, 1) := by decide +kernel
theorem dX5_book_16 : decode cX5_book 16 = .ok (.iload_n 1, 1) := by decide +kernel
theorem dX5_book_17 : decode cX5_book 17 = .ok (.iconst 0, 1) := by decide +kernel
theorem dX5_book_18 : decode cX5_book 18 = .ok (.bipush 99, 2) := by decide +kernel
theorem dX5_book_20 : decode cX5_book 20 = .ok (.invokestatic 47, 3) := by decide +kernel
theorem dX5_book_23 : decode cX5_book 23 = .ok (.ifCond .eq 6, 3) := by decide +kernel
theorem dX5_book_26 : decode cX5_book 26 = .ok (.bipush (-2), 2) := by decide +kernel
theorem dX5_book_28 : decode cX5_book 28 = .ok (.ireturn, 1) := by decide +kernel
theorem dX5_book_29 : decode cX5_book 29 = .ok (.aload_n 0, 1) := by decide +kernel
theorem dX5_book_30 : decode cX5_book 30 = .ok (.getfield 10, 3) := by decide +kernel
theorem dX5_book_33 : decode cX5_book 33 = .ok (.iload_n 1, 1) := by decide +kernel
theorem dX5_book_34 : decode cX5_book 34 = .ok (.iload_n 2, 1) := by decide +kernel
theorem dX5_book_35 : decode cX5_book 35 = .ok (.iload_n 3, 1) := by decide +kernel
theorem dX5_book_36 : decode cX5_book 36 = .ok (.invokevirtual 94, 3) := by decide +kernel
theorem dX5_book_39 : decode cX5_book 39 = .ok (.istore 4, 2) := by decide +kernel
theorem dX5_book_41 : decode cX5_book 41 = .ok (.iload 4, 2) := by decide +kernel
theorem dX5_book_43 : decode cX5_book 43 = .ok (.ifCond .eq 6, 3) := by decide +kernel
theorem dX5_book_46 : decode cX5_book 46 = .ok (.iload 4, 2) := by decide +kernel
theorem dX5_book_48 : decode cX5_book 48 = .ok (.ireturn, 1) := by decide +kernel
theorem dX5_book_49 : decode cX5_book 49 = .ok (.aload_n 0, 1) := by decide +kernel
theorem dX5_book_50 : decode cX5_book 50 = .ok (.getfield 25, 3) := by decide +kernel
theorem dX5_book_53 : decode cX5_book 53 = .ok (.aload_n 0, 1) := by decide +kernel
