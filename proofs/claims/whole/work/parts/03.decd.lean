theorem dX6_shodHorse_26 : decode cX6_shodHorse 26 = .ok (.invokestatic 31, 3) := by decide +kernel
theorem dX6_shodHorse_29 : decode cX6_shodHorse 29 = .ok (.iaload, 1) := by decide +kernel
theorem dX6_shodHorse_30 : decode cX6_shodHorse 30 = .ok (.iload_n 2, 1) := by decide +kernel
theorem dX6_shodHorse_31 : decode cX6_shodHorse 31 = .ok (.if_icmp .le 7, 3) := by decide +kernel
theorem dX6_shodHorse_34 : decode cX6_shodHorse 34 = .ok (.iload_n 3, 1) := by decide +kernel
theorem dX6_shodHorse_35 : decode cX6_shodHorse 35 = .ok (.goto 4, 3) := by decide +kernel
theorem dX6_shodHorse_38 : decode cX6_shodHorse 38 = .ok (.iload_n 1, 1) := by decide +kernel
theorem dX6_shodHorse_39 : decode cX6_shodHorse 39 = .ok (.istore_n 1, 1) := by decide +kernel
theorem dX6_shodHorse_40 : decode cX6_shodHorse 40 = .ok (.aload_n 0, 1) := by decide +kernel
theorem dX6_shodHorse_41 : decode cX6_shodHorse 41 = .ok (.getfield 7, 3) := by decide +kernel
theorem dX6_shodHorse_44 : decode cX6_shodHorse 44 = .ok (.iload_n 3, 1) := by decide +kernel
theorem dX6_shodHorse_45 : decode cX6_shodHorse 45 = .ok (.iconst 3, 1) := by decide +kernel
theorem dX6_shodHorse_46 : decode cX6_shodHorse 46 = .ok (.invokestatic 31, 3) := by decide +kernel
theorem dX6_shodHorse_49 : decode cX6_shodHorse 49 = .ok (.iaload, 1) := by decide +kernel
theorem dX6_shodHorse_50 : decode cX6_shodHorse 50 = .ok (.iload_n 2, 1) := by decide +kernel
theorem dX6_shodHorse_51 : decode cX6_shodHorse 51 = .ok (.if_icmp .le 16, 3) := by decide +kernel
theorem dX6_shodHorse_54 : decode cX6_shodHorse 54 = .ok (.aload_n 0, 1) := by decide +kernel
theorem dX6_shodHorse_55 : decode cX6_shodHorse 55 = .ok (.getfield 7, 3) := by decide +kernel
theorem dX6_shodHorse_58 : decode cX6_shodHorse 58 = .ok (.iload_n 3, 1) := by decide +kernel
theorem dX6_shodHorse_59 : decode cX6_shodHorse 59 = .ok (.iconst 3, 1) := by decide +kernel
theorem dX6_shodHorse_60 : decode cX6_shodHorse 60 = .ok (.invokestatic 31, 3) := by decide +kernel
theorem dX6_shodHorse_63 : decode cX6_shodHorse 63 = .ok (.iaload, 1) := by decide +kernel
theorem dX6_shodHorse_64 : decode cX6_shodHorse 64 = .ok (.goto 4, 3) := by decide +kernel
theorem dX6_shodHorse_67 : decode cX6_shodHorse 67 = .ok (.iload_n 2, 1) := by decide +kernel
theorem dX6_shodHorse_68 : decode cX6_shodHorse 68 = .ok (.istore_n 2, 1) := by decide +kernel
theorem dX6_shodHorse_69 : decode cX6_shodHorse 69 = .ok (.iinc 3 1, 3) := by decide +kernel
theorem dX6_shodHorse_72 : decode cX6_shodHorse 72 = .ok (.goto (-65), 3) := by decide +kernel
theorem dX6_shodHorse_75 : decode cX6_shodHorse 75 = .ok (.iload_n 1, 1) := by decide +kernel
theorem dX6_shodHorse_76 : decode cX6_shodHorse 76 = .ok (.ireturn, 1) := by decide +kernel
theorem dX6_hindrance_0 : decode cX6_hindrance 0 = .ok (.aload_n 0, 1) := by decide +kernel
theorem dX6_hindrance_1 : decode cX6_hindrance 1 = .ok (.getfield 7, 3) := by decide +kernel
theorem dX6_hindrance_4 : decode cX6_hindrance 4 = .ok (.iload_n 1, 1) := by decide +kernel
theorem dX6_hindrance_5 : decode cX6_hindrance 5 = .ok (.iconst 5, 1) := by decide +kernel
theorem dX6_hindrance_6 : decode cX6_hindrance 6 = .ok (.invokestatic 31, 3) := by decide +kernel
theorem dX6_hindrance_9 : decode cX6_hindrance 9 = .ok (.iaload, 1) := by decide +kernel
theorem dX6_hindrance_10 : decode cX6_hindrance 10 = .ok (.ifCond .gt 8, 3) := by decide +kernel
theorem dX6_hindrance_13 : decode cX6_hindrance 13 = .ok (.iload_n 1, 1) := by decide +kernel
theorem dX6_hindrance_14 : decode cX6_hindrance 14 = .ok (.iload_n 3, 1) := by decide +kernel
theorem dX6_hindrance_15 : decode cX6_hindrance 15 = .ok (.if_icmp .ne 22, 3) := by decide +kernel
theorem dX6_hindrance_18 : decode cX6_hindrance 18 = .ok (.aload_n 0, 1) := by decide +kernel
theorem dX6_hindrance_19 : decode cX6_hindrance 19 = .ok (.getfield 7, 3) := by decide +kernel
theorem dX6_hindrance_22 : decode cX6_hindrance 22 = .ok (.iload_n 1, 1) := by decide +kernel
theorem dX6_hindrance_23 : decode cX6_hindrance 23 = .ok (.iconst 5, 1) := by decide +kernel
theorem dX6_hindrance_24 : decode cX6_hindrance 24 = .ok (.invokestatic 31, 3) := by decide +kernel
theorem dX6_hindrance_27 : decode cX6_hindrance 27 = .ok (.iaload, 1) := by decide +kernel
theorem dX6_hindrance_28 : decode cX6_hindrance 28 = .ok (.ifCond .le 7, 3) := by decide +kernel
theorem dX6_hindrance_31 : decode cX6_hindrance 31 = .ok (.iconst 1, 1) := by decide +kernel
theorem dX6_hindrance_32 : decode cX6_hindrance 32 = .ok (.goto 4, 3) := by decide +kernel
theorem dX6_hindrance_35 : decode cX6_hindrance 35 = .ok (.iconst 2, 1) := by decide +kernel
theorem dX6_hindrance_36 : decode cX6_hindrance 36 = .ok (.ireturn, 1) := by decide +kernel
theorem dX6_hindrance_37 : decode cX6_hindrance 37 = .ok (.aload_n 0, 1) := by decide +kernel
theorem dX6_hindrance_38 : decode cX6_hindrance 38 = .ok (.getfield 7, 3) := by decide +kernel
theorem dX6_hindrance_41 : decode cX6_hindrance 41 = .ok (.iload_n 1, 1) := by decide +kernel
theorem dX6_hindrance_42 : decode cX6_hindrance 42 = .ok (.iconst 3, 1) := by decide +kernel
theorem dX6_hindrance_43 : decode cX6_hindrance 43 = .ok (.invokestatic 31, 3) := by decide +kernel
theorem dX6_hindrance_46 : decode cX6_hindrance 46 = .ok (.iaload, 1) := by decide +kernel
theorem dX6_hindrance_47 : decode cX6_hindrance 47 = .ok (.aload_n 0, 1) := by decide +kernel
theorem dX6_hindrance_48 : decode cX6_hindrance 48 = .ok (.getfield 7, 3) := by decide +kernel
theorem dX6_hindrance_51 : decode cX6_hindrance 51 = .ok (.sipush 188, 3) := by decide +kernel
theorem dX6_hindrance_54 : decode cX6_hindrance 54 = .ok (.iaload, 1) := by decide +kernel
theorem dX6_hindrance_55 : decode cX6_hindrance 55 = .ok (.if_icmp .ge 24, 3) := by decide +kernel
theorem dX6_hindrance_58 : decode cX6_hindrance 58 = .ok (.aload_n 0, 1) := by decide +kernel
theorem dX6_hindrance_59 : decode cX6_hindrance 59 = .ok (.getfield 7, 3) := by decide +kernel
theorem dX6_hindrance_62 : decode cX6_hindrance 62 = .ok (.iload_n 1, 1) := by decide +kernel
theorem dX6_hindrance_63 : decode cX6_hindrance 63 = .ok (.iconst 2, 1) := by decide +kernel
theorem dX6_hindrance_64 : decode cX6_hindrance 64 = .ok (.invokestatic 31, 3) := by decide +kernel
theorem dX6_hindrance_67 : decode cX6_hindrance 67 = .ok (.iaload, 1) := by decide +kernel
theorem dX6_hindrance_68 : decode cX6_hindrance 68 = .ok (.aload_n 0, 1) := by decide +kernel
theorem dX6_hindrance_69 : decode cX6_hindrance 69 = .ok (.getfield 7, 3) := by decide +kernel
theorem dX6_hindrance_72 : decode cX6_hindrance 72 = .ok (.sipush 187, 3) := by decide +kernel
theorem dX6_hindrance_75 : decode cX6_hindrance 75 = .ok (.iaload, 1) := by decide +kernel
theorem dX6_hindrance_76 : decode cX6_hindrance 76 = .ok (.if_icmp .lt 30, 3) := by decide +kernel
theorem dX6_hindrance_79 : decode cX6_hindrance 79 = .ok (.aload_n 0, 1) := by decide +kernel
theorem dX6_hindrance_80 : decode cX6_hindrance 80 = .ok (.getfield 7, 3) := by decide +kernel
theorem dX6_hindrance_83 : decode cX6_hindrance 83 = .ok (.iload_n 1, 1) := by decide +kernel
theorem dX6_hindrance_84 : decode cX6_hindrance 84 = .ok (.iconst 3, 1) := by decide +kernel
theorem dX6_hindrance_85 : decode cX6_hindrance 85 = .ok (.invokestatic 31, 3) := by decide +kernel
theorem dX6_hindrance_88 : decode cX6_hindrance 88 = .ok (.iaload, 1) := by decide +kernel
theorem dX6_hindrance_89 : decode cX6_hindrance 89 = .ok (.aload_n 0, 1) := by decide +kernel
theorem dX6_hindrance_90 : decode cX6_hindrance 90 = .ok (.getfield 7, 3) := by decide +kernel
theorem dX6_hindrance_93 : decode cX6_hindrance 93 = .ok (.sipush 188, 3) := by decide +kernel
theorem dX6_hindrance_96 : decode cX6_hindrance 96 = .ok (.iaload, 1) := by decide +kernel
theorem dX6_hindrance_97 : decode cX6_hindrance 97 = .ok (.if_icmp .lt 7, 3) := by decide +kernel
theorem dX6_hindrance_100 : decode cX6_hindrance 100 = .ok (.iconst 3, 1) := by decide +kernel
theorem dX6_hindrance_101 : decode cX6_hindrance 101 = .ok (.goto 4, 3) := by decide +kernel
theorem dX6_hindrance_104 : decode cX6_hindrance 104 = .ok (.iconst 4, 1) := by decide +kernel
theorem dX6_hindrance_105 : decode cX6_hindrance 105 = .ok (.ireturn, 1) := by decide +kernel
theorem dX6_hindrance_106 : decode cX6_hindrance 106 = .ok (.aload_n 0, 1) := by decide +kernel
theorem dX6_hindrance_107 : decode cX6_hindrance 107 = .ok (.getfield 7, 3) := by decide +kernel
theorem dX6_hindrance_110 : decode cX6_hindrance 110 = .ok (.iload_n 1, 1) := by decide +kernel
theorem dX6_hindrance_111 : decode cX6_hindrance 111 = .ok (.iconst 0, 1) := by decide +kernel
theorem dX6_hindrance_112 : decode cX6_hindrance 112 = .ok (.invokestatic 31, 3) := by decide +kernel
theorem dX6_hindrance_115 : decode cX6_hindrance 115 = .ok (.iaload, 1) := by decide +kernel
theorem dX6_hindrance_116 : decode cX6_hindrance 116 = .ok (.aload_n 0, 1) := by decide +kernel
theorem dX6_hindrance_117 : decode cX6_hindrance 117 = .ok (.getfield 7, 3) := by decide +kernel
theorem dX6_hindrance_120 : decode cX6_hindrance 120 = .ok (.iload_n 2, 1) := by decide +kernel
theorem dX6_hindrance_121 : decode cX6_hindrance 121 = .ok (.iconst 0, 1) := by decide +kernel
theorem dX6_hindrance_122 : decode cX6_hindrance 122 = .ok (.invokestatic 35, 3) := by decide +kernel
theorem dX6_hindrance_125 : decode cX6_hindrance 125 = .ok (.iaload, 1) := by decide +kernel
theorem dX6_hindrance_126 : decode cX6_hindrance 126 = .ok (.if_icmp .ge 7, 3) := by decide +kernel
theorem dX6_hindrance_129 : decode cX6_hindrance 129 = .ok (.iconst 5, 1) := by decide +kernel
theorem dX6_hindrance_130 : decode cX6_hindrance 130 = .ok (.goto 4, 3) := by decide +kernel
theorem dX6_hindrance_133 : decode cX6_hindrance 133 = .ok (.iconst 0, 1) := by decide +kernel
theorem dX6_hindrance_134 : decode cX6_hindrance 134 = .ok (.ireturn, 1) := by decide +kernel
theorem dX6_can_0 : decode cX6_can 0 = .ok (.aload_n 0, 1) := by decide +kernel
theorem dX6_can_1 : decode cX6_can 1 = .ok (.getfield 7, 3) := by decide +kernel
theorem dX6_can_4 : decode cX6_can 4 = .ok (.iload_n 1, 1) := by decide +kernel
theorem dX6_can_5 : decode cX6_can 5 = .ok (.iconst 1, 1) := by decide +kernel
theorem dX6_can_6 : decode cX6_can 6 = .ok (.invokestatic 35, 3) := by decide +kernel
theorem dX6_can_9 : decode cX6_can 9 = .ok (.iaload, 1) := by decide +kernel
theorem dX6_can_10 : decode cX6_can 10 = .ok (.aload_n 0, 1) := by decide +kernel
theorem dX6_can_11 : decode cX6_can 11 = .ok (.getfield 7, 3) := by decide +kernel
theorem dX6_can_14 : decode cX6_can 14 = .ok (.iload_n 1, 1) := by decide +kernel
theorem dX6_can_15 : decode cX6_can 15 = .ok (.iconst 2, 1) := by decide +kernel
theorem dX6_can_16 : decode cX6_can 16 = .ok (.invokestatic 35, 3) := by decide +kernel
theorem dX6_can_19 : decode cX6_can 19 = .ok (.iaload, 1) := by decide +kernel
theorem dX6_can_20 : decode cX6_can 20 = .ok (.isub, 1) := by decide +kernel
theorem dX6_can_21 : decode cX6_can 21 = .ok (.istore_n 2, 1) := by decide +kernel
theorem dX6_can_22 : decode cX6_can 22 = .ok (.iload_n 2, 1) := by decide +kernel
theorem dX6_can_23 : decode cX6_can 23 = .ok (.ifCond .ge 7, 3) := by decide +kernel
theorem dX6_can_26 : decode cX6_can 26 = .ok (.iconst 0, 1) := by decide +kernel
theorem dX6_can_27 : decode cX6_can 27 = .ok (.goto 4, 3) := by decide +kernel
theorem dX6_can_30 : decode cX6_can 30 = .ok (.iload_n 2, 1) := by decide +kernel
theorem dX6_can_31 : decode cX6_can 31 = .ok (.ireturn, 1) := by decide +kernel
theorem dX6_isBetter_0 : decode cX6_isBetter 0 = .ok (.aload_n 0, 1) := by decide +kernel
theorem dX6_isBetter_1 : decode cX6_isBetter 1 = .ok (.getfield 7, 3) := by decide +kernel
theorem dX6_isBetter_4 : decode cX6_isBetter 4 = .ok (.iload_n 1, 1) := by decide +kernel
theorem dX6_isBetter_5 : decode cX6_isBetter 5 = .ok (.iconst 1, 1) := by decide +kernel
theorem dX6_isBetter_6 : decode cX6_isBetter 6 = .ok (.invokestatic 31, 3) := by decide +kernel
theorem dX6_isBetter_9 : decode cX6_isBetter 9 = .ok (.iaload, 1) := by decide +kernel
theorem dX6_isBetter_10 : decode cX6_isBetter 10 = .ok (.aload_n 0, 1) := by decide +kernel
theorem dX6_isBetter_11 : decode cX6_isBetter 11 = .ok (.iload_n 3, 1) := by decide +kernel
theorem dX6_isBetter_12 : decode cX6_isBetter 12 = .ok (.invokevirtual 50, 3) := by decide +kernel
theorem dX6_isBetter_15 : decode cX6_isBetter 15 = .ok (.if_icmp .le 7, 3) := by decide +kernel
theorem dX6_isBetter_18 : decode cX6_isBetter 18 = .ok (.iconst 1, 1) := by decide +kernel
theorem dX6_isBetter_19 : decode cX6_isBetter 19 = .ok (.goto 4, 3) := by decide +kernel
theorem dX6_isBetter_22 : decode cX6_isBetter 22 = .ok (.iconst 0, 1) := by decide +kernel
theorem dX6_isBetter_23 : decode cX6_isBetter 23 = .ok (.istore 4, 2) := by decide +kernel
theorem dX6_isBetter_25 : decode cX6_isBetter 25 = .ok (.aload_n 0, 1) := by decide +kernel
theorem dX6_isBetter_26 : decode cX6_isBetter 26 = .ok (.getfield 7, 3) := by decide +kernel
theorem dX6_isBetter_29 : decode cX6_isBetter 29 = .ok (.iload_n 2, 1) := by decide +kernel
theorem dX6_isBetter_30 : decode cX6_isBetter 30 = .ok (.iconst 1, 1) := by decide +kernel
theorem dX6_isBetter_31 : decode cX6_isBetter 31 = .ok (.invokestatic 31, 3) := by decide +kernel
theorem dX6_isBetter_34 : decode cX6_isBetter 34 = .ok (.iaload, 1) := by decide +kernel
theorem dX6_isBetter_35 : decode cX6_isBetter 35 = .ok (.aload_n 0, 1) := by decide +kernel
theorem dX6_isBetter_36 : decode cX6_isBetter 36 = .ok (.iload_n 3, 1) := by decide +kernel
theorem dX6_isBetter_37 : decode cX6_isBetter 37 = .ok (.invokevirtual 50, 3) := by decide +kernel
theorem dX6_isBetter_40 : decode cX6_isBetter 40 = .ok (.if_icmp .le 7, 3) := by decide +kernel
theorem dX6_isBetter_43 : decode cX6_isBetter 43 = .ok (.iconst 1, 1) := by decide +kernel
theorem dX6_isBetter_44 : decode cX6_isBetter 44 = .ok (.goto 4, 3) := by decide +kernel
theorem dX6_isBetter_47 : decode cX6_isBetter 47 = .ok (.iconst 0, 1) := by decide +kernel
theorem dX6_isBetter_48 : decode cX6_isBetter 48 = .ok (.istore 5, 2) := by decide +kernel
theorem dX6_isBetter_50 : decode cX6_isBetter 50 = .ok (.iload 4, 2) := by decide +kernel
theorem dX6_isBetter_52 : decode cX6_isBetter 52 = .ok (.iload 5, 2) := by decide +kernel
theorem dX6_isBetter_54 : decode cX6_isBetter 54 = .ok (.isub, 1) := by decide +kernel
theorem dX6_isBetter_55 : decode cX6_isBetter 55 = .ok (.istore 6, 2) := by decide +kernel
theorem dX6_isBetter_57 : decode cX6_isBetter 57 = .ok (.iload 6, 2) := by decide +kernel
theorem dX6_isBetter_59 : decode cX6_isBetter 59 = .ok (.ifCond .ne 27, 3) := by decide +kernel
theorem dX6_isBetter_62 : decode cX6_isBetter 62 = .ok (.aload_n 0, 1) := by decide +kernel
theorem dX6_isBetter_63 : decode cX6_isBetter 63 = .ok (.getfield 7, 3) := by decide +kernel
theorem dX6_isBetter_66 : decode cX6_isBetter 66 = .ok (.iload_n 1, 1) := by decide +kernel
theorem dX6_isBetter_67 : decode cX6_isBetter 67 = .ok (.iconst 2, 1) := by decide +kernel
theorem dX6_isBetter_68 : decode cX6_isBetter 68 = .ok (.invokestatic 31, 3) := by decide +kernel
theorem dX6_isBetter_71 : decode cX6_isBetter 71 = .ok (.iaload, 1) := by decide +kernel
theorem dX6_isBetter_72 : decode cX6_isBetter 72 = .ok (.aload_n 0, 1) := by decide +kernel
theorem dX6_isBetter_73 : decode cX6_isBetter 73 = .ok (.getfield 7, 3) := by decide +kernel
theorem dX6_isBetter_76 : decode cX6_isBetter 76 = .ok (.iload_n 2, 1) := by decide +kernel
theorem dX6_isBetter_77 : decode cX6_isBetter 77 = .ok (.iconst 2, 1) := by decide +kernel
theorem dX6_isBetter_78 : decode cX6_isBetter 78 = .ok (.invokestatic 31, 3) := by decide +kernel
theorem dX6_isBetter_81 : decode cX6_isBetter 81 = .ok (.iaload, 1) := by decide +kernel
theorem dX6_isBetter_82 : decode cX6_isBetter 82 = .ok (.isub, 1) := by decide +kernel
theorem dX6_isBetter_83 : decode cX6_isBetter 83 = .ok (.goto 5, 3) := by decide +kernel
theorem dX6_isBetter_86 : decode cX6_isBetter 86 = .ok (.iload 6, 2) := by decide +kernel
theorem dX6_isBetter_88 : decode cX6_isBetter 88 = .ok (.istore 6, 2) := by decide +kernel
theorem dX6_isBetter_90 : decode cX6_isBetter 90 = .ok (.iload 6, 2) := by decide +kernel
theorem dX6_isBetter_92 : decode cX6_isBetter 92 = .ok (.ifCond .ne 27, 3) := by decide +kernel
theorem dX6_isBetter_95 : decode cX6_isBetter 95 = .ok (.aload_n 0, 1) := by decide +kernel
theorem dX6_isBetter_96 : decode cX6_isBetter 96 = .ok (.getfield 7, 3) := by decide +kernel
theorem dX6_isBetter_99 : decode cX6_isBetter 99 = .ok (.iload_n 1, 1) := by decide +kernel
theorem dX6_isBetter_100 : decode cX6_isBetter 100 = .ok (.iconst 0, 1) := by decide +kernel
theorem dX6_isBetter_101 : decode cX6_isBetter 101 = .ok (.invokestatic 31, 3) := by decide +kernel
theorem dX6_isBetter_104 : decode cX6_isBetter 104 = .ok (.iaload, 1) := by decide +kernel
theorem dX6_isBetter_105 : decode cX6_isBetter 105 = .ok (.aload_n 0, 1) := by decide +kernel
theorem dX6_isBetter_106 : decode cX6_isBetter 106 = .ok (.getfield 7, 3) := by decide +kernel
theorem dX6_isBetter_109 : decode cX6_isBetter 109 = .ok (.iload_n 2, 1) := by decide +kernel
theorem dX6_isBetter_110 : decode cX6_isBetter 110 = .ok (.iconst 0, 1) := by decide +kernel
theorem dX6_isBetter_111 : decode cX6_isBetter 111 = .ok (.invokestatic 31, 3) := by decide +kernel
theorem dX6_isBetter_114 : decode cX6_isBetter 114 = .ok (.iaload, 1) := by decide +kernel
theorem dX6_isBetter_115 : decode cX6_isBetter 115 = .ok (.isub, 1) := by decide +kernel
theorem dX6_isBetter_116 : decode cX6_isBetter 116 = .ok (.goto 5, 3) := by decide +kernel
theorem dX6_isBetter_119 : decode cX6_isBetter 119 = .ok (.iload 6, 2) := by decide +kernel
theorem dX6_isBetter_121 : decode cX6_isBetter 121 = .ok (.istore 6, 2) := by decide +kernel
theorem dX6_isBetter_123 : decode cX6_isBetter 123 = .ok (.iload 6, 2) := by decide +kernel
theorem dX6_isBetter_125 : decode cX6_isBetter 125 = .ok (.ifCond .ge 7, 3) := by decide +kernel
theorem dX6_isBetter_128 : decode cX6_isBetter 128 = .ok (.iconst 1, 1) := by decide +kernel
theorem dX6_isBetter_129 : decode cX6_isBetter 129 = .ok (.goto 4, 3) := by decide +kernel
theorem dX6_isBetter_132 : decode cX6_isBetter 132 = .ok (.iconst 0, 1) := by decide +kernel
theorem dX6_isBetter_133 : decode cX6_isBetter 133 = .ok (.ireturn, 1) := by decide +kernel
theorem dX6_bestFor_0 : decode cX6_bestFor 0 = .ok (.bipush (-5), 2) := by decide +kernel
theorem dX6_bestFor_2 : decode cX6_bestFor 2 = .ok (.istore_n 3, 1) := by decide +kernel
theorem dX6_bestFor_3 : decode cX6_bestFor 3 = .ok (.iconst 0, 1) := by decide +kernel
theorem dX6_bestFor_4 : decode cX6_bestFor 4 = .ok (.istore 4, 2) := by decide +kernel
theorem dX6_bestFor_6 : decode cX6_bestFor 6 = .ok (.iload 4, 2) := by decide +kernel
theorem dX6_bestFor_8 : decode cX6_bestFor 8 = .ok (.bipush 10, 2) := by decide +kernel
theorem dX6_bestFor_10 : decode cX6_bestFor 10 = .ok (.if_icmp .ge 66, 3) := by decide +kernel
theorem dX6_bestFor_13 : decode cX6_bestFor 13 = .ok (.aload_n 0, 1) := by decide +kernel
theorem dX6_bestFor_14 : decode cX6_bestFor 14 = .ok (.getfield 25, 3) := by decide +kernel
theorem dX6_bestFor_17 : decode cX6_bestFor 17 = .ok (.iload 4, 2) := by decide +kernel
theorem dX6_bestFor_19 : decode cX6_bestFor 19 = .ok (.iaload, 1) := by decide +kernel
theorem dX6_bestFor_20 : decode cX6_bestFor 20 = .ok (.ifCond .ne 18, 3) := by decide +kernel
theorem dX6_bestFor_23 : decode cX6_bestFor 23 = .ok (.aload_n 0, 1) := by decide +kernel
theorem dX6_bestFor_24 : decode cX6_bestFor 24 = .ok (.iload 4, 2) := by decide +kernel
theorem dX6_bestFor_26 : decode cX6_bestFor 26 = .ok (.iload_n 1, 1) := by decide +kernel
theorem dX6_bestFor_27 : decode cX6_bestFor 27 = .ok (.iload_n 2, 1) := by decide +kernel
theorem dX6_bestFor_28 : decode cX6_bestFor 28 = .ok (.invokevirtual 54, 3) := by decide +kernel
theorem dX6_bestFor_31 : decode cX6_bestFor 31 = .ok (.ifCond .ne 7, 3) := by decide +kernel
theorem dX6_bestFor_34 : decode cX6_bestFor 34 = .ok (.iconst 1, 1) := by decide +kernel
theorem dX6_bestFor_35 : decode cX6_bestFor 35 = .ok (.goto 4, 3) := by decide +kernel
theorem dX6_bestFor_38 : decode cX6_bestFor 38 = .ok (.iconst 0, 1) := by decide +kernel
theorem dX6_bestFor_39 : decode cX6_bestFor 39 = .ok (.istore 5, 2) := by decide +kernel
theorem dX6_bestFor_41 : decode cX6_bestFor 41 = .ok (.iload 5, 2) := by decide +kernel
theorem dX6_bestFor_43 : decode cX6_bestFor 43 = .ok (.ifCond .eq 25, 3) := by decide +kernel
theorem dX6_bestFor_46 : decode cX6_bestFor 46 = .ok (.iload_n 3, 1) := by decide +kernel
theorem dX6_bestFor_47 : decode cX6_bestFor 47 = .ok (.bipush (-5), 2) := by decide +kernel
theorem dX6_bestFor_49 : decode cX6_bestFor 49 = .ok (.if_icmp .eq 14, 3) := by decide +kernel
theorem dX6_bestFor_52 : decode cX6_bestFor 52 = .ok (.aload_n 0, 1) := by decide +kernel
theorem dX6_bestFor_53 : decode cX6_bestFor 53 = .ok (.iload 4, 2) := by decide +kernel
theorem dX6_bestFor_55 : decode cX6_bestFor 55 = .ok (.iload_n 3, 1) := by decide +kernel
theorem dX6_bestFor_56 : decode cX6_bestFor 56 = .ok (.iload_n 1, 1) := by decide +kernel
theorem dX6_bestFor_57 : decode cX6_bestFor 57 = .ok (.invokevirtual 58, 3) := by decide +kernel
theorem dX6_bestFor_60 : decode cX6_bestFor 60 = .ok (.ifCond .eq 8, 3) := by decide +kernel
theorem dX6_bestFor_63 : decode cX6_bestFor 63 = .ok (.iload 4, 2) := by decide +kernel
theorem dX6_bestFor_65 : decode cX6_bestFor 65 = .ok (.goto 4, 3) := by decide +kernel
theorem dX6_bestFor_68 : decode cX6_bestFor 68 = .ok (.iload_n 3, 1) := by decide +kernel
theorem dX6_bestFor_69 : decode cX6_bestFor 69 = .ok (.istore_n 3, 1) := by decide +kernel
theorem dX6_bestFor_70 : decode cX6_bestFor 70 = .ok (.iinc 4 1, 3) := by decide +kernel
theorem dX6_bestFor_73 : decode cX6_bestFor 73 = .ok (.goto (-67), 3) := by decide +kernel
theorem dX6_bestFor_76 : decode cX6_bestFor 76 = .ok (.iload_n 3, 1) := by decide +kernel
theorem dX6_bestFor_77 : decode cX6_bestFor 77 = .ok (.ireturn, 1) := by decide +kernel
theorem dX6_frees_0 : decode cX6_frees 0 = .ok (.iconst 0, 1) := by decide +kernel
theorem dX6_frees_1 : decode cX6_frees 1 = .ok (.istore_n 1, 1) := by decide +kernel
theorem dX6_frees_2 : decode cX6_frees 2 = .ok (.iload_n 1, 1) := by decide +kernel
theorem dX6_frees_3 : decode cX6_frees 3 = .ok (.bipush 10, 2) := by decide +kernel
theorem dX6_frees_5 : decode cX6_frees 5 = .ok (.if_icmp .ge 16, 3) := by decide +kernel
theorem dX6_frees_8 : decode cX6_frees 8 = .ok (.aload_n 0, 1) := by decide +kernel
theorem dX6_frees_9 : decode cX6_frees 9 = .ok (.getfield 25, 3) := by decide +kernel
theorem dX6_frees_12 : decode cX6_frees 12 = .ok (.iload_n 1, 1) := by decide +kernel
theorem dX6_frees_13 : decode cX6_frees 13 = .ok (.iconst 0, 1) := by decide +kernel
theorem dX6_frees_14 : decode cX6_frees 14 = .ok (.iastore, 1) := by decide +kernel
theorem dX6_frees_15 : decode cX6_frees 15 = .ok (.iinc 1 1, 3) := by decide +kernel
theorem dX6_frees_18 : decode cX6_frees 18 = .ok (.goto (-16), 3) := by decide +kernel
theorem dX6_frees_21 : decode cX6_frees 21 = .ok (.return_, 1) := by decide +kernel
theorem dX6_falls_0 : decode cX6_falls 0 = .ok (.aload_n 0, 1) := by decide +kernel
theorem dX6_falls_1 : decode cX6_falls 1 = .ok (.getfield 7, 3) := by decide +kernel
theorem dX6_falls_4 : decode cX6_falls 4 = .ok (.sipush 317, 3) := by decide +kernel
theorem dX6_falls_7 : decode cX6_falls 7 = .ok (.dup2, 1) := by decide +kernel
theorem dX6_falls_8 : decode cX6_falls 8 = .ok (.iaload, 1) := by decide +kernel
theorem dX6_falls_9 : decode cX6_falls 9 = .ok (.aload_n 0, 1) := by decide +kernel
theorem dX6_falls_10 : decode cX6_falls 10 = .ok (.getfield 7, 3) := by decide +kernel
theorem dX6_falls_13 : decode cX6_falls 13 = .ok (.sipush 317, 3) := by decide +kernel
theorem dX6_falls_16 : decode cX6_falls 16 = .ok (.iaload, 1) := by decide +kernel
theorem dX6_falls_17 : decode cX6_falls 17 = .ok (.bipush 20, 2) := by decide +kernel
theorem dX6_falls_19 : decode cX6_falls 19 = .ok (.if_icmp .ge 7, 3) := by decide +kernel
theorem dX6_falls_22 : decode cX6_falls 22 = .ok (.iconst 1, 1) := by decide +kernel
theorem dX6_falls_23 : decode cX6_falls 23 = .ok (.goto 4, 3) := by decide +kernel
theorem dX6_falls_26 : decode cX6_falls 26 = .ok (.iconst 0, 1) := by decide +kernel
theorem dX6_falls_27 : decode cX6_falls 27 = .ok (.iadd, 1) := by decide +kernel
theorem dX6_falls_28 : decode cX6_falls 28 = .ok (.iastore, 1) := by decide +kernel
theorem dX6_falls_29 : decode cX6_falls 29 = .ok (.iconst 3, 1) := by decide +kernel
theorem dX6_falls_30 : decode cX6_falls 30 = .ok (.aload_n 0, 1) := by decide +kernel
theorem dX6_falls_31 : decode cX6_falls 31 = .ok (.getfield 7, 3) := by decide +kernel
theorem dX6_falls_34 : decode cX6_falls 34 = .ok (.sipush 317, 3) := by decide +kernel
theorem dX6_falls_37 : decode cX6_falls 37 = .ok (.iaload, 1) := by decide +kernel
theorem dX6_falls_38 : decode cX6_falls 38 = .ok (.imul, 1) := by decide +kernel
theorem dX6_falls_39 : decode cX6_falls 39 = .ok (.iconst 1, 1) := by decide +kernel
theorem dX6_falls_40 : decode cX6_falls 40 = .ok (.isub, 1) := by decide +kernel
theorem dX6_falls_41 : decode cX6_falls 41 = .ok (.istore_n 3, 1) := by decide +kernel
theorem dX6_falls_42 : decode cX6_falls 42 = .ok (.iload_n 3, 1) := by decide +kernel
theorem dX6_falls_43 : decode cX6_falls 43 = .ok (.iconst 2, 1) := by decide +kernel
theorem dX6_falls_44 : decode cX6_falls 44 = .ok (.if_icmp .le 31, 3) := by decide +kernel
theorem dX6_falls_47 : decode cX6_falls 47 = .ok (.aload_n 0, 1) := by decide +kernel
theorem dX6_falls_48 : decode cX6_falls 48 = .ok (.getfield 7, 3) := by decide +kernel
theorem dX6_falls_51 : decode cX6_falls 51 = .ok (.sipush 318, 3) := by decide +kernel
theorem dX6_falls_54 : decode cX6_falls 54 = .ok (.iload_n 3, 1) := by decide +kernel
theorem dX6_falls_55 : decode cX6_falls 55 = .ok (.iadd, 1) := by decide +kernel
theorem dX6_falls_56 : decode cX6_falls 56 = .ok (.aload_n 0, 1) := by decide +kernel
theorem dX6_falls_57 : decode cX6_falls 57 = .ok (.getfield 7, 3) := by decide +kernel
theorem dX6_falls_60 : decode cX6_falls 60 = .ok (.sipush 318, 3) := by decide +kernel
theorem dX6_falls_63 : decode cX6_falls 63 = .ok (.iload_n 3, 1) := by decide +kernel
theorem dX6_falls_64 : decode cX6_falls 64 = .ok (.iadd, 1) := by decide +kernel
theorem dX6_falls_65 : decode cX6_falls 65 = .ok (.iconst 3, 1) := by decide +kernel
theorem dX6_falls_66 : decode cX6_falls 66 = .ok (.isub, 1) := by decide +kernel
theorem dX6_falls_67 : decode cX6_falls 67 = .ok (.iaload, 1) := by decide +kernel
theorem dX6_falls_68 : decode cX6_falls 68 = .ok (.iastore, 1) := by decide +kernel
theorem dX6_falls_69 : decode cX6_falls 69 = .ok (.iinc 3 (-1), 3) := by decide +kernel
theorem dX6_falls_72 : decode cX6_falls 72 = .ok (.goto (-30), 3) := by decide +kernel
theorem dX6_falls_75 : decode cX6_falls 75 = .ok (.aload_n 0, 1) := by decide +kernel
theorem dX6_falls_76 : decode cX6_falls 76 = .ok (.getfield 7, 3) := by decide +kernel
theorem dX6_falls_79 : decode cX6_falls 79 = .ok (.sipush 318, 3) := by decide +kernel
theorem dX6_falls_82 : decode cX6_falls 82 = .ok (.aload_n 0, 1) := by decide +kernel
theorem dX6_falls_83 : decode cX6_falls 83 = .ok (.getfield 7, 3) := by decide +kernel
theorem dX6_falls_86 : decode cX6_falls 86 = .ok (.iconst 0, 1) := by decide +kernel
theorem dX6_falls_87 : decode cX6_falls 87 = .ok (.iaload, 1) := by decide +kernel
theorem dX6_falls_88 : decode cX6_falls 88 = .ok (.iastore, 1) := by decide +kernel
theorem dX6_falls_89 : decode cX6_falls 89 = .ok (.aload_n 0, 1) := by decide +kernel
theorem dX6_falls_90 : decode cX6_falls 90 = .ok (.getfield 7, 3) := by decide +kernel
theorem dX6_falls_93 : decode cX6_falls 93 = .ok (.sipush 319, 3) := by decide +kernel
theorem dX6_falls_96 : decode cX6_falls 96 = .ok (.iload_n 1, 1) := by decide +kernel
theorem dX6_falls_97 : decode cX6_falls 97 = .ok (.iastore, 1) := by decide +kernel
theorem dX6_falls_98 : decode cX6_falls 98 = .ok (.aload_n 0, 1) := by decide +kernel
theorem dX6_falls_99 : decode cX6_falls 99 = .ok (.getfield 7, 3) := by decide +kernel
theorem dX6_falls_102 : decode cX6_falls 102 = .ok (.sipush 320, 3) := by decide +kernel
theorem dX6_falls_105 : decode cX6_falls 105 = .ok (.iload_n 2, 1) := by decide +kernel
theorem dX6_falls_106 : decode cX6_falls 106 = .ok (.iastore, 1) := by decide +kernel
theorem dX6_falls_107 : decode cX6_falls 107 = .ok (.aload_n 0, 1) := by decide +kernel
theorem dX6_falls_108 : decode cX6_falls 108 = .ok (.getfield 7, 3) := by decide +kernel
theorem dX6_falls_111 : decode cX6_falls 111 = .ok (.sipush 314, 3) := by decide +kernel
theorem dX6_falls_114 : decode cX6_falls 114 = .ok (.dup2, 1) := by decide +kernel
theorem dX6_falls_115 : decode cX6_falls 115 = .ok (.iaload, 1) := by decide +kernel
theorem dX6_falls_116 : decode cX6_falls 116 = .ok (.iconst 1, 1) := by decide +kernel
theorem dX6_falls_117 : decode cX6_falls 117 = .ok (.iadd, 1) := by decide +kernel
theorem dX6_falls_118 : decode cX6_falls 118 = .ok (.iastore, 1) := by decide +kernel
theorem dX6_falls_119 : decode cX6_falls 119 = .ok (.aload_n 0, 1) := by decide +kernel
theorem dX6_falls_120 : decode cX6_falls 120 = .ok (.getfield 7, 3) := by decide +kernel
theorem dX6_falls_123 : decode cX6_falls 123 = .ok (.iload_n 2, 1) := by decide +kernel
theorem dX6_falls_124 : decode cX6_falls 124 = .ok (.bipush 7, 2) := by decide +kernel
theorem dX6_falls_126 : decode cX6_falls 126 = .ok (.invokestatic 31, 3) := by decide +kernel
theorem dX6_falls_129 : decode cX6_falls 129 = .ok (.dup2, 1) := by decide +kernel
theorem dX6_falls_130 : decode cX6_falls 130 = .ok (.iaload, 1) := by decide +kernel
theorem dX6_falls_131 : decode cX6_falls 131 = .ok (.iconst 1, 1) := by decide +kernel
theorem dX6_falls_132 : decode cX6_falls 132 = .ok (.iadd, 1) := by decide +kernel
theorem dX6_falls_133 : decode cX6_falls 133 = .ok (.iastore, 1) := by decide +kernel
theorem dX6_falls_134 : decode cX6_falls 134 = .ok (.aload_n 0, 1) := by decide +kernel
theorem dX6_falls_135 : decode cX6_falls 135 = .ok (.getfield 7, 3) := by decide +kernel
theorem dX6_falls_138 : decode cX6_falls 138 = .ok (.iload_n 1, 1) := by decide +kernel
theorem dX6_falls_139 : decode cX6_falls 139 = .ok (.iconst 5, 1) := by decide +kernel
theorem dX6_falls_140 : decode cX6_falls 140 = .ok (.invokestatic 35, 3) := by decide +kernel
theorem dX6_falls_143 : decode cX6_falls 143 = .ok (.dup2, 1) := by decide +kernel
theorem dX6_falls_144 : decode cX6_falls 144 = .ok (.iaload, 1) := by decide +kernel
theorem dX6_falls_145 : decode cX6_falls 145 = .ok (.iconst 1, 1) := by decide +kernel
theorem dX6_falls_146 : decode cX6_falls 146 = .ok (.iadd, 1) := by decide +kernel
theorem dX6_falls_147 : decode cX6_falls 147 = .ok (.iastore, 1) := by decide +kernel
theorem dX6_falls_148 : decode cX6_falls 148 = .ok (.aload_n 0, 1) := by decide +kernel
theorem dX6_falls_149 : decode cX6_falls 149 = .ok (.getfield 7, 3) := by decide +kernel
theorem dX6_falls_152 : decode cX6_falls 152 = .ok (.iload_n 1, 1) := by decide +kernel
theorem dX6_falls_153 : decode cX6_falls 153 = .ok (.iconst 2, 1) := by decide +kernel
theorem dX6_falls_154 : decode cX6_falls 154 = .ok (.invokestatic 35, 3) := by decide +kernel
theorem dX6_falls_157 : decode cX6_falls 157 = .ok (.dup2, 1) := by decide +kernel
theorem dX6_falls_158 : decode cX6_falls 158 = .ok (.iaload, 1) := by decide +kernel
theorem dX6_falls_159 : decode cX6_falls 159 = .ok (.aload_n 0, 1) := by decide +kernel
theorem dX6_falls_160 : decode cX6_falls 160 = .ok (.getfield 7, 3) := by decide +kernel
theorem dX6_falls_163 : decode cX6_falls 163 = .ok (.iload_n 1, 1) := by decide +kernel
theorem dX6_falls_164 : decode cX6_falls 164 = .ok (.iconst 2, 1) := by decide +kernel
theorem dX6_falls_165 : decode cX6_falls 165 = .ok (.invokestatic 35, 3) := by decide +kernel
theorem dX6_falls_168 : decode cX6_falls 168 = .ok (.iaload, 1) := by decide +kernel
theorem dX6_falls_169 : decode cX6_falls 169 = .ok (.bipush 9, 2) := by decide +kernel
theorem dX6_falls_171 : decode cX6_falls 171 = .ok (.if_icmp .ge 7, 3) := by decide +kernel
theorem dX6_falls_174 : decode cX6_falls 174 = .ok (.iconst 1, 1) := by decide +kernel
theorem dX6_falls_175 : decode cX6_falls 175 = .ok (.goto 4, 3) := by decide +kernel
theorem dX6_falls_178 : decode cX6_falls 178 = .ok (.iconst 0, 1) := by decide +kernel
theorem dX6_falls_179 : decode cX6_falls 179 = .ok (.iadd, 1) := by decide +kernel
theorem dX6_falls_180 : decode cX6_falls 180 = .ok (.iastore, 1) := by decide +kernel
theorem dX6_falls_181 : decode cX6_falls 181 = .ok (.aload_n 0, 1) := by decide +kernel
theorem dX6_falls_182 : decode cX6_falls 182 = .ok (.getfield 7, 3) := by decide +kernel
theorem dX6_falls_185 : decode cX6_falls 185 = .ok (.iload_n 1, 1) := by decide +kernel
theorem dX6_falls_186 : decode cX6_falls 186 = .ok (.iconst 3, 1) := by decide +kernel
theorem dX6_falls_187 : decode cX6_falls 187 = .ok (.invokestatic 35, 3) := by decide +kernel
theorem dX6_falls_190 : decode cX6_falls 190 = .ok (.iconst 0, 1) := by decide +kernel
theorem dX6_falls_191 : decode cX6_falls 191 = .ok (.iastore, 1) := by decide +kernel
theorem dX6_falls_192 : decode cX6_falls 192 = .ok (.return_, 1) := by decide +kernel
theorem dX6_learns_0 : decode cX6_learns 0 = .ok (.aload_n 0, 1) := by decide +kernel
theorem dX6_learns_1 : decode cX6_learns 1 = .ok (.getfield 7, 3) := by decide +kernel
theorem dX6_learns_4 : decode cX6_learns 4 = .ok (.iload_n 1, 1) := by decide +kernel
theorem dX6_learns_5 : decode cX6_learns 5 = .ok (.iconst 2, 1) := by decide +kernel
theorem dX6_learns_6 : decode cX6_learns 6 = .ok (.invokestatic 35, 3) := by decide +kernel
theorem dX6_learns_9 : decode cX6_learns 9 = .ok (.dup2, 1) := by decide +kernel
theorem dX6_learns_10 : decode cX6_learns 10 = .ok (.iaload, 1) := by decide +kernel
theorem dX6_learns_11 : decode cX6_learns 11 = .ok (.aload_n 0, 1) := by decide +kernel
theorem dX6_learns_12 : decode cX6_learns 12 = .ok (.getfield 7, 3) := by decide +kernel
theorem dX6_learns_15 : decode cX6_learns 15 = .ok (.iload_n 1, 1) := by decide +kernel
theorem dX6_learns_16 : decode cX6_learns 16 = .ok (.iconst 2, 1) := by decide +kernel
theorem dX6_learns_17 : decode cX6_learns 17 = .ok (.invokestatic 35, 3) := by decide +kernel
theorem dX6_learns_20 : decode cX6_learns 20 = .ok (.iaload, 1) := by decide +kernel
theorem dX6_learns_21 : decode cX6_learns 21 = .ok (.ifCond .le 7, 3) := by decide +kernel
theorem dX6_learns_24 : decode cX6_learns 24 = .ok (.iconst 1, 1) := by decide +kernel
theorem dX6_learns_25 : decode cX6_learns 25 = .ok (.goto 4, 3) := by decide +kernel
theorem dX6_learns_28 : decode cX6_learns 28 = .ok (.iconst 0, 1) := by decide +kernel
theorem dX6_learns_29 : decode cX6_learns 29 = .ok (.isub, 1) := by decide +kernel
theorem dX6_learns_30 : decode cX6_learns 30 = .ok (.iastore, 1) := by decide +kernel
theorem dX6_learns_31 : decode cX6_learns 31 = .ok (.aload_n 0, 1) := by decide +kernel
theorem dX6_learns_32 : decode cX6_learns 32 = .ok (.getfield 7, 3) := by decide +kernel
theorem dX6_learns_35 : decode cX6_learns 35 = .ok (.iload_n 1, 1) := by decide +kernel
theorem dX6_learns_36 : decode cX6_learns 36 = .ok (.iconst 3, 1) := by decide +kernel
theorem dX6_learns_37 : decode cX6_learns 37 = .ok (.invokestatic 35, 3) := by decide +kernel
theorem dX6_learns_40 : decode cX6_learns 40 = .ok (.dup2, 1) := by decide +kernel
theorem dX6_learns_41 : decode cX6_learns 41 = .ok (.iaload, 1) := by decide +kernel
theorem dX6_learns_42 : decode cX6_learns 42 = .ok (.iconst 1, 1) := by decide +kernel
theorem dX6_learns_43 : decode cX6_learns 43 = .ok (.iadd, 1) := by decide +kernel
theorem dX6_learns_44 : decode cX6_learns 44 = .ok (.iastore, 1) := by decide +kernel
theorem dX6_learns_45 : decode cX6_learns 45 = .ok (.aload_n 0, 1) := by decide +kernel
theorem dX6_learns_46 : decode cX6_learns 46 = .ok (.getfield 7, 3) := by decide +kernel
theorem dX6_learns_49 : decode cX6_learns 49 = .ok (.iload_n 1, 1) := by decide +kernel
theorem dX6_learns_50 : decode cX6_learns 50 = .ok (.iconst 3, 1) := by decide +kernel
theorem dX6_learns_51 : decode cX6_learns 51 = .ok (.invokestatic 35, 3) := by decide +kernel
theorem dX6_learns_54 : decode cX6_learns 54 = .ok (.iaload, 1) := by decide +kernel
theorem dX6_learns_55 : decode cX6_learns 55 = .ok (.iconst 3, 1) := by decide +kernel
theorem dX6_learns_56 : decode cX6_learns 56 = .ok (.irem, 1) := by decide +kernel
theorem dX6_learns_57 : decode cX6_learns 57 = .ok (.ifCond .ne 22, 3) := by decide +kernel
theorem dX6_learns_60 : decode cX6_learns 60 = .ok (.aload_n 0, 1) := by decide +kernel
theorem dX6_learns_61 : decode cX6_learns 61 = .ok (.getfield 7, 3) := by decide +kernel
theorem dX6_learns_64 : decode cX6_learns 64 = .ok (.iload_n 1, 1) := by decide +kernel
theorem dX6_learns_65 : decode cX6_learns 65 = .ok (.iconst 1, 1) := by decide +kernel
theorem dX6_learns_66 : decode cX6_learns 66 = .ok (.invokestatic 35, 3) := by decide +kernel
theorem dX6_learns_69 : decode cX6_learns 69 = .ok (.iaload, 1) := by decide +kernel
theorem dX6_learns_70 : decode cX6_learns 70 = .ok (.bipush 9, 2) := by decide +kernel
theorem dX6_learns_72 : decode cX6_learns 72 = .ok (.if_icmp .ge 7, 3) := by decide +kernel
theorem dX6_learns_75 : decode cX6_learns 75 = .ok (.iconst 1, 1) := by decide +kernel
theorem dX6_learns_76 : decode cX6_learns 76 = .ok (.goto 4, 3) := by decide +kernel
theorem dX6_learns_79 : decode cX6_learns 79 = .ok (.iconst 0, 1) := by decide +kernel
theorem dX6_learns_80 : decode cX6_learns 80 = .ok (.istore_n 2, 1) := by decide +kernel
theorem dX6_learns_81 : decode cX6_learns 81 = .ok (.aload_n 0, 1) := by decide +kernel
theorem dX6_learns_82 : decode cX6_learns 82 = .ok (.getfield 7, 3) := by decide +kernel
theorem dX6_learns_85 : decode cX6_learns 85 = .ok (.iload_n 1, 1) := by decide +kernel
theorem dX6_learns_86 : decode cX6_learns 86 = .ok (.iconst 1, 1) := by decide +kernel
theorem dX6_learns_87 : decode cX6_learns 87 = .ok (.invokestatic 35, 3) := by decide +kernel
theorem dX6_learns_90 : decode cX6_learns 90 = .ok (.dup2, 1) := by decide +kernel
theorem dX6_learns_91 : decode cX6_learns 91 = .ok (.iaload, 1) := by decide +kernel
theorem dX6_learns_92 : decode cX6_learns 92 = .ok (.iload_n 2, 1) := by decide +kernel
theorem dX6_learns_93 : decode cX6_learns 93 = .ok (.ifCond .eq 7, 3) := by decide +kernel
theorem dX6_learns_96 : decode cX6_learns 96 = .ok (.iconst 1, 1) := by decide +kernel
theorem dX6_learns_97 : decode cX6_learns 97 = .ok (.goto 4, 3) := by decide +kernel
theorem dX6_learns_100 : decode cX6_learns 100 = .ok (.iconst 0, 1) := by decide +kernel
theorem dX6_learns_101 : decode cX6_learns 101 = .ok (.iadd, 1) := by decide +kernel
theorem dX6_learns_102 : decode cX6_learns 102 = .ok (.iastore, 1) := by decide +kernel
theorem dX6_learns_103 : decode cX6_learns 103 = .ok (.return_, 1) := by decide +kernel
theorem dX6_strains_0 : decode cX6_strains 0 = .ok (.aload_n 0, 1) := by decide +kernel
theorem dX6_strains_1 : decode cX6_strains 1 = .ok (.getfield 7, 3) := by decide +kernel
theorem dX6_strains_4 : decode cX6_strains 4 = .ok (.iload_n 1, 1) := by decide +kernel
theorem dX6_strains_5 : decode cX6_strains 5 = .ok (.iconst 4, 1) := by decide +kernel
theorem dX6_strains_6 : decode cX6_strains 6 = .ok (.invokestatic 31, 3) := by decide +kernel
theorem dX6_strains_9 : decode cX6_strains 9 = .ok (.dup2, 1) := by decide +kernel
theorem dX6_strains_10 : decode cX6_strains 10 = .ok (.iaload, 1) := by decide +kernel
theorem dX6_strains_11 : decode cX6_strains 11 = .ok (.iconst 1, 1) := by decide +kernel
theorem dX6_strains_12 : decode cX6_strains 12 = .ok (.iadd, 1) := by decide +kernel
theorem dX6_strains_13 : decode cX6_strains 13 = .ok (.iastore, 1) := by decide +kernel
theorem dX6_strains_14 : decode cX6_strains 14 = .ok (.aload_n 0, 1) := by decide +kernel
theorem dX6_strains_15 : decode cX6_strains 15 = .ok (.getfield 7, 3) := by decide +kernel
theorem dX6_strains_18 : decode cX6_strains 18 = .ok (.iload_n 1, 1) := by decide +kernel
theorem dX6_strains_19 : decode cX6_strains 19 = .ok (.iconst 4, 1) := by decide +kernel
theorem dX6_strains_20 : decode cX6_strains 20 = .ok (.invokestatic 31, 3) := by decide +kernel
theorem dX6_strains_23 : decode cX6_strains 23 = .ok (.iaload, 1) := by decide +kernel
theorem dX6_strains_24 : decode cX6_strains 24 = .ok (.iconst 3, 1) := by decide +kernel
theorem dX6_strains_25 : decode cX6_strains 25 = .ok (.if_icmp .ne 32, 3) := by decide +kernel
theorem dX6_strains_28 : decode cX6_strains 28 = .ok (.aload_n 0, 1) := by decide +kernel
theorem dX6_strains_29 : decode cX6_strains 29 = .ok (.getfield 7, 3) := by decide +kernel
theorem dX6_strains_32 : decode cX6_strains 32 = .ok (.iload_n 1, 1) := by decide +kernel
theorem dX6_strains_33 : decode cX6_strains 33 = .ok (.iconst 4, 1) := by decide +kernel
theorem dX6_strains_34 : decode cX6_strains 34 = .ok (.invokestatic 31, 3) := by decide +kernel
theorem dX6_strains_37 : decode cX6_strains 37 = .ok (.iconst 0, 1) := by decide +kernel
theorem dX6_strains_38 : decode cX6_strains 38 = .ok (.iastore, 1) := by decide +kernel
theorem dX6_strains_39 : decode cX6_strains 39 = .ok (.aload_n 0, 1) := by decide +kernel
theorem dX6_strains_40 : decode cX6_strains 40 = .ok (.getfield 7, 3) := by decide +kernel
theorem dX6_strains_43 : decode cX6_strains 43 = .ok (.iload_n 1, 1) := by decide +kernel
theorem dX6_strains_44 : decode cX6_strains 44 = .ok (.iconst 5, 1) := by decide +kernel
theorem dX6_strains_45 : decode cX6_strains 45 = .ok (.invokestatic 31, 3) := by decide +kernel
theorem dX6_strains_48 : decode cX6_strains 48 = .ok (.aload_n 0, 1) := by decide +kernel
theorem dX6_strains_49 : decode cX6_strains 49 = .ok (.getfield 7, 3) := by decide +kernel
theorem dX6_strains_52 : decode cX6_strains 52 = .ok (.sipush 190, 3) := by decide +kernel
theorem dX6_strains_55 : decode cX6_strains 55 = .ok (.iaload, 1) := by decide +kernel
theorem dX6_strains_56 : decode cX6_strains 56 = .ok (.iastore, 1) := by decide +kernel
theorem dX6_strains_57 : decode cX6_strains 57 = .ok (.return_, 1) := by decide +kernel
theorem dX6_rides_0 : decode cX6_rides 0 = .ok (.aload_n 0, 1) := by decide +kernel
theorem dX6_rides_1 : decode cX6_rides 1 = .ok (.iload_n 1, 1) := by decide +kernel
theorem dX6_rides_2 : decode cX6_rides 2 = .ok (.iload_n 2, 1) := by decide +kernel
theorem dX6_rides_3 : decode cX6_rides 3 = .ok (.invokevirtual 61, 3) := by decide +kernel
theorem dX6_rides_6 : decode cX6_rides 6 = .ok (.istore_n 3, 1) := by decide +kernel
theorem dX6_rides_7 : decode cX6_rides 7 = .ok (.iload_n 3, 1) := by decide +kernel
theorem dX6_rides_8 : decode cX6_rides 8 = .ok (.bipush (-5), 2) := by decide +kernel
theorem dX6_rides_10 : decode cX6_rides 10 = .ok (.if_icmp .ne 32, 3) := by decide +kernel
theorem dX6_rides_13 : decode cX6_rides 13 = .ok (.aload_n 0, 1) := by decide +kernel
theorem dX6_rides_14 : decode cX6_rides 14 = .ok (.getfield 7, 3) := by decide +kernel
theorem dX6_rides_17 : decode cX6_rides 17 = .ok (.sipush 315, 3) := by decide +kernel
theorem dX6_rides_20 : decode cX6_rides 20 = .ok (.dup2, 1) := by decide +kernel
theorem dX6_rides_21 : decode cX6_rides 21 = .ok (.iaload, 1) := by decide +kernel
theorem dX6_rides_22 : decode cX6_rides 22 = .ok (.iconst 1, 1) := by decide +kernel
theorem dX6_rides_23 : decode cX6_rides 23 = .ok (.iadd, 1) := by decide +kernel
theorem dX6_rides_24 : decode cX6_rides 24 = .ok (.iastore, 1) := by decide +kernel
theorem dX6_rides_25 : decode cX6_rides 25 = .ok (.aload_n 0, 1) := by decide +kernel
theorem dX6_rides_26 : decode cX6_rides 26 = .ok (.getfield 7, 3) := by decide +kernel
theorem dX6_rides_29 : decode cX6_rides 29 = .ok (.iload_n 1, 1) := by decide +kernel
theorem dX6_rides_30 : decode cX6_rides 30 = .ok (.bipush 6, 2) := by decide +kernel
theorem dX6_rides_32 : decode cX6_rides 32 = .ok (.invokestatic 35, 3) := by decide +kernel
theorem dX6_rides_35 : decode cX6_rides 35 = .ok (.dup2, 1) := by decide +kernel
theorem dX6_rides_36 : decode cX6_rides 36 = .ok (.iaload, 1) := by decide +kernel
theorem dX6_rides_37 : decode cX6_rides 37 = .ok (.iconst 1, 1) := by decide +kernel
theorem dX6_rides_38 : decode cX6_rides 38 = .ok (.iadd, 1) := by decide +kernel
theorem dX6_rides_39 : decode cX6_rides 39 = .ok (.iastore, 1) := by decide +kernel
theorem dX6_rides_40 : decode cX6_rides 40 = .ok (.iconst 0, 1) := by decide +kernel
theorem dX6_rides_41 : decode cX6_rides 41 = .ok (.ireturn, 1) := by decide +kernel
theorem dX6_rides_42 : decode cX6_rides 42 = .ok (.aload_n 0, 1) := by decide +kernel
theorem dX6_rides_43 : decode cX6_rides 43 = .ok (.getfield 25, 3) := by decide +kernel
theorem dX6_rides_46 : decode cX6_rides 46 = .ok (.iload_n 3, 1) := by decide +kernel
theorem dX6_rides_47 : decode cX6_rides 47 = .ok (.iconst 1, 1) := by decide +kernel
theorem dX6_rides_48 : decode cX6_rides 48 = .ok (.iastore, 1) := by decide +kernel
theorem dX6_rides_49 : decode cX6_rides 49 = .ok (.aload_n 0, 1) := by decide +kernel
theorem dX6_rides_50 : decode cX6_rides 50 = .ok (.getfield 7, 3) := by decide +kernel
theorem dX6_rides_53 : decode cX6_rides 53 = .ok (.sipush 313, 3) := by decide +kernel
theorem dX6_rides_56 : decode cX6_rides 56 = .ok (.dup2, 1) := by decide +kernel
theorem dX6_rides_57 : decode cX6_rides 57 = .ok (.iaload, 1) := by decide +kernel
theorem dX6_rides_58 : decode cX6_rides 58 = .ok (.iconst 1, 1) := by decide +kernel
theorem dX6_rides_59 : decode cX6_rides 59 = .ok (.iadd, 1) := by decide +kernel
theorem dX6_rides_60 : decode cX6_rides 60 = .ok (.iastore, 1) := by decide +kernel
theorem dX6_rides_61 : decode cX6_rides 61 = .ok (.aload_n 0, 1) := by decide +kernel
theorem dX6_rides_62 : decode cX6_rides 62 = .ok (.getfield 7, 3) := by decide +kernel
theorem dX6_rides_65 : decode cX6_rides 65 = .ok (.iload_n 3, 1) := by decide +kernel
theorem dX6_rides_66 : decode cX6_rides 66 = .ok (.bipush 6, 2) := by decide +kernel
theorem dX6_rides_68 : decode cX6_rides 68 = .ok (.invokestatic 31, 3) := by decide +kernel
theorem dX6_rides_71 : decode cX6_rides 71 = .ok (.dup2, 1) := by decide +kernel
theorem dX6_rides_72 : decode cX6_rides 72 = .ok (.iaload, 1) := by decide +kernel
theorem dX6_rides_73 : decode cX6_rides 73 = .ok (.iconst 1, 1) := by decide +kernel
theorem dX6_rides_74 : decode cX6_rides 74 = .ok (.iadd, 1) := by decide +kernel
theorem dX6_rides_75 : decode cX6_rides 75 = .ok (.iastore, 1) := by decide +kernel
theorem dX6_rides_76 : decode cX6_rides 76 = .ok (.aload_n 0, 1) := by decide +kernel
theorem dX6_rides_77 : decode cX6_rides 77 = .ok (.getfield 7, 3) := by decide +kernel
theorem dX6_rides_80 : decode cX6_rides 80 = .ok (.iload_n 1, 1) := by decide +kernel
theorem dX6_rides_81 : decode cX6_rides 81 = .ok (.iconst 4, 1) := by decide +kernel
theorem dX6_rides_82 : decode cX6_rides 82 = .ok (.invokestatic 35, 3) := by decide +kernel
theorem dX6_rides_85 : decode cX6_rides 85 = .ok (.dup2, 1) := by decide +kernel
theorem dX6_rides_86 : decode cX6_rides 86 = .ok (.iaload, 1) := by decide +kernel
theorem dX6_rides_87 : decode cX6_rides 87 = .ok (.iconst 1, 1) := by decide +kernel
theorem dX6_rides_88 : decode cX6_rides 88 = .ok (.iadd, 1) := by decide +kernel
theorem dX6_rides_89 : decode cX6_rides 89 = .ok (.iastore, 1) := by decide +kernel
theorem dX6_rides_90 : decode cX6_rides 90 = .ok (.aload_n 0, 1) := by decide +kernel
theorem dX6_rides_91 : decode cX6_rides 91 = .ok (.getfield 7, 3) := by decide +kernel
theorem dX6_rides_94 : decode cX6_rides 94 = .ok (.iload_n 1, 1) := by decide +kernel
theorem dX6_rides_95 : decode cX6_rides 95 = .ok (.bipush 7, 2) := by decide +kernel
theorem dX6_rides_97 : decode cX6_rides 97 = .ok (.invokestatic 35, 3) := by decide +kernel
theorem dX6_rides_100 : decode cX6_rides 100 = .ok (.iload_n 3, 1) := by decide +kernel
theorem dX6_rides_101 : decode cX6_rides 101 = .ok (.iastore, 1) := by decide +kernel
theorem dX6_rides_102 : decode cX6_rides 102 = .ok (.aload_n 0, 1) := by decide +kernel
theorem dX6_rides_103 : decode cX6_rides 103 = .ok (.getfield 7, 3) := by decide +kernel
theorem dX6_rides_106 : decode cX6_rides 106 = .ok (.iload_n 3, 1) := by decide +kernel
theorem dX6_rides_107 : decode cX6_rides 107 = .ok (.iconst 1, 1) := by decide +kernel
theorem dX6_rides_108 : decode cX6_rides 108 = .ok (.invokestatic 31, 3) := by decide +kernel
theorem dX6_rides_111 : decode cX6_rides 111 = .ok (.iaload, 1) := by decide +kernel
theorem dX6_rides_112 : decode cX6_rides 112 = .ok (.aload_n 0, 1) := by decide +kernel
theorem dX6_rides_113 : decode cX6_rides 113 = .ok (.iload_n 1, 1) := by decide +kernel
theorem dX6_rides_114 : decode cX6_rides 114 = .ok (.invokevirtual 50, 3) := by decide +kernel
theorem dX6_rides_117 : decode cX6_rides 117 = .ok (.if_icmp .le 12, 3) := by decide +kernel
theorem dX6_rides_120 : decode cX6_rides 120 = .ok (.aload_n 0, 1) := by decide +kernel
theorem dX6_rides_121 : decode cX6_rides 121 = .ok (.iload_n 1, 1) := by decide +kernel
theorem dX6_rides_122 : decode cX6_rides 122 = .ok (.iload_n 3, 1) := by decide +kernel
theorem dX6_rides_123 : decode cX6_rides 123 = .ok (.invokevirtual 64, 3) := by decide +kernel
theorem dX6_rides_126 : decode cX6_rides 126 = .ok (.goto 8, 3) := by decide +kernel
theorem dX6_rides_129 : decode cX6_rides 129 = .ok (.aload_n 0, 1) := by decide +kernel
theorem dX6_rides_130 : decode cX6_rides 130 = .ok (.iload_n 1, 1) := by decide +kernel
theorem dX6_rides_131 : decode cX6_rides 131 = .ok (.invokevirtual 68, 3) := by decide +kernel
theorem dX6_rides_134 : decode cX6_rides 134 = .ok (.aload_n 0, 1) := by decide +kernel
theorem dX6_rides_135 : decode cX6_rides 135 = .ok (.getfield 7, 3) := by decide +kernel
theorem dX6_rides_138 : decode cX6_rides 138 = .ok (.iload_n 1, 1) := by decide +kernel
theorem dX6_rides_139 : decode cX6_rides 139 = .ok (.iconst 0, 1) := by decide +kernel
theorem dX6_rides_140 : decode cX6_rides 140 = .ok (.invokestatic 35, 3) := by decide +kernel
theorem dX6_rides_143 : decode cX6_rides 143 = .ok (.iaload, 1) := by decide +kernel
theorem dX6_rides_144 : decode cX6_rides 144 = .ok (.aload_n 0, 1) := by decide +kernel
theorem dX6_rides_145 : decode cX6_rides 145 = .ok (.getfield 7, 3) := by decide +kernel
theorem dX6_rides_148 : decode cX6_rides 148 = .ok (.sipush 189, 3) := by decide +kernel
theorem dX6_rides_151 : decode cX6_rides 151 = .ok (.iaload, 1) := by decide +kernel
theorem dX6_rides_152 : decode cX6_rides 152 = .ok (.iadd, 1) := by decide +kernel
theorem dX6_rides_153 : decode cX6_rides 153 = .ok (.aload_n 0, 1) := by decide +kernel
theorem dX6_rides_154 : decode cX6_rides 154 = .ok (.getfield 7, 3) := by decide +kernel
theorem dX6_rides_157 : decode cX6_rides 157 = .ok (.iload_n 3, 1) := by decide +kernel
theorem dX6_rides_158 : decode cX6_rides 158 = .ok (.iconst 0, 1) := by decide +kernel
theorem dX6_rides_159 : decode cX6_rides 159 = .ok (.invokestatic 31, 3) := by decide +kernel
theorem dX6_rides_162 : decode cX6_rides 162 = .ok (.iaload, 1) := by decide +kernel
theorem dX6_rides_163 : decode cX6_rides 163 = .ok (.if_icmp .le 8, 3) := by decide +kernel
theorem dX6_rides_166 : decode cX6_rides 166 = .ok (.aload_n 0, 1) := by decide +kernel
theorem dX6_rides_167 : decode cX6_rides 167 = .ok (.iload_n 3, 1) := by decide +kernel
theorem dX6_rides_168 : decode cX6_rides 168 = .ok (.invokevirtual 72, 3) := by decide +kernel
theorem dX6_rides_171 : decode cX6_rides 171 = .ok (.iconst 1, 1) := by decide +kernel
theorem dX6_rides_172 : decode cX6_rides 172 = .ok (.ireturn, 1) := by decide +kernel
theorem dX6_gives_0 : decode cX6_gives 0 = .ok (.iconst 0, 1) := by decide +kernel
theorem dX6_gives_1 : decode cX6_gives 1 = .ok (.istore_n 2, 1) := by decide +kernel
theorem dX6_gives_2 : decode cX6_gives 2 = .ok (.iconst 0, 1) := by decide +kernel
theorem dX6_gives_3 : decode cX6_gives 3 = .ok (.istore_n 3, 1) := by decide +kernel
theorem dX6_gives_4 : decode cX6_gives 4 = .ok (.aload_n 0, 1) := by decide +kernel
theorem dX6_gives_5 : decode cX6_gives 5 = .ok (.getfield 7, 3) := by decide +kernel
theorem dX6_gives_8 : decode cX6_gives 8 = .ok (.sipush 192, 3) := by decide +kernel
theorem dX6_gives_11 : decode cX6_gives 11 = .ok (.iaload, 1) := by decide +kernel
theorem dX6_gives_12 : decode cX6_gives 12 = .ok (.istore 4, 2) := by decide +kernel
theorem dX6_gives_14 : decode cX6_gives 14 = .ok (.iconst 0, 1) := by decide +kernel
theorem dX6_gives_15 : decode cX6_gives 15 = .ok (.istore 5, 2) := by decide +kernel
theorem dX6_gives_17 : decode cX6_gives 17 = .ok (.iload 5, 2) := by decide +kernel
theorem dX6_gives_19 : decode cX6_gives 19 = .ok (.iload 4, 2) := by decide +kernel
theorem dX6_gives_21 : decode cX6_gives 21 = .ok (.if_icmp .ge 100, 3) := by decide +kernel
theorem dX6_gives_24 : decode cX6_gives 24 = .ok (.aload_n 0, 1) := by decide +kernel
theorem dX6_gives_25 : decode cX6_gives 25 = .ok (.getfield 7, 3) := by decide +kernel
theorem dX6_gives_28 : decode cX6_gives 28 = .ok (.iload 5, 2) := by decide +kernel
theorem dX6_gives_30 : decode cX6_gives 30 = .ok (.iconst 0, 1) := by decide +kernel
theorem dX6_gives_31 : decode cX6_gives 31 = .ok (.invokestatic 75, 3) := by decide +kernel
theorem dX6_gives_34 : decode cX6_gives 34 = .ok (.iaload, 1) := by decide +kernel
theorem dX6_gives_35 : decode cX6_gives 35 = .ok (.aload_n 0, 1) := by decide +kernel
theorem dX6_gives_36 : decode cX6_gives 36 = .ok (.getfield 7, 3) := by decide +kernel
theorem dX6_gives_39 : decode cX6_gives 39 = .ok (.iconst 0, 1) := by decide +kernel
theorem dX6_gives_40 : decode cX6_gives 40 = .ok (.iaload, 1) := by decide +kernel
theorem dX6_gives_41 : decode cX6_gives 41 = .ok (.if_icmp .ne 33, 3) := by decide +kernel
theorem dX6_gives_44 : decode cX6_gives 44 = .ok (.iload_n 2, 1) := by decide +kernel
theorem dX6_gives_45 : decode cX6_gives 45 = .ok (.aload_n 0, 1) := by decide +kernel
theorem dX6_gives_46 : decode cX6_gives 46 = .ok (.aload_n 0, 1) := by decide +kernel
theorem dX6_gives_47 : decode cX6_gives 47 = .ok (.getfield 7, 3) := by decide +kernel
theorem dX6_gives_50 : decode cX6_gives 50 = .ok (.iload 5, 2) := by decide +kernel
theorem dX6_gives_52 : decode cX6_gives 52 = .ok (.iconst 2, 1) := by decide +kernel
theorem dX6_gives_53 : decode cX6_gives 53 = .ok (.invokestatic 75, 3) := by decide +kernel
theorem dX6_gives_56 : decode cX6_gives 56 = .ok (.iaload, 1) := by decide +kernel
theorem dX6_gives_57 : decode cX6_gives 57 = .ok (.iload_n 1, 1) := by decide +kernel
theorem dX6_gives_58 : decode cX6_gives 58 = .ok (.invokevirtual 78, 3) := by decide +kernel
theorem dX6_gives_61 : decode cX6_gives 61 = .ok (.ifCond .eq 7, 3) := by decide +kernel
theorem dX6_gives_64 : decode cX6_gives 64 = .ok (.iconst 1, 1) := by decide +kernel
theorem dX6_gives_65 : decode cX6_gives 65 = .ok (.goto 4, 3) := by decide +kernel
theorem dX6_gives_68 : decode cX6_gives 68 = .ok (.iconst 0, 1) := by decide +kernel
theorem dX6_gives_69 : decode cX6_gives 69 = .ok (.iadd, 1) := by decide +kernel
theorem dX6_gives_70 : decode cX6_gives 70 = .ok (.istore_n 2, 1) := by decide +kernel
theorem dX6_gives_71 : decode cX6_gives 71 = .ok (.goto 44, 3) := by decide +kernel
theorem dX6_gives_74 : decode cX6_gives 74 = .ok (.iconst 0, 1) := by decide +kernel
theorem dX6_gives_75 : decode cX6_gives 75 = .ok (.istore 6, 2) := by decide +kernel
theorem dX6_gives_77 : decode cX6_gives 77 = .ok (.iload 6, 2) := by decide +kernel
theorem dX6_gives_79 : decode cX6_gives 79 = .ok (.iconst 3, 1) := by decide +kernel
theorem dX6_gives_80 : decode cX6_gives 80 = .ok (.if_icmp .ge 32, 3) := by decide +kernel
theorem dX6_gives_83 : decode cX6_gives 83 = .ok (.aload_n 0, 1) := by decide +kernel
theorem dX6_gives_84 : decode cX6_gives 84 = .ok (.getfield 7, 3) := by decide +kernel
theorem dX6_gives_87 : decode cX6_gives 87 = .ok (.iload_n 3, 1) := by decide +kernel
theorem dX6_gives_88 : decode cX6_gives 88 = .ok (.iload 6, 2) := by decide +kernel
theorem dX6_gives_90 : decode cX6_gives 90 = .ok (.invokestatic 75, 3) := by decide +kernel
theorem dX6_gives_93 : decode cX6_gives 93 = .ok (.aload_n 0, 1) := by decide +kernel
theorem dX6_gives_94 : decode cX6_gives 94 = .ok (.getfield 7, 3) := by decide +kernel
theorem dX6_gives_97 : decode cX6_gives 97 = .ok (.iload 5, 2) := by decide +kernel
theorem dX6_gives_99 : decode cX6_gives 99 = .ok (.iload 6, 2) := by decide +kernel
theorem dX6_gives_101 : decode cX6_gives 101 = .ok (.invokestatic 75, 3) := by decide +kernel
theorem dX6_gives_104 : decode cX6_gives 104 = .ok (.iaload, 1) := by decide +kernel
theorem dX6_gives_105 : decode cX6_gives 105 = .ok (.iastore, 1) := by decide +kernel
theorem dX6_gives_106 : decode cX6_gives 106 = .ok (.iinc 6 1, 3) := by decide +kernel
theorem dX6_gives_109 : decode cX6_gives 109 = .ok (.goto (-32), 3) := by decide +kernel
theorem dX6_gives_112 : decode cX6_gives 112 = .ok (.iinc 3 1, 3) := by decide +kernel
theorem dX6_gives_115 : decode cX6_gives 115 = .ok (.iinc 5 1, 3) := by decide +kernel
theorem dX6_gives_118 : decode cX6_gives 118 = .ok (.goto (-101), 3) := by decide +kernel
theorem dX6_gives_121 : decode cX6_gives 121 = .ok (.aload_n 0, 1) := by decide +kernel
theorem dX6_gives_122 : decode cX6_gives 122 = .ok (.getfield 7, 3) := by decide +kernel
theorem dX6_gives_125 : decode cX6_gives 125 = .ok (.sipush 192, 3) := by decide +kernel
theorem dX6_gives_128 : decode cX6_gives 128 = .ok (.iload_n 3, 1) := by decide +kernel
theorem dX6_gives_129 : decode cX6_gives 129 = .ok (.iastore, 1) := by decide +kernel
theorem dX6_gives_130 : decode cX6_gives 130 = .ok (.iload_n 2, 1) := by decide +kernel
theorem dX6_gives_131 : decode cX6_gives 131 = .ok (.ireturn, 1) := by decide +kernel
theorem dX6_rests_0 : decode cX6_rests 0 = .ok (.aload_n 0, 1) := by decide +kernel
theorem dX6_rests_1 : decode cX6_rests 1 = .ok (.getfield 25, 3) := by decide +kernel
theorem dX6_rests_4 : decode cX6_rests 4 = .ok (.iload_n 1, 1) := by decide +kernel
theorem dX6_rests_5 : decode cX6_rests 5 = .ok (.iaload, 1) := by decide +kernel
theorem dX6_rests_6 : decode cX6_rests 6 = .ok (.iconst 1, 1) := by decide +kernel
theorem dX6_rests_7 : decode cX6_rests 7 = .ok (.if_icmp .ne 7, 3) := by decide +kernel
theorem dX6_rests_10 : decode cX6_rests 10 = .ok (.iconst 1, 1) := by decide +kernel
theorem dX6_rests_11 : decode cX6_rests 11 = .ok (.goto 4, 3) := by decide +kernel
theorem dX6_rests_14 : decode cX6_rests 14 = .ok (.iconst 0, 1) := by decide +kernel
theorem dX6_rests_15 : decode cX6_rests 15 = .ok (.istore_n 3, 1) := by decide +kernel
theorem dX6_rests_16 : decode cX6_rests 16 = .ok (.iload_n 3, 1) := by decide +kernel
theorem dX6_rests_17 : decode cX6_rests 17 = .ok (.ifCond .eq 7, 3) := by decide +kernel
theorem dX6_rests_20 : decode cX6_rests 20 = .ok (.iconst (-1), 1) := by decide +kernel
theorem dX6_rests_21 : decode cX6_rests 21 = .ok (.goto 4, 3) := by decide +kernel
theorem dX6_rests_24 : decode cX6_rests 24 = .ok (.iconst 1, 1) := by decide +kernel
theorem dX6_rests_25 : decode cX6_rests 25 = .ok (.aload_n 0, 1) := by decide +kernel
theorem dX6_rests_26 : decode cX6_rests 26 = .ok (.getfield 7, 3) := by decide +kernel
theorem dX6_rests_29 : decode cX6_rests 29 = .ok (.iconst 0, 1) := by decide +kernel
theorem dX6_rests_30 : decode cX6_rests 30 = .ok (.iaload, 1) := by decide +kernel
theorem dX6_rests_31 : decode cX6_rests 31 = .ok (.bipush 10, 2) := by decide +kernel
theorem dX6_rests_33 : decode cX6_rests 33 = .ok (.irem, 1) := by decide +kernel
theorem dX6_rests_34 : decode cX6_rests 34 = .ok (.bipush 9, 2) := by decide +kernel
theorem dX6_rests_36 : decode cX6_rests 36 = .ok (.if_icmp .ne 8, 3) := by decide +kernel
theorem dX6_rests_39 : decode cX6_rests 39 = .ok (.bipush 8, 2) := by decide +kernel
theorem dX6_rests_41 : decode cX6_rests 41 = .ok (.goto 4, 3) := by decide +kernel
theorem dX6_rests_44 : decode cX6_rests 44 = .ok (.iconst 0, 1) := by decide +kernel
theorem dX6_rests_45 : decode cX6_rests 45 = .ok (.iadd, 1) := by decide +kernel
theorem dX6_rests_46 : decode cX6_rests 46 = .ok (.istore 4, 2) := by decide +kernel
theorem dX6_rests_48 : decode cX6_rests 48 = .ok (.aload_n 0, 1) := by decide +kernel
theorem dX6_rests_49 : decode cX6_rests 49 = .ok (.getfield 7, 3) := by decide +kernel
theorem dX6_rests_52 : decode cX6_rests 52 = .ok (.iload_n 1, 1) := by decide +kernel
theorem dX6_rests_53 : decode cX6_rests 53 = .ok (.iconst 2, 1) := by decide +kernel
theorem dX6_rests_54 : decode cX6_rests 54 = .ok (.invokestatic 31, 3) := by decide +kernel
theorem dX6_rests_57 : decode cX6_rests 57 = .ok (.iaload, 1) := by decide +kernel
theorem dX6_rests_58 : decode cX6_rests 58 = .ok (.iload 4, 2) := by decide +kernel
theorem dX6_rests_60 : decode cX6_rests 60 = .ok (.isub, 1) := by decide +kernel
theorem dX6_rests_61 : decode cX6_rests 61 = .ok (.istore 5, 2) := by decide +kernel
theorem dX6_rests_63 : decode cX6_rests 63 = .ok (.aload_n 0, 1) := by decide +kernel
theorem dX6_rests_64 : decode cX6_rests 64 = .ok (.getfield 7, 3) := by decide +kernel
theorem dX6_rests_67 : decode cX6_rests 67 = .ok (.iload_n 1, 1) := by decide +kernel
theorem dX6_rests_68 : decode cX6_rests 68 = .ok (.iconst 2, 1) := by decide +kernel
theorem dX6_rests_69 : decode cX6_rests 69 = .ok (.invokestatic 31, 3) := by decide +kernel
theorem dX6_rests_72 : decode cX6_rests 72 = .ok (.iload 5, 2) := by decide +kernel
theorem dX6_rests_74 : decode cX6_rests 74 = .ok (.ifCond .ge 7, 3) := by decide +kernel
theorem dX6_rests_77 : decode cX6_rests 77 = .ok (.iconst 0, 1) := by decide +kernel
theorem dX6_rests_78 : decode cX6_rests 78 = .ok (.goto 5, 3) := by decide +kernel
theorem dX6_rests_81 : decode cX6_rests 81 = .ok (.iload 5, 2) := by decide +kernel
theorem dX6_rests_83 : decode cX6_rests 83 = .ok (.iastore, 1) := by decide +kernel
theorem dX6_rests_84 : decode cX6_rests 84 = .ok (.aload_n 0, 1) := by decide +kernel
theorem dX6_rests_85 : decode cX6_rests 85 = .ok (.getfield 7, 3) := by decide +kernel
theorem dX6_rests_88 : decode cX6_rests 88 = .ok (.iload_n 1, 1) := by decide +kernel
theorem dX6_rests_89 : decode cX6_rests 89 = .ok (.iconst 3, 1) := by decide +kernel
theorem dX6_rests_90 : decode cX6_rests 90 = .ok (.invokestatic 31, 3) := by decide +kernel
theorem dX6_rests_93 : decode cX6_rests 93 = .ok (.dup2, 1) := by decide +kernel
theorem dX6_rests_94 : decode cX6_rests 94 = .ok (.iaload, 1) := by decide +kernel
theorem dX6_rests_95 : decode cX6_rests 95 = .ok (.iload_n 3, 1) := by decide +kernel
theorem dX6_rests_96 : decode cX6_rests 96 = .ok (.ifCond .eq 7, 3) := by decide +kernel
theorem dX6_rests_99 : decode cX6_rests 99 = .ok (.iconst 1, 1) := by decide +kernel
theorem dX6_rests_100 : decode cX6_rests 100 = .ok (.goto 4, 3) := by decide +kernel
theorem dX6_rests_103 : decode cX6_rests 103 = .ok (.iconst 0, 1) := by decide +kernel
theorem dX6_rests_104 : decode cX6_rests 104 = .ok (.iadd, 1) := by decide +kernel
theorem dX6_rests_105 : decode cX6_rests 105 = .ok (.iastore, 1) := by decide +kernel
theorem dX6_rests_106 : decode cX6_rests 106 = .ok (.aload_n 0, 1) := by decide +kernel
theorem dX6_rests_107 : decode cX6_rests 107 = .ok (.getfield 7, 3) := by decide +kernel
theorem dX6_rests_110 : decode cX6_rests 110 = .ok (.iload_n 1, 1) := by decide +kernel
theorem dX6_rests_111 : decode cX6_rests 111 = .ok (.iconst 5, 1) := by decide +kernel
theorem dX6_rests_112 : decode cX6_rests 112 = .ok (.invokestatic 31, 3) := by decide +kernel
theorem dX6_rests_115 : decode cX6_rests 115 = .ok (.dup2, 1) := by decide +kernel
theorem dX6_rests_116 : decode cX6_rests 116 = .ok (.iaload, 1) := by decide +kernel
theorem dX6_rests_117 : decode cX6_rests 117 = .ok (.aload_n 0, 1) := by decide +kernel
theorem dX6_rests_118 : decode cX6_rests 118 = .ok (.getfield 28, 3) := by decide +kernel
theorem dX6_rests_121 : decode cX6_rests 121 = .ok (.iload_n 1, 1) := by decide +kernel
theorem dX6_rests_122 : decode cX6_rests 122 = .ok (.iaload, 1) := by decide +kernel
theorem dX6_rests_123 : decode cX6_rests 123 = .ok (.ifCond .le 7, 3) := by decide +kernel
theorem dX6_rests_126 : decode cX6_rests 126 = .ok (.iconst 1, 1) := by decide +kernel
theorem dX6_rests_127 : decode cX6_rests 127 = .ok (.goto 4, 3) := by decide +kernel
theorem dX6_rests_130 : decode cX6_rests 130 = .ok (.iconst 0, 1) := by decide +kernel
theorem dX6_rests_131 : decode cX6_rests 131 = .ok (.isub, 1) := by decide +kernel
theorem dX6_rests_132 : decode cX6_rests 132 = .ok (.iastore, 1) := by decide +kernel
theorem dX6_rests_133 : decode cX6_rests 133 = .ok (.iload_n 1, 1) := by decide +kernel
theorem dX6_rests_134 : decode cX6_rests 134 = .ok (.iload_n 2, 1) := by decide +kernel
theorem dX6_rests_135 : decode cX6_rests 135 = .ok (.if_icmp .ne 41, 3) := by decide +kernel
theorem dX6_rests_138 : decode cX6_rests 138 = .ok (.aload_n 0, 1) := by decide +kernel
theorem dX6_rests_139 : decode cX6_rests 139 = .ok (.getfield 7, 3) := by decide +kernel
theorem dX6_rests_142 : decode cX6_rests 142 = .ok (.iload_n 1, 1) := by decide +kernel
theorem dX6_rests_143 : decode cX6_rests 143 = .ok (.iconst 3, 1) := by decide +kernel
theorem dX6_rests_144 : decode cX6_rests 144 = .ok (.invokestatic 31, 3) := by decide +kernel
theorem dX6_rests_147 : decode cX6_rests 147 = .ok (.iconst 0, 1) := by decide +kernel
theorem dX6_rests_148 : decode cX6_rests 148 = .ok (.iastore, 1) := by decide +kernel
theorem dX6_rests_149 : decode cX6_rests 149 = .ok (.aload_n 0, 1) := by decide +kernel
theorem dX6_rests_150 : decode cX6_rests 150 = .ok (.getfield 7, 3) := by decide +kernel
theorem dX6_rests_153 : decode cX6_rests 153 = .ok (.iload_n 1, 1) := by decide +kernel
theorem dX6_rests_154 : decode cX6_rests 154 = .ok (.bipush 8, 2) := by decide +kernel
theorem dX6_rests_156 : decode cX6_rests 156 = .ok (.invokestatic 31, 3) := by decide +kernel
theorem dX6_rests_159 : decode cX6_rests 159 = .ok (.dup2, 1) := by decide +kernel
theorem dX6_rests_160 : decode cX6_rests 160 = .ok (.iaload, 1) := by decide +kernel
theorem dX6_rests_161 : decode cX6_rests 161 = .ok (.iconst 1, 1) := by decide +kernel
theorem dX6_rests_162 : decode cX6_rests 162 = .ok (.iadd, 1) := by decide +kernel
theorem dX6_rests_163 : decode cX6_rests 163 = .ok (.iastore, 1) := by decide +kernel
theorem dX6_rests_164 : decode cX6_rests 164 = .ok (.aload_n 0, 1) := by decide +kernel
theorem dX6_rests_165 : decode cX6_rests 165 = .ok (.getfield 7, 3) := by decide +kernel
theorem dX6_rests_168 : decode cX6_rests 168 = .ok (.sipush 316, 3) := by decide +kernel
theorem dX6_rests_171 : decode cX6_rests 171 = .ok (.dup2, 1) := by decide +kernel
theorem dX6_rests_172 : decode cX6_rests 172 = .ok (.iaload, 1) := by decide +kernel
theorem dX6_rests_173 : decode cX6_rests 173 = .ok (.iconst 1, 1) := by decide +kernel
theorem dX6_rests_174 : decode cX6_rests 174 = .ok (.iadd, 1) := by decide +kernel
theorem dX6_rests_175 : decode cX6_rests 175 = .ok (.iastore, 1) := by decide +kernel
theorem dX6_rests_176 : decode cX6_rests 176 = .ok (.return_, 1) := by decide +kernel
theorem dX6_hour_0 : decode cX6_hour 0 = .ok (.aload_n 0, 1) := by decide +kernel
theorem dX6_hour_1 : decode cX6_hour 1 = .ok (.invokevirtual 82, 3) := by decide +kernel
theorem dX6_hour_4 : decode cX6_hour 4 = .ok (.istore_n 2, 1) := by decide +kernel
theorem dX6_hour_5 : decode cX6_hour 5 = .ok (.aload_n 0, 1) := by decide +kernel
theorem dX6_hour_6 : decode cX6_hour 6 = .ok (.invokevirtual 86, 3) := by decide +kernel
theorem dX6_hour_9 : decode cX6_hour 9 = .ok (.iconst 0, 1) := by decide +kernel
theorem dX6_hour_10 : decode cX6_hour 10 = .ok (.istore_n 3, 1) := by decide +kernel
theorem dX6_hour_11 : decode cX6_hour 11 = .ok (.iload_n 3, 1) := by decide +kernel
theorem dX6_hour_12 : decode cX6_hour 12 = .ok (.bipush 10, 2) := by decide +kernel
theorem dX6_hour_14 : decode cX6_hour 14 = .ok (.if_icmp .ge 25, 3) := by decide +kernel
theorem dX6_hour_17 : decode cX6_hour 17 = .ok (.aload_n 0, 1) := by decide +kernel
theorem dX6_hour_18 : decode cX6_hour 18 = .ok (.getfield 28, 3) := by decide +kernel
theorem dX6_hour_21 : decode cX6_hour 21 = .ok (.iload_n 3, 1) := by decide +kernel
theorem dX6_hour_22 : decode cX6_hour 22 = .ok (.aload_n 0, 1) := by decide +kernel
theorem dX6_hour_23 : decode cX6_hour 23 = .ok (.getfield 7, 3) := by decide +kernel
theorem dX6_hour_26 : decode cX6_hour 26 = .ok (.iload_n 3, 1) := by decide +kernel
theorem dX6_hour_27 : decode cX6_hour 27 = .ok (.iconst 5, 1) := by decide +kernel
theorem dX6_hour_28 : decode cX6_hour 28 = .ok (.invokestatic 31, 3) := by decide +kernel
theorem dX6_hour_31 : decode cX6_hour 31 = .ok (.iaload, 1) := by decide +kernel
theorem dX6_hour_32 : decode cX6_hour 32 = .ok (.iastore, 1) := by decide +kernel
theorem dX6_hour_33 : decode cX6_hour 33 = .ok (.iinc 3 1, 3) := by decide +kernel
theorem dX6_hour_36 : decode cX6_hour 36 = .ok (.goto (-25), 3) := by decide +kernel
theorem dX6_hour_39 : decode cX6_hour 39 = .ok (.iload_n 1, 1) := by decide +kernel
theorem dX6_hour_40 : decode cX6_hour 40 = .ok (.ifCond .eq 11, 3) := by decide +kernel
theorem dX6_hour_43 : decode cX6_hour 43 = .ok (.aload_n 0, 1) := by decide +kernel
theorem dX6_hour_44 : decode cX6_hour 44 = .ok (.iload_n 2, 1) := by decide +kernel
theorem dX6_hour_45 : decode cX6_hour 45 = .ok (.invokevirtual 89, 3) := by decide +kernel
theorem dX6_hour_48 : decode cX6_hour 48 = .ok (.goto 4, 3) := by decide +kernel
theorem dX6_hour_51 : decode cX6_hour 51 = .ok (.iconst 0, 1) := by decide +kernel
theorem dX6_hour_52 : decode cX6_hour 52 = .ok (.istore_n 3, 1) := by decide +kernel
theorem dX6_hour_53 : decode cX6_hour 53 = .ok (.iconst 0, 1) := by decide +kernel
theorem dX6_hour_54 : decode cX6_hour 54 = .ok (.istore 4, 2) := by decide +kernel
theorem dX6_hour_56 : decode cX6_hour 56 = .ok (.iload 4, 2) := by decide +kernel
theorem dX6_hour_58 : decode cX6_hour 58 = .ok (.bipush 10, 2) := by decide +kernel
theorem dX6_hour_60 : decode cX6_hour 60 = .ok (.if_icmp .ge 16, 3) := by decide +kernel
theorem dX6_hour_63 : decode cX6_hour 63 = .ok (.aload_n 0, 1) := by decide +kernel
theorem dX6_hour_64 : decode cX6_hour 64 = .ok (.iload 4, 2) := by decide +kernel
theorem dX6_hour_66 : decode cX6_hour 66 = .ok (.iload_n 2, 1) := by decide +kernel
theorem dX6_hour_67 : decode cX6_hour 67 = .ok (.invokevirtual 92, 3) := by decide +kernel
theorem dX6_hour_70 : decode cX6_hour 70 = .ok (.iinc 4 1, 3) := by decide +kernel
theorem dX6_hour_73 : decode cX6_hour 73 = .ok (.goto (-17), 3) := by decide +kernel
theorem dX6_hour_76 : decode cX6_hour 76 = .ok (.aload_n 0, 1) := by decide +kernel
theorem dX6_hour_77 : decode cX6_hour 77 = .ok (.getfield 7, 3) := by decide +kernel
theorem dX6_hour_80 : decode cX6_hour 80 = .ok (.iconst 0, 1) := by decide +kernel
theorem dX6_hour_81 : decode cX6_hour 81 = .ok (.dup2, 1) := by decide +kernel
theorem dX6_hour_82 : decode cX6_hour 82 = .ok (.iaload, 1) := by decide +kernel
theorem dX6_hour_83 : decode cX6_hour 83 = .ok (.iconst 1, 1) := by decide +kernel
theorem dX6_hour_84 : decode cX6_hour 84 = .ok (.iadd, 1) := by decide +kernel
theorem dX6_hour_85 : decode cX6_hour 85 = .ok (.iastore, 1) := by decide +kernel
theorem dX6_hour_86 : decode cX6_hour 86 = .ok (.iload_n 3, 1) := by decide +kernel
theorem dX6_hour_87 : decode cX6_hour 87 = .ok (.ireturn, 1) := by decide +kernel
theorem dX6_setHorse_0 : decode cX6_setHorse 0 = .ok (.iload_n 1, 1) := by decide +kernel
theorem dX6_setHorse_1 : decode cX6_setHorse 1 = .ok (.invokestatic 95, 3) := by decide +kernel
theorem dX6_setHorse_4 : decode cX6_setHorse 4 = .ok (.ifCond .ne 5, 3) := by decide +kernel
theorem dX6_setHorse_7 : decode cX6_setHorse 7 = .ok (.iconst (-1), 1) := by decide +kernel
theorem dX6_setHorse_8 : decode cX6_setHorse 8 = .ok (.ireturn, 1) := by decide +kernel
theorem dX6_setHorse_9 : decode cX6_setHorse 9 = .ok (.iload_n 2, 1) := by decide +kernel
theorem dX6_setHorse_10 : decode cX6_setHorse 10 = .ok (.bipush 20, 2) := by decide +kernel
theorem dX6_setHorse_12 : decode cX6_setHorse 12 = .ok (.sipush 150, 3) := by decide +kernel
theorem dX6_setHorse_15 : decode cX6_setHorse 15 = .ok (.invokestatic 38, 3) := by decide +kernel
theorem dX6_setHorse_18 : decode cX6_setHorse 18 = .ok (.ifCond .eq 13, 3) := by decide +kernel
theorem dX6_setHorse_21 : decode cX6_setHorse 21 = .ok (.iload_n 3, 1) := by decide +kernel
theorem dX6_setHorse_22 : decode cX6_setHorse 22 = .ok (.iconst 0, 1) := by decide +kernel
theorem dX6_setHorse_23 : decode cX6_setHorse 23 = .ok (.bipush 9, 2) := by decide +kernel
theorem dX6_setHorse_25 : decode cX6_setHorse 25 = .ok (.invokestatic 38, 3) := by decide +kernel
theorem dX6_setHorse_28 : decode cX6_setHorse 28 = .ok (.ifCond .ne 6, 3) := by decide +kernel
theorem dX6_setHorse_31 : decode cX6_setHorse 31 = .ok (.bipush (-2), 2) := by decide +kernel
theorem dX6_setHorse_33 : decode cX6_setHorse 33 = .ok (.ireturn, 1) := by decide +kernel
theorem dX6_setHorse_34 : decode cX6_setHorse 34 = .ok (.aload_n 0, 1) := by decide +kernel
theorem dX6_setHorse_35 : decode cX6_setHorse 35 = .ok (.getfield 7, 3) := by decide +kernel
theorem dX6_setHorse_38 : decode cX6_setHorse 38 = .ok (.iload_n 1, 1) := by decide +kernel
theorem dX6_setHorse_39 : decode cX6_setHorse 39 = .ok (.iconst 0, 1) := by decide +kernel
theorem dX6_setHorse_40 : decode cX6_setHorse 40 = .ok (.invokestatic 31, 3) := by decide +kernel
theorem dX6_setHorse_43 : decode cX6_setHorse 43 = .ok (.iaload, 1) := by decide +kernel
theorem dX6_setHorse_44 : decode cX6_setHorse 44 = .ok (.istore 4, 2) := by decide +kernel
theorem dX6_setHorse_46 : decode cX6_setHorse 46 = .ok (.iload 4, 2) := by decide +kernel
theorem dX6_setHorse_48 : decode cX6_setHorse 48 = .ok (.iload_n 2, 1) := by decide +kernel
theorem dX6_setHorse_49 : decode cX6_setHorse 49 = .ok (.if_icmp .ne 20, 3) := by decide +kernel
theorem dX6_setHorse_52 : decode cX6_setHorse 52 = .ok (.aload_n 0, 1) := by decide +kernel
theorem dX6_setHorse_53 : decode cX6_setHorse 53 = .ok (.getfield 7, 3) := by decide +kernel
theorem dX6_setHorse_56 : decode cX6_setHorse 56 = .ok (.iload_n 1, 1) := by decide +kernel
theorem dX6_setHorse_57 : decode cX6_setHorse 57 = .ok (.iconst 1, 1) := by decide +kernel
theorem dX6_setHorse_58 : decode cX6_setHorse 58 = .ok (.invokestatic 31, 3) := by decide +kernel
theorem dX6_setHorse_61 : decode cX6_setHorse 61 = .ok (.iaload, 1) := by decide +kernel
theorem dX6_setHorse_62 : decode cX6_setHorse 62 = .ok (.iload_n 3, 1) := by decide +kernel
theorem dX6_setHorse_63 : decode cX6_setHorse 63 = .ok (.if_icmp .ne 6, 3) := by decide +kernel
theorem dX6_setHorse_66 : decode cX6_setHorse 66 = .ok (.bipush (-5), 2) := by decide +kernel
theorem dX6_setHorse_68 : decode cX6_setHorse 68 = .ok (.ireturn, 1) := by decide +kernel
theorem dX6_setHorse_69 : decode cX6_setHorse 69 = .ok (.aload_n 0, 1) := by decide +kernel
theorem dX6_setHorse_70 : decode cX6_setHorse 70 = .ok (.invokevirtual 99, 3) := by decide +kernel
theorem dX6_setHorse_73 : decode cX6_setHorse 73 = .ok (.aload_n 0, 1) := by decide +kernel
theorem dX6_setHorse_74 : decode cX6_setHorse 74 = .ok (.getfield 7, 3) := by decide +kernel
theorem dX6_setHorse_77 : decode cX6_setHorse 77 = .ok (.iload_n 1, 1) := by decide +kernel
theorem dX6_setHorse_78 : decode cX6_setHorse 78 = .ok (.iconst 0, 1) := by decide +kernel
theorem dX6_setHorse_79 : decode cX6_setHorse 79 = .ok (.invokestatic 31, 3) := by decide +kernel
theorem dX6_setHorse_82 : decode cX6_setHorse 82 = .ok (.iload_n 2, 1) := by decide +kernel
theorem dX6_setHorse_83 : decode cX6_setHorse 83 = .ok (.iastore, 1) := by decide +kernel
theorem dX6_setHorse_84 : decode cX6_setHorse 84 = .ok (.aload_n 0, 1) := by decide +kernel
theorem dX6_setHorse_85 : decode cX6_setHorse 85 = .ok (.getfield 7, 3) := by decide +kernel
theorem dX6_setHorse_88 : decode cX6_setHorse 88 = .ok (.iload_n 1, 1) := by decide +kernel
theorem dX6_setHorse_89 : decode cX6_setHorse 89 = .ok (.iconst 1, 1) := by decide +kernel
theorem dX6_setHorse_90 : decode cX6_setHorse 90 = .ok (.invokestatic 31, 3) := by decide +kernel
theorem dX6_setHorse_93 : decode cX6_setHorse 93 = .ok (.iload_n 3, 1) := by decide +kernel
theorem dX6_setHorse_94 : decode cX6_setHorse 94 = .ok (.iastore, 1) := by decide +kernel
theorem dX6_setHorse_95 : decode cX6_setHorse 95 = .ok (.iload 4, 2) := by decide +kernel
theorem dX6_setHorse_97 : decode cX6_setHorse 97 = .ok (.ireturn, 1) := by decide +kernel
theorem dX6_setRider_0 : decode cX6_setRider 0 = .ok (.iload_n 1, 1) := by decide +kernel
theorem dX6_setRider_1 : decode cX6_setRider 1 = .ok (.invokestatic 102, 3) := by decide +kernel
theorem dX6_setRider_4 : decode cX6_setRider 4 = .ok (.ifCond .ne 5, 3) := by decide +kernel
theorem dX6_setRider_7 : decode cX6_setRider 7 = .ok (.iconst (-1), 1) := by decide +kernel
theorem dX6_setRider_8 : decode cX6_setRider 8 = .ok (.ireturn, 1) := by decide +kernel
theorem dX6_setRider_9 : decode cX6_setRider 9 = .ok (.iload_n 2, 1) := by decide +kernel
theorem dX6_setRider_10 : decode cX6_setRider 10 = .ok (.bipush 20, 2) := by decide +kernel
theorem dX6_setRider_12 : decode cX6_setRider 12 = .ok (.sipush 150, 3) := by decide +kernel
theorem dX6_setRider_15 : decode cX6_setRider 15 = .ok (.invokestatic 38, 3) := by decide +kernel
theorem dX6_setRider_18 : decode cX6_setRider 18 = .ok (.ifCond .eq 13, 3) := by decide +kernel
theorem dX6_setRider_21 : decode cX6_setRider 21 = .ok (.iload_n 3, 1) := by decide +kernel
theorem dX6_setRider_22 : decode cX6_setRider 22 = .ok (.iconst 0, 1) := by decide +kernel
theorem dX6_setRider_23 : decode cX6_setRider 23 = .ok (.bipush 9, 2) := by decide +kernel
theorem dX6_setRider_25 : decode cX6_setRider 25 = .ok (.invokestatic 38, 3) := by decide +kernel
theorem dX6_setRider_28 : decode cX6_setRider 28 = .ok (.ifCond .ne 6, 3) := by decide +kernel
theorem dX6_setRider_31 : decode cX6_setRider 31 = .ok (.bipush (-2), 2) := by decide +kernel
theorem dX6_setRider_33 : decode cX6_setRider 33 = .ok (.ireturn, 1) := by decide +kernel
theorem dX6_setRider_34 : decode cX6_setRider 34 = .ok (.aload_n 0, 1) := by decide +kernel
theorem dX6_setRider_35 : decode cX6_setRider 35 = .ok (.invokevirtual 99, 3) := by decide +kernel
theorem dX6_setRider_38 : decode cX6_setRider 38 = .ok (.aload_n 0, 1) := by decide +kernel
theorem dX6_setRider_39 : decode cX6_setRider 39 = .ok (.getfield 7, 3) := by decide +kernel
theorem dX6_setRider_42 : decode cX6_setRider 42 = .ok (.iload_n 1, 1) := by decide +kernel
theorem dX6_setRider_43 : decode cX6_setRider 43 = .ok (.iconst 0, 1) := by decide +kernel
theorem dX6_setRider_44 : decode cX6_setRider 44 = .ok (.invokestatic 35, 3) := by decide +kernel
theorem dX6_setRider_47 : decode cX6_setRider 47 = .ok (.iaload, 1) := by decide +kernel
theorem dX6_setRider_48 : decode cX6_setRider 48 = .ok (.istore 4, 2) := by decide +kernel
theorem dX6_setRider_50 : decode cX6_setRider 50 = .ok (.aload_n 0, 1) := by decide +kernel
theorem dX6_setRider_51 : decode cX6_setRider 51 = .ok (.getfield 7, 3) := by decide +kernel
theorem dX6_setRider_54 : decode cX6_setRider 54 = .ok (.iload_n 1, 1) := by decide +kernel
theorem dX6_setRider_55 : decode cX6_setRider 55 = .ok (.iconst 0, 1) := by decide +kernel
theorem dX6_setRider_56 : decode cX6_setRider 56 = .ok (.invokestatic 35, 3) := by decide +kernel
theorem dX6_setRider_59 : decode cX6_setRider 59 = .ok (.iload_n 2, 1) := by decide +kernel
theorem dX6_setRider_60 : decode cX6_setRider 60 = .ok (.iastore, 1) := by decide +kernel
theorem dX6_setRider_61 : decode cX6_setRider 61 = .ok (.aload_n 0, 1) := by decide +kernel
theorem dX6_setRider_62 : decode cX6_setRider 62 = .ok (.getfield 7, 3) := by decide +kernel
