theorem dX0_init_0 : decode cX0_init 0 = .ok (.aload_n 0, 1) := by decide +kernel
theorem dX0_init_1 : decode cX0_init 1 = .ok (.invokespecial 3, 3) := by decide +kernel
theorem dX0_init_4 : decode cX0_init 4 = .ok (.aload_n 0, 1) := by decide +kernel
theorem dX0_init_5 : decode cX0_init 5 = .ok (.iconst 4, 1) := by decide +kernel
theorem dX0_init_6 : decode cX0_init 6 = .ok (.anewarray 9, 3) := by decide +kernel
theorem dX0_init_9 : decode cX0_init 9 = .ok (.putfield 11, 3) := by decide +kernel
theorem dX0_init_12 : decode cX0_init 12 = .ok (.iconst 0, 1) := by decide +kernel
theorem dX0_init_13 : decode cX0_init 13 = .ok (.istore_n 1, 1) := by decide +kernel
theorem dX0_init_14 : decode cX0_init 14 = .ok (.iload_n 1, 1) := by decide +kernel
theorem dX0_init_15 : decode cX0_init 15 = .ok (.aload_n 0, 1) := by decide +kernel
theorem dX0_init_16 : decode cX0_init 16 = .ok (.getfield 11, 3) := by decide +kernel
theorem dX0_init_19 : decode cX0_init 19 = .ok (.arraylength, 1) := by decide +kernel
theorem dX0_init_20 : decode cX0_init 20 = .ok (.if_icmp .ge 22, 3) := by decide +kernel
theorem dX0_init_23 : decode cX0_init 23 = .ok (.aload_n 0, 1) := by decide +kernel
theorem dX0_init_24 : decode cX0_init 24 = .ok (.getfield 11, 3) := by decide +kernel
theorem dX0_init_27 : decode cX0_init 27 = .ok (.iload_n 1, 1) := by decide +kernel
theorem dX0_init_28 : decode cX0_init 28 = .ok (.new 9, 3) := by decide +kernel
theorem dX0_init_31 : decode cX0_init 31 = .ok (.dup, 1) := by decide +kernel
theorem dX0_init_32 : decode cX0_init 32 = .ok (.invokespecial 17, 3) := by decide +kernel
theorem dX0_init_35 : decode cX0_init 35 = .ok (.aastore, 1) := by decide +kernel
theorem dX0_init_36 : decode cX0_init 36 = .ok (.iinc 1 1, 3) := by decide +kernel
theorem dX0_init_39 : decode cX0_init 39 = .ok (.goto (-25), 3) := by decide +kernel
theorem dX0_init_42 : decode cX0_init 42 = .ok (.return_, 1) := by decide +kernel
theorem dX0_size_0 : decode cX0_size 0 = .ok (.aload_n 0, 1) := by decide +kernel
theorem dX0_size_1 : decode cX0_size 1 = .ok (.getfield 18, 3) := by decide +kernel
theorem dX0_size_4 : decode cX0_size 4 = .ok (.ireturn, 1) := by decide +kernel
theorem dX0_stateAt_0 : decode cX0_stateAt 0 = .ok (.iload_n 1, 1) := by decide +kernel
theorem dX0_stateAt_1 : decode cX0_stateAt 1 = .ok (.ifCond .lt 21, 3) := by decide +kernel
theorem dX0_stateAt_4 : decode cX0_stateAt 4 = .ok (.iload_n 1, 1) := by decide +kernel
theorem dX0_stateAt_5 : decode cX0_stateAt 5 = .ok (.aload_n 0, 1) := by decide +kernel
theorem dX0_stateAt_6 : decode cX0_stateAt 6 = .ok (.getfield 11, 3) := by decide +kernel
theorem dX0_stateAt_9 : decode cX0_stateAt 9 = .ok (.arraylength, 1) := by decide +kernel
theorem dX0_stateAt_10 : decode cX0_stateAt 10 = .ok (.if_icmp .ge 12, 3) := by decide +kernel
theorem dX0_stateAt_13 : decode cX0_stateAt 13 = .ok (.aload_n 0, 1) := by decide +kernel
theorem dX0_stateAt_14 : decode cX0_stateAt 14 = .ok (.getfield 11, 3) := by decide +kernel
theorem dX0_stateAt_17 : decode cX0_stateAt 17 = .ok (.iload_n 1, 1) := by decide +kernel
theorem dX0_stateAt_18 : decode cX0_stateAt 18 = .ok (.aaload, 1) := by decide +kernel
theorem dX0_stateAt_19 : decode cX0_stateAt 19 = .ok (.goto 4, 3) := by decide +kernel
theorem dX0_stateAt_22 : decode cX0_stateAt 22 = .ok (.aconst_null, 1) := by decide +kernel
theorem dX0_stateAt_23 : decode cX0_stateAt 23 = .ok (.areturn, 1) := by decide +kernel
theorem dX0_record_0 : decode cX0_record 0 = .ok (.aload_n 0, 1) := by decide +kernel
theorem dX0_record_1 : decode cX0_record 1 = .ok (.aload_n 0, 1) := by decide +kernel
theorem dX0_record_2 : decode cX0_record 2 = .ok (.getfield 22, 3) := by decide +kernel
theorem dX0_record_5 : decode cX0_record 5 = .ok (.invokevirtual 25, 3) := by decide +kernel
theorem dX0_record_8 : decode cX0_record 8 = .ok (.astore_n 2, 1) := by decide +kernel
theorem dX0_record_9 : decode cX0_record 9 = .ok (.aload_n 2, 1) := by decide +kernel
theorem dX0_record_10 : decode cX0_record 10 = .ok (.ifnull 8, 3) := by decide +kernel
theorem dX0_record_13 : decode cX0_record 13 = .ok (.aload_n 2, 1) := by decide +kernel
theorem dX0_record_14 : decode cX0_record 14 = .ok (.aload_n 1, 1) := by decide +kernel
theorem dX0_record_15 : decode cX0_record 15 = .ok (.invokevirtual 29, 3) := by decide +kernel
theorem dX0_record_18 : decode cX0_record 18 = .ok (.aload_n 0, 1) := by decide +kernel
theorem dX0_record_19 : decode cX0_record 19 = .ok (.aload_n 0, 1) := by decide +kernel
theorem dX0_record_20 : decode cX0_record 20 = .ok (.getfield 22, 3) := by decide +kernel
theorem dX0_record_23 : decode cX0_record 23 = .ok (.iconst 1, 1) := by decide +kernel
theorem dX0_record_24 : decode cX0_record 24 = .ok (.iadd, 1) := by decide +kernel
theorem dX0_record_25 : decode cX0_record 25 = .ok (.iconst 4, 1) := by decide +kernel
theorem dX0_record_26 : decode cX0_record 26 = .ok (.irem, 1) := by decide +kernel
theorem dX0_record_27 : decode cX0_record 27 = .ok (.putfield 22, 3) := by decide +kernel
theorem dX0_record_30 : decode cX0_record 30 = .ok (.aload_n 0, 1) := by decide +kernel
theorem dX0_record_31 : decode cX0_record 31 = .ok (.aload_n 0, 1) := by decide +kernel
theorem dX0_record_32 : decode cX0_record 32 = .ok (.getfield 18, 3) := by decide +kernel
theorem dX0_record_35 : decode cX0_record 35 = .ok (.iconst 1, 1) := by decide +kernel
theorem dX0_record_36 : decode cX0_record 36 = .ok (.iadd, 1) := by decide +kernel
theorem dX0_record_37 : decode cX0_record 37 = .ok (.iconst 4, 1) := by decide +kernel
theorem dX0_record_38 : decode cX0_record 38 = .ok (.invokestatic 33, 3) := by decide +kernel
theorem dX0_record_41 : decode cX0_record 41 = .ok (.putfield 18, 3) := by decide +kernel
theorem dX0_record_44 : decode cX0_record 44 = .ok (.return_, 1) := by decide +kernel
theorem dX0_takeBack_0 : decode cX0_takeBack 0 = .ok (.aload_n 0, 1) := by decide +kernel
theorem dX0_takeBack_1 : decode cX0_takeBack 1 = .ok (.aload_n 0, 1) := by decide +kernel
theorem dX0_takeBack_2 : decode cX0_takeBack 2 = .ok (.getfield 22, 3) := by decide +kernel
theorem dX0_takeBack_5 : decode cX0_takeBack 5 = .ok (.iconst 4, 1) := by decide +kernel
theorem dX0_takeBack_6 : decode cX0_takeBack 6 = .ok (.iadd, 1) := by decide +kernel
theorem dX0_takeBack_7 : decode cX0_takeBack 7 = .ok (.iconst 1, 1) := by decide +kernel
theorem dX0_takeBack_8 : decode cX0_takeBack 8 = .ok (.isub, 1) := by decide +kernel
theorem dX0_takeBack_9 : decode cX0_takeBack 9 = .ok (.iconst 4, 1) := by decide +kernel
theorem dX0_takeBack_10 : decode cX0_takeBack 10 = .ok (.irem, 1) := by decide +kernel
theorem dX0_takeBack_11 : decode cX0_takeBack 11 = .ok (.putfield 22, 3) := by decide +kernel
theorem dX0_takeBack_14 : decode cX0_takeBack 14 = .ok (.aload_n 0, 1) := by decide +kernel
theorem dX0_takeBack_15 : decode cX0_takeBack 15 = .ok (.aload_n 0, 1) := by decide +kernel
theorem dX0_takeBack_16 : decode cX0_takeBack 16 = .ok (.getfield 18, 3) := by decide +kernel
theorem dX0_takeBack_19 : decode cX0_takeBack 19 = .ok (.iconst 1, 1) := by decide +kernel
theorem dX0_takeBack_20 : decode cX0_takeBack 20 = .ok (.isub, 1) := by decide +kernel
theorem dX0_takeBack_21 : decode cX0_takeBack 21 = .ok (.iconst 0, 1) := by decide +kernel
theorem dX0_takeBack_22 : decode cX0_takeBack 22 = .ok (.invokestatic 39, 3) := by decide +kernel
theorem dX0_takeBack_25 : decode cX0_takeBack 25 = .ok (.putfield 18, 3) := by decide +kernel
theorem dX0_takeBack_28 : decode cX0_takeBack 28 = .ok (.aload_n 0, 1) := by decide +kernel
theorem dX0_takeBack_29 : decode cX0_takeBack 29 = .ok (.aload_n 0, 1) := by decide +kernel
theorem dX0_takeBack_30 : decode cX0_takeBack 30 = .ok (.getfield 22, 3) := by decide +kernel
theorem dX0_takeBack_33 : decode cX0_takeBack 33 = .ok (.invokevirtual 25, 3) := by decide +kernel
theorem dX0_takeBack_36 : decode cX0_takeBack 36 = .ok (.astore_n 2, 1) := by decide +kernel
theorem dX0_takeBack_37 : decode cX0_takeBack 37 = .ok (.aload_n 2, 1) := by decide +kernel
theorem dX0_takeBack_38 : decode cX0_takeBack 38 = .ok (.ifnull 8, 3) := by decide +kernel
theorem dX0_takeBack_41 : decode cX0_takeBack 41 = .ok (.aload_n 1, 1) := by decide +kernel
theorem dX0_takeBack_42 : decode cX0_takeBack 42 = .ok (.aload_n 2, 1) := by decide +kernel
theorem dX0_takeBack_43 : decode cX0_takeBack 43 = .ok (.invokevirtual 29, 3) := by decide +kernel
theorem dX0_takeBack_46 : decode cX0_takeBack 46 = .ok (.return_, 1) := by decide +kernel
theorem dX1_init_0 : decode cX1_init 0 = .ok (.aload_n 0, 1) := by decide +kernel
theorem dX1_init_1 : decode cX1_init 1 = .ok (.invokespecial 3, 3) := by decide +kernel
theorem dX1_init_4 : decode cX1_init 4 = .ok (.aload_n 0, 1) := by decide +kernel
theorem dX1_init_5 : decode cX1_init 5 = .ok (.new 9, 3) := by decide +kernel
theorem dX1_init_8 : decode cX1_init 8 = .ok (.dup, 1) := by decide +kernel
theorem dX1_init_9 : decode cX1_init 9 = .ok (.iconst 3, 1) := by decide +kernel
theorem dX1_init_10 : decode cX1_init 10 = .ok (.bipush 60, 2) := by decide +kernel
theorem dX1_init_12 : decode cX1_init 12 = .ok (.invokespecial 13, 3) := by decide +kernel
theorem dX1_init_15 : decode cX1_init 15 = .ok (.putfield 16, 3) := by decide +kernel
theorem dX1_init_18 : decode cX1_init 18 = .ok (.return_, 1) := by decide +kernel
theorem dX2_init_0 : decode cX2_init 0 = .ok (.aload_n 0, 1) := by decide +kernel
theorem dX2_init_1 : decode cX2_init 1 = .ok (.invokespecial 3, 3) := by decide +kernel
theorem dX2_init_4 : decode cX2_init 4 = .ok (.aload_n 0, 1) := by decide +kernel
theorem dX2_init_5 : decode cX2_init 5 = .ok (.new 9, 3) := by decide +kernel
theorem dX2_init_8 : decode cX2_init 8 = .ok (.dup, 1) := by decide +kernel
theorem dX2_init_9 : decode cX2_init 9 = .ok (.iconst 1, 1) := by decide +kernel
theorem dX2_init_10 : decode cX2_init 10 = .ok (.iconst 5, 1) := by decide +kernel
theorem dX2_init_11 : decode cX2_init 11 = .ok (.invokespecial 11, 3) := by decide +kernel
theorem dX2_init_14 : decode cX2_init 14 = .ok (.putfield 14, 3) := by decide +kernel
theorem dX2_init_17 : decode cX2_init 17 = .ok (.aload_n 0, 1) := by decide +kernel
theorem dX2_init_18 : decode cX2_init 18 = .ok (.new 9, 3) := by decide +kernel
theorem dX2_init_21 : decode cX2_init 21 = .ok (.dup, 1) := by decide +kernel
theorem dX2_init_22 : decode cX2_init 22 = .ok (.bipush 9, 2) := by decide +kernel
theorem dX2_init_24 : decode cX2_init 24 = .ok (.bipush 10, 2) := by decide +kernel
theorem dX2_init_26 : decode cX2_init 26 = .ok (.invokespecial 11, 3) := by decide +kernel
theorem dX2_init_29 : decode cX2_init 29 = .ok (.putfield 20, 3) := by decide +kernel
theorem dX2_init_32 : decode cX2_init 32 = .ok (.aload_n 0, 1) := by decide +kernel
theorem dX2_init_33 : decode cX2_init 33 = .ok (.new 9, 3) := by decide +kernel
theorem dX2_init_36 : decode cX2_init 36 = .ok (.dup, 1) := by decide +kernel
theorem dX2_init_37 : decode cX2_init 37 = .ok (.bipush 10, 2) := by decide +kernel
theorem dX2_init_39 : decode cX2_init 39 = .ok (.bipush 12, 2) := by decide +kernel
theorem dX2_init_41 : decode cX2_init 41 = .ok (.invokespecial 11, 3) := by decide +kernel
theorem dX2_init_44 : decode cX2_init 44 = .ok (.putfield 23, 3) := by decide +kernel
theorem dX2_init_47 : decode cX2_init 47 = .ok (.aload_n 0, 1) := by decide +kernel
theorem dX2_init_48 : decode cX2_init 48 = .ok (.new 9, 3) := by decide +kernel
theorem dX2_init_51 : decode cX2_init 51 = .ok (.dup, 1) := by decide +kernel
theorem dX2_init_52 : decode cX2_init 52 = .ok (.iconst 3, 1) := by decide +kernel
theorem dX2_init_53 : decode cX2_init 53 = .ok (.bipush 40, 2) := by decide +kernel
theorem dX2_init_55 : decode cX2_init 55 = .ok (.invokespecial 11, 3) := by decide +kernel
theorem dX2_init_58 : decode cX2_init 58 = .ok (.putfield 26, 3) := by decide +kernel
theorem dX2_init_61 : decode cX2_init 61 = .ok (.aload_n 0, 1) := by decide +kernel
theorem dX2_init_62 : decode cX2_init 62 = .ok (.new 9, 3) := by decide +kernel
theorem dX2_init_65 : decode cX2_init 65 = .ok (.dup, 1) := by decide +kernel
theorem dX2_init_66 : decode cX2_init 66 = .ok (.iconst 3, 1) := by decide +kernel
theorem dX2_init_67 : decode cX2_init 67 = .ok (.bipush 20, 2) := by decide +kernel
theorem dX2_init_69 : decode cX2_init 69 = .ok (.invokespecial 11, 3) := by decide +kernel
theorem dX2_init_72 : decode cX2_init 72 = .ok (.putfield 29, 3) := by decide +kernel
theorem dX2_init_75 : decode cX2_init 75 = .ok (.iconst 0, 1) := by decide +kernel
theorem dX2_init_76 : decode cX2_init 76 = .ok (.istore_n 1, 1) := by decide +kernel
theorem dX2_init_77 : decode cX2_init 77 = .ok (.iload_n 1, 1) := by decide +kernel
theorem dX2_init_78 : decode cX2_init 78 = .ok (.iconst 5, 1) := by decide +kernel
theorem dX2_init_79 : decode cX2_init 79 = .ok (.if_icmp .ge 25, 3) := by decide +kernel
theorem dX2_init_82 : decode cX2_init 82 = .ok (.aload_n 0, 1) := by decide +kernel
theorem dX2_init_83 : decode cX2_init 83 = .ok (.getfield 14, 3) := by decide +kernel
theorem dX2_init_86 : decode cX2_init 86 = .ok (.iconst 0, 1) := by decide +kernel
theorem dX2_init_87 : decode cX2_init 87 = .ok (.iload_n 1, 1) := by decide +kernel
theorem dX2_init_88 : decode cX2_init 88 = .ok (.getstatic 32, 3) := by decide +kernel
theorem dX2_init_91 : decode cX2_init 91 = .ok (.iload_n 1, 1) := by decide +kernel
theorem dX2_init_92 : decode cX2_init 92 = .ok (.invokestatic 36, 3) := by decide +kernel
theorem dX2_init_95 : decode cX2_init 95 = .ok (.invokevirtual 40, 3) := by decide +kernel
theorem dX2_init_98 : decode cX2_init 98 = .ok (.iinc 1 1, 3) := by decide +kernel
theorem dX2_init_101 : decode cX2_init 101 = .ok (.goto (-24), 3) := by decide +kernel
theorem dX2_init_104 : decode cX2_init 104 = .ok (.iconst 0, 1) := by decide +kernel
theorem dX2_init_105 : decode cX2_init 105 = .ok (.istore_n 1, 1) := by decide +kernel
theorem dX2_init_106 : decode cX2_init 106 = .ok (.iload_n 1, 1) := by decide +kernel
theorem dX2_init_107 : decode cX2_init 107 = .ok (.bipush 10, 2) := by decide +kernel
theorem dX2_init_109 : decode cX2_init 109 = .ok (.if_icmp .ge 36, 3) := by decide +kernel
theorem dX2_init_112 : decode cX2_init 112 = .ok (.aload_n 0, 1) := by decide +kernel
theorem dX2_init_113 : decode cX2_init 113 = .ok (.getfield 20, 3) := by decide +kernel
theorem dX2_init_116 : decode cX2_init 116 = .ok (.iconst 0, 1) := by decide +kernel
theorem dX2_init_117 : decode cX2_init 117 = .ok (.iload_n 1, 1) := by decide +kernel
theorem dX2_init_118 : decode cX2_init 118 = .ok (.bipush 80, 2) := by decide +kernel
theorem dX2_init_120 : decode cX2_init 120 = .ok (.iconst 5, 1) := by decide +kernel
theorem dX2_init_121 : decode cX2_init 121 = .ok (.iload_n 1, 1) := by decide +kernel
theorem dX2_init_122 : decode cX2_init 122 = .ok (.imul, 1) := by decide +kernel
theorem dX2_init_123 : decode cX2_init 123 = .ok (.iadd, 1) := by decide +kernel
theorem dX2_init_124 : decode cX2_init 124 = .ok (.invokevirtual 40, 3) := by decide +kernel
theorem dX2_init_127 : decode cX2_init 127 = .ok (.aload_n 0, 1) := by decide +kernel
theorem dX2_init_128 : decode cX2_init 128 = .ok (.getfield 20, 3) := by decide +kernel
theorem dX2_init_131 : decode cX2_init 131 = .ok (.iconst 1, 1) := by decide +kernel
theorem dX2_init_132 : decode cX2_init 132 = .ok (.iload_n 1, 1) := by decide +kernel
theorem dX2_init_133 : decode cX2_init 133 = .ok (.iload_n 1, 1) := by decide +kernel
theorem dX2_init_134 : decode cX2_init 134 = .ok (.iconst 4, 1) := by decide +kernel
theorem dX2_init_135 : decode cX2_init 135 = .ok (.irem, 1) := by decide +kernel
theorem dX2_init_136 : decode cX2_init 136 = .ok (.invokevirtual 40, 3) := by decide +kernel
theorem dX2_init_139 : decode cX2_init 139 = .ok (.iinc 1 1, 3) := by decide +kernel
theorem dX2_init_142 : decode cX2_init 142 = .ok (.goto (-36), 3) := by decide +kernel
theorem dX2_init_145 : decode cX2_init 145 = .ok (.iconst 0, 1) := by decide +kernel
theorem dX2_init_146 : decode cX2_init 146 = .ok (.istore_n 1, 1) := by decide +kernel
theorem dX2_init_147 : decode cX2_init 147 = .ok (.iload_n 1, 1) := by decide +kernel
theorem dX2_init_148 : decode cX2_init 148 = .ok (.bipush 12, 2) := by decide +kernel
theorem dX2_init_150 : decode cX2_init 150 = .ok (.if_icmp .ge 47, 3) := by decide +kernel
theorem dX2_init_153 : decode cX2_init 153 = .ok (.aload_n 0, 1) := by decide +kernel
theorem dX2_init_154 : decode cX2_init 154 = .ok (.getfield 23, 3) := by decide +kernel
theorem dX2_init_157 : decode cX2_init 157 = .ok (.iconst 0, 1) := by decide +kernel
theorem dX2_init_158 : decode cX2_init 158 = .ok (.iload_n 1, 1) := by decide +kernel
theorem dX2_init_159 : decode cX2_init 159 = .ok (.bipush 40, 2) := by decide +kernel
theorem dX2_init_161 : decode cX2_init 161 = .ok (.bipush 6, 2) := by decide +kernel
theorem dX2_init_163 : decode cX2_init 163 = .ok (.iload_n 1, 1) := by decide +kernel
theorem dX2_init_164 : decode cX2_init 164 = .ok (.imul, 1) := by decide +kernel
theorem dX2_init_165 : decode cX2_init 165 = .ok (.iadd, 1) := by decide +kernel
theorem dX2_init_166 : decode cX2_init 166 = .ok (.invokevirtual 40, 3) := by decide +kernel
theorem dX2_init_169 : decode cX2_init 169 = .ok (.aload_n 0, 1) := by decide +kernel
theorem dX2_init_170 : decode cX2_init 170 = .ok (.getfield 23, 3) := by decide +kernel
theorem dX2_init_173 : decode cX2_init 173 = .ok (.iconst 1, 1) := by decide +kernel
theorem dX2_init_174 : decode cX2_init 174 = .ok (.iload_n 1, 1) := by decide +kernel
theorem dX2_init_175 : decode cX2_init 175 = .ok (.iconst 1, 1) := by decide +kernel
theorem dX2_init_176 : decode cX2_init 176 = .ok (.invokevirtual 40, 3) := by decide +kernel
theorem dX2_init_179 : decode cX2_init 179 = .ok (.aload_n 0, 1) := by decide +kernel
theorem dX2_init_180 : decode cX2_init 180 = .ok (.getfield 23, 3) := by decide +kernel
theorem dX2_init_183 : decode cX2_init 183 = .ok (.bipush 9, 2) := by decide +kernel
theorem dX2_init_185 : decode cX2_init 185 = .ok (.iload_n 1, 1) := by decide +kernel
theorem dX2_init_186 : decode cX2_init 186 = .ok (.bipush (-5), 2) := by decide +kernel
theorem dX2_init_188 : decode cX2_init 188 = .ok (.invokevirtual 40, 3) := by decide +kernel
theorem dX2_init_191 : decode cX2_init 191 = .ok (.iinc 1 1, 3) := by decide +kernel
theorem dX2_init_194 : decode cX2_init 194 = .ok (.goto (-47), 3) := by decide +kernel
theorem dX2_init_197 : decode cX2_init 197 = .ok (.return_, 1) := by decide +kernel
theorem dX2_copyFrom_0 : decode cX2_copyFrom 0 = .ok (.aload_n 0, 1) := by decide +kernel
theorem dX2_copyFrom_1 : decode cX2_copyFrom 1 = .ok (.aload_n 1, 1) := by decide +kernel
theorem dX2_copyFrom_2 : decode cX2_copyFrom 2 = .ok (.getfield 44, 3) := by decide +kernel
theorem dX2_copyFrom_5 : decode cX2_copyFrom 5 = .ok (.putfield 44, 3) := by decide +kernel
theorem dX2_copyFrom_8 : decode cX2_copyFrom 8 = .ok (.aload_n 0, 1) := by decide +kernel
theorem dX2_copyFrom_9 : decode cX2_copyFrom 9 = .ok (.getfield 14, 3) := by decide +kernel
theorem dX2_copyFrom_12 : decode cX2_copyFrom 12 = .ok (.aload_n 1, 1) := by decide +kernel
theorem dX2_copyFrom_13 : decode cX2_copyFrom 13 = .ok (.getfield 14, 3) := by decide +kernel
theorem dX2_copyFrom_16 : decode cX2_copyFrom 16 = .ok (.invokevirtual 48, 3) := by decide +kernel
theorem dX2_copyFrom_19 : decode cX2_copyFrom 19 = .ok (.aload_n 0, 1) := by decide +kernel
theorem dX2_copyFrom_20 : decode cX2_copyFrom 20 = .ok (.getfield 20, 3) := by decide +kernel
theorem dX2_copyFrom_23 : decode cX2_copyFrom 23 = .ok (.aload_n 1, 1) := by decide +kernel
theorem dX2_copyFrom_24 : decode cX2_copyFrom 24 = .ok (.getfield 20, 3) := by decide +kernel
theorem dX2_copyFrom_27 : decode cX2_copyFrom 27 = .ok (.invokevirtual 48, 3) := by decide +kernel
theorem dX2_copyFrom_30 : decode cX2_copyFrom 30 = .ok (.aload_n 0, 1) := by decide +kernel
theorem dX2_copyFrom_31 : decode cX2_copyFrom 31 = .ok (.getfield 23, 3) := by decide +kernel
theorem dX2_copyFrom_34 : decode cX2_copyFrom 34 = .ok (.aload_n 1, 1) := by decide +kernel
theorem dX2_copyFrom_35 : decode cX2_copyFrom 35 = .ok (.getfield 23, 3) := by decide +kernel
theorem dX2_copyFrom_38 : decode cX2_copyFrom 38 = .ok (.invokevirtual 48, 3) := by decide +kernel
theorem dX2_copyFrom_41 : decode cX2_copyFrom 41 = .ok (.aload_n 0, 1) := by decide +kernel
theorem dX2_copyFrom_42 : decode cX2_copyFrom 42 = .ok (.getfield 26, 3) := by decide +kernel
theorem dX2_copyFrom_45 : decode cX2_copyFrom 45 = .ok (.aload_n 1, 1) := by decide +kernel
theorem dX2_copyFrom_46 : decode cX2_copyFrom 46 = .ok (.getfield 26, 3) := by decide +kernel
theorem dX2_copyFrom_49 : decode cX2_copyFrom 49 = .ok (.invokevirtual 48, 3) := by decide +kernel
theorem dX2_copyFrom_52 : decode cX2_copyFrom 52 = .ok (.aload_n 0, 1) := by decide +kernel
theorem dX2_copyFrom_53 : decode cX2_copyFrom 53 = .ok (.aload_n 1, 1) := by decide +kernel
theorem dX2_copyFrom_54 : decode cX2_copyFrom 54 = .ok (.getfield 52, 3) := by decide +kernel
theorem dX2_copyFrom_57 : decode cX2_copyFrom 57 = .ok (.putfield 52, 3) := by decide +kernel
theorem dX2_copyFrom_60 : decode cX2_copyFrom 60 = .ok (.aload_n 0, 1) := by decide +kernel
theorem dX2_copyFrom_61 : decode cX2_copyFrom 61 = .ok (.getfield 29, 3) := by decide +kernel
theorem dX2_copyFrom_64 : decode cX2_copyFrom 64 = .ok (.aload_n 1, 1) := by decide +kernel
theorem dX2_copyFrom_65 : decode cX2_copyFrom 65 = .ok (.getfield 29, 3) := by decide +kernel
theorem dX2_copyFrom_68 : decode cX2_copyFrom 68 = .ok (.invokevirtual 48, 3) := by decide +kernel
theorem dX2_copyFrom_71 : decode cX2_copyFrom 71 = .ok (.aload_n 0, 1) := by decide +kernel
theorem dX2_copyFrom_72 : decode cX2_copyFrom 72 = .ok (.aload_n 1, 1) := by decide +kernel
theorem dX2_copyFrom_73 : decode cX2_copyFrom 73 = .ok (.getfield 55, 3) := by decide +kernel
theorem dX2_copyFrom_76 : decode cX2_copyFrom 76 = .ok (.putfield 55, 3) := by decide +kernel
theorem dX2_copyFrom_79 : decode cX2_copyFrom 79 = .ok (.return_, 1) := by decide +kernel
theorem dX2_time_0 : decode cX2_time 0 = .ok (.aload_n 0, 1) := by decide +kernel
theorem dX2_time_1 : decode cX2_time 1 = .ok (.getfield 44, 3) := by decide +kernel
theorem dX2_time_4 : decode cX2_time 4 = .ok (.ireturn, 1) := by decide +kernel
theorem dX2_setting_0 : decode cX2_setting 0 = .ok (.aload_n 0, 1) := by decide +kernel
theorem dX2_setting_1 : decode cX2_setting 1 = .ok (.getfield 14, 3) := by decide +kernel
theorem dX2_setting_4 : decode cX2_setting 4 = .ok (.iconst 0, 1) := by decide +kernel
theorem dX2_setting_5 : decode cX2_setting 5 = .ok (.iload_n 1, 1) := by decide +kernel
theorem dX2_setting_6 : decode cX2_setting 6 = .ok (.invokevirtual 58, 3) := by decide +kernel
theorem dX2_setting_9 : decode cX2_setting 9 = .ok (.ireturn, 1) := by decide +kernel
theorem dX2_changeSetting_0 : decode cX2_changeSetting 0 = .ok (.aload_n 0, 1) := by decide +kernel
theorem dX2_changeSetting_1 : decode cX2_changeSetting 1 = .ok (.getfield 14, 3) := by decide +kernel
theorem dX2_changeSetting_4 : decode cX2_changeSetting 4 = .ok (.iconst 0, 1) := by decide +kernel
theorem dX2_changeSetting_5 : decode cX2_changeSetting 5 = .ok (.iload_n 1, 1) := by decide +kernel
theorem dX2_changeSetting_6 : decode cX2_changeSetting 6 = .ok (.iload_n 2, 1) := by decide +kernel
theorem dX2_changeSetting_7 : decode cX2_changeSetting 7 = .ok (.invokevirtual 40, 3) := by decide +kernel
theorem dX2_changeSetting_10 : decode cX2_changeSetting 10 = .ok (.return_, 1) := by decide +kernel
theorem dX2_ofHorse_0 : decode cX2_ofHorse 0 = .ok (.aload_n 0, 1) := by decide +kernel
theorem dX2_ofHorse_1 : decode cX2_ofHorse 1 = .ok (.getfield 20, 3) := by decide +kernel
theorem dX2_ofHorse_4 : decode cX2_ofHorse 4 = .ok (.iload_n 2, 1) := by decide +kernel
theorem dX2_ofHorse_5 : decode cX2_ofHorse 5 = .ok (.iload_n 1, 1) := by decide +kernel
theorem dX2_ofHorse_6 : decode cX2_ofHorse 6 = .ok (.invokevirtual 58, 3) := by decide +kernel
theorem dX2_ofHorse_9 : decode cX2_ofHorse 9 = .ok (.ireturn, 1) := by decide +kernel
theorem dX2_changeHorse_0 : decode cX2_changeHorse 0 = .ok (.aload_n 0, 1) := by decide +kernel
theorem dX2_changeHorse_1 : decode cX2_changeHorse 1 = .ok (.getfield 20, 3) := by decide +kernel
theorem dX2_changeHorse_4 : decode cX2_changeHorse 4 = .ok (.iconst 0, 1) := by decide +kernel
theorem dX2_changeHorse_5 : decode cX2_changeHorse 5 = .ok (.iload_n 1, 1) := by decide +kernel
theorem dX2_changeHorse_6 : decode cX2_changeHorse 6 = .ok (.iload_n 2, 1) := by decide +kernel
theorem dX2_changeHorse_7 : decode cX2_changeHorse 7 = .ok (.invokevirtual 40, 3) := by decide +kernel
theorem dX2_changeHorse_10 : decode cX2_changeHorse 10 = .ok (.aload_n 0, 1) := by decide +kernel
theorem dX2_changeHorse_11 : decode cX2_changeHorse 11 = .ok (.getfield 20, 3) := by decide +kernel
theorem dX2_changeHorse_14 : decode cX2_changeHorse 14 = .ok (.iconst 1, 1) := by decide +kernel
theorem dX2_changeHorse_15 : decode cX2_changeHorse 15 = .ok (.iload_n 1, 1) := by decide +kernel
theorem dX2_changeHorse_16 : decode cX2_changeHorse 16 = .ok (.iload_n 3, 1) := by decide +kernel
theorem dX2_changeHorse_17 : decode cX2_changeHorse 17 = .ok (.invokevirtual 40, 3) := by decide +kernel
theorem dX2_changeHorse_20 : decode cX2_changeHorse 20 = .ok (.return_, 1) := by decide +kernel
theorem dX2_sumOfHorses_0 : decode cX2_sumOfHorses 0 = .ok (.aload_n 0, 1) := by decide +kernel
theorem dX2_sumOfHorses_1 : decode cX2_sumOfHorses 1 = .ok (.getfield 20, 3) := by decide +kernel
theorem dX2_sumOfHorses_4 : decode cX2_sumOfHorses 4 = .ok (.iload_n 1, 1) := by decide +kernel
theorem dX2_sumOfHorses_5 : decode cX2_sumOfHorses 5 = .ok (.invokevirtual 62, 3) := by decide +kernel
theorem dX2_sumOfHorses_8 : decode cX2_sumOfHorses 8 = .ok (.ireturn, 1) := by decide +kernel
theorem dX2_lameHorses_0 : decode cX2_lameHorses 0 = .ok (.iconst 0, 1) := by decide +kernel
theorem dX2_lameHorses_1 : decode cX2_lameHorses 1 = .ok (.istore_n 1, 1) := by decide +kernel
theorem dX2_lameHorses_2 : decode cX2_lameHorses 2 = .ok (.iconst 0, 1) := by decide +kernel
theorem dX2_lameHorses_3 : decode cX2_lameHorses 3 = .ok (.istore_n 2, 1) := by decide +kernel
theorem dX2_lameHorses_4 : decode cX2_lameHorses 4 = .ok (.iload_n 2, 1) := by decide +kernel
theorem dX2_lameHorses_5 : decode cX2_lameHorses 5 = .ok (.bipush 10, 2) := by decide +kernel
theorem dX2_lameHorses_7 : decode cX2_lameHorses 7 = .ok (.if_icmp .ge 29, 3) := by decide +kernel
theorem dX2_lameHorses_10 : decode cX2_lameHorses 10 = .ok (.iload_n 1, 1) := by decide +kernel
theorem dX2_lameHorses_11 : decode cX2_lameHorses 11 = .ok (.aload_n 0, 1) := by decide +kernel
theorem dX2_lameHorses_12 : decode cX2_lameHorses 12 = .ok (.getfield 20, 3) := by decide +kernel
theorem dX2_lameHorses_15 : decode cX2_lameHorses 15 = .ok (.iconst 5, 1) := by decide +kernel
theorem dX2_lameHorses_16 : decode cX2_lameHorses 16 = .ok (.iload_n 2, 1) := by decide +kernel
theorem dX2_lameHorses_17 : decode cX2_lameHorses 17 = .ok (.invokevirtual 58, 3) := by decide +kernel
theorem dX2_lameHorses_20 : decode cX2_lameHorses 20 = .ok (.ifCond .le 7, 3) := by decide +kernel
theorem dX2_lameHorses_23 : decode cX2_lameHorses 23 = .ok (.iconst 1, 1) := by decide +kernel
theorem dX2_lameHorses_24 : decode cX2_lameHorses 24 = .ok (.goto 4, 3) := by decide +kernel
theorem dX2_lameHorses_27 : decode cX2_lameHorses 27 = .ok (.iconst 0, 1) := by decide +kernel
theorem dX2_lameHorses_28 : decode cX2_lameHorses 28 = .ok (.iadd, 1) := by decide +kernel
theorem dX2_lameHorses_29 : decode cX2_lameHorses 29 = .ok (.istore_n 1, 1) := by decide +kernel
theorem dX2_lameHorses_30 : decode cX2_lameHorses 30 = .ok (.iinc 2 1, 3) := by decide +kernel
theorem dX2_lameHorses_33 : decode cX2_lameHorses 33 = .ok (.goto (-29), 3) := by decide +kernel
theorem dX2_lameHorses_36 : decode cX2_lameHorses 36 = .ok (.iload_n 1, 1) := by decide +kernel
theorem dX2_lameHorses_37 : decode cX2_lameHorses 37 = .ok (.ireturn, 1) := by decide +kernel
theorem dX2_ofRider_0 : decode cX2_ofRider 0 = .ok (.iload_n 2, 1) := by decide +kernel
theorem dX2_ofRider_1 : decode cX2_ofRider 1 = .ok (.lookupswitch 39 #[(3, 27), (8, 33)], 27) := by decide +kernel
theorem dX2_ofRider_28 : decode cX2_ofRider 28 = .ok (.aload_n 0, 1) := by decide +kernel
theorem dX2_ofRider_29 : decode cX2_ofRider 29 = .ok (.iload_n 1, 1) := by decide +kernel
theorem dX2_ofRider_30 : decode cX2_ofRider 30 = .ok (.invokevirtual 66, 3) := by decide +kernel
theorem dX2_ofRider_33 : decode cX2_ofRider 33 = .ok (.ireturn, 1) := by decide +kernel
theorem dX2_ofRider_34 : decode cX2_ofRider 34 = .ok (.aload_n 0, 1) := by decide +kernel
theorem dX2_ofRider_35 : decode cX2_ofRider 35 = .ok (.iload_n 1, 1) := by decide +kernel
theorem dX2_ofRider_36 : decode cX2_ofRider 36 = .ok (.invokevirtual 69, 3) := by decide +kernel
theorem dX2_ofRider_39 : decode cX2_ofRider 39 = .ok (.ireturn, 1) := by decide +kernel
theorem dX2_ofRider_40 : decode cX2_ofRider 40 = .ok (.aload_n 0, 1) := by decide +kernel
theorem dX2_ofRider_41 : decode cX2_ofRider 41 = .ok (.getfield 23, 3) := by decide +kernel
theorem dX2_ofRider_44 : decode cX2_ofRider 44 = .ok (.iload_n 2, 1) := by decide +kernel
theorem dX2_ofRider_45 : decode cX2_ofRider 45 = .ok (.iload_n 1, 1) := by decide +kernel
theorem dX2_ofRider_46 : decode cX2_ofRider 46 = .ok (.invokevirtual 58, 3) := by decide +kernel
theorem dX2_ofRider_49 : decode cX2_ofRider 49 = .ok (.ireturn, 1) := by decide +kernel
theorem dX2_changeRider_0 : decode cX2_changeRider 0 = .ok (.aload_n 0, 1) := by decide +kernel
theorem dX2_changeRider_1 : decode cX2_changeRider 1 = .ok (.getfield 23, 3) := by decide +kernel
theorem dX2_changeRider_4 : decode cX2_changeRider 4 = .ok (.iconst 0, 1) := by decide +kernel
theorem dX2_changeRider_5 : decode cX2_changeRider 5 = .ok (.iload_n 1, 1) := by decide +kernel
theorem dX2_changeRider_6 : decode cX2_changeRider 6 = .ok (.iload_n 2, 1) := by decide +kernel
theorem dX2_changeRider_7 : decode cX2_changeRider 7 = .ok (.invokevirtual 40, 3) := by decide +kernel
theorem dX2_changeRider_10 : decode cX2_changeRider 10 = .ok (.aload_n 0, 1) := by decide +kernel
theorem dX2_changeRider_11 : decode cX2_changeRider 11 = .ok (.getfield 23, 3) := by decide +kernel
theorem dX2_changeRider_14 : decode cX2_changeRider 14 = .ok (.iconst 1, 1) := by decide +kernel
theorem dX2_changeRider_15 : decode cX2_changeRider 15 = .ok (.iload_n 1, 1) := by decide +kernel
theorem dX2_changeRider_16 : decode cX2_changeRider 16 = .ok (.iload_n 3, 1) := by decide +kernel
theorem dX2_changeRider_17 : decode cX2_changeRider 17 = .ok (.invokevirtual 40, 3) := by decide +kernel
theorem dX2_changeRider_20 : decode cX2_changeRider 20 = .ok (.aload_n 0, 1) := by decide +kernel
theorem dX2_changeRider_21 : decode cX2_changeRider 21 = .ok (.getfield 23, 3) := by decide +kernel
theorem dX2_changeRider_24 : decode cX2_changeRider 24 = .ok (.iconst 2, 1) := by decide +kernel
theorem dX2_changeRider_25 : decode cX2_changeRider 25 = .ok (.iload_n 1, 1) := by decide +kernel
theorem dX2_changeRider_26 : decode cX2_changeRider 26 = .ok (.iconst 0, 1) := by decide +kernel
theorem dX2_changeRider_27 : decode cX2_changeRider 27 = .ok (.invokevirtual 40, 3) := by decide +kernel
theorem dX2_changeRider_30 : decode cX2_changeRider 30 = .ok (.aload_n 0, 1) := by decide +kernel
theorem dX2_changeRider_31 : decode cX2_changeRider 31 = .ok (.getfield 23, 3) := by decide +kernel
theorem dX2_changeRider_34 : decode cX2_changeRider 34 = .ok (.iconst 4, 1) := by decide +kernel
theorem dX2_changeRider_35 : decode cX2_changeRider 35 = .ok (.iload_n 1, 1) := by decide +kernel
theorem dX2_changeRider_36 : decode cX2_changeRider 36 = .ok (.iconst 0, 1) := by decide +kernel
theorem dX2_changeRider_37 : decode cX2_changeRider 37 = .ok (.invokevirtual 40, 3) := by decide +kernel
theorem dX2_changeRider_40 : decode cX2_changeRider 40 = .ok (.return_, 1) := by decide +kernel
theorem dX2_sumOfRiders_0 : decode cX2_sumOfRiders 0 = .ok (.aload_n 0, 1) := by decide +kernel
theorem dX2_sumOfRiders_1 : decode cX2_sumOfRiders 1 = .ok (.getfield 23, 3) := by decide +kernel
theorem dX2_sumOfRiders_4 : decode cX2_sumOfRiders 4 = .ok (.iload_n 1, 1) := by decide +kernel
theorem dX2_sumOfRiders_5 : decode cX2_sumOfRiders 5 = .ok (.invokevirtual 62, 3) := by decide +kernel
theorem dX2_sumOfRiders_8 : decode cX2_sumOfRiders 8 = .ok (.ireturn, 1) := by decide +kernel
theorem dX2_abilityOf_0 : decode cX2_abilityOf 0 = .ok (.iconst 0, 1) := by decide +kernel
theorem dX2_abilityOf_1 : decode cX2_abilityOf 1 = .ok (.aload_n 0, 1) := by decide +kernel
theorem dX2_abilityOf_2 : decode cX2_abilityOf 2 = .ok (.getfield 23, 3) := by decide +kernel
theorem dX2_abilityOf_5 : decode cX2_abilityOf 5 = .ok (.iconst 1, 1) := by decide +kernel
theorem dX2_abilityOf_6 : decode cX2_abilityOf 6 = .ok (.iload_n 1, 1) := by decide +kernel
theorem dX2_abilityOf_7 : decode cX2_abilityOf 7 = .ok (.invokevirtual 58, 3) := by decide +kernel
theorem dX2_abilityOf_10 : decode cX2_abilityOf 10 = .ok (.aload_n 0, 1) := by decide +kernel
theorem dX2_abilityOf_11 : decode cX2_abilityOf 11 = .ok (.getfield 23, 3) := by decide +kernel
theorem dX2_abilityOf_14 : decode cX2_abilityOf 14 = .ok (.iconst 2, 1) := by decide +kernel
theorem dX2_abilityOf_15 : decode cX2_abilityOf 15 = .ok (.iload_n 1, 1) := by decide +kernel
theorem dX2_abilityOf_16 : decode cX2_abilityOf 16 = .ok (.invokevirtual 58, 3) := by decide +kernel
theorem dX2_abilityOf_19 : decode cX2_abilityOf 19 = .ok (.isub, 1) := by decide +kernel
theorem dX2_abilityOf_20 : decode cX2_abilityOf 20 = .ok (.invokestatic 72, 3) := by decide +kernel
theorem dX2_abilityOf_23 : decode cX2_abilityOf 23 = .ok (.ireturn, 1) := by decide +kernel
theorem dX2_bookingsWaiting_0 : decode cX2_bookingsWaiting 0 = .ok (.aload_n 0, 1) := by decide +kernel
theorem dX2_bookingsWaiting_1 : decode cX2_bookingsWaiting 1 = .ok (.getfield 52, 3) := by decide +kernel
theorem dX2_bookingsWaiting_4 : decode cX2_bookingsWaiting 4 = .ok (.ireturn, 1) := by decide +kernel
theorem dX2_ringOfBooking_0 : decode cX2_ringOfBooking 0 = .ok (.aload_n 0, 1) := by decide +kernel
theorem dX2_ringOfBooking_1 : decode cX2_ringOfBooking 1 = .ok (.getfield 26, 3) := by decide +kernel
theorem dX2_ringOfBooking_4 : decode cX2_ringOfBooking 4 = .ok (.iconst 1, 1) := by decide +kernel
theorem dX2_ringOfBooking_5 : decode cX2_ringOfBooking 5 = .ok (.iload_n 1, 1) := by decide +kernel
theorem dX2_ringOfBooking_6 : decode cX2_ringOfBooking 6 = .ok (.invokevirtual 58, 3) := by decide +kernel
theorem dX2_ringOfBooking_9 : decode cX2_ringOfBooking 9 = .ok (.ireturn, 1) := by decide +kernel
theorem dX2_isBooked_0 : decode cX2_isBooked 0 = .ok (.aload_n 0, 1) := by decide +kernel
theorem dX2_isBooked_1 : decode cX2_isBooked 1 = .ok (.getfield 26, 3) := by decide +kernel
theorem dX2_isBooked_4 : decode cX2_isBooked 4 = .ok (.iconst 0, 1) := by decide +kernel
theorem dX2_isBooked_5 : decode cX2_isBooked 5 = .ok (.iload_n 1, 1) := by decide +kernel
theorem dX2_isBooked_6 : decode cX2_isBooked 6 = .ok (.invokevirtual 58, 3) := by decide +kernel
theorem dX2_isBooked_9 : decode cX2_isBooked 9 = .ok (.aload_n 0, 1) := by decide +kernel
theorem dX2_isBooked_10 : decode cX2_isBooked 10 = .ok (.getfield 44, 3) := by decide +kernel
theorem dX2_isBooked_13 : decode cX2_isBooked 13 = .ok (.iload_n 2, 1) := by decide +kernel
theorem dX2_isBooked_14 : decode cX2_isBooked 14 = .ok (.iadd, 1) := by decide +kernel
theorem dX2_isBooked_15 : decode cX2_isBooked 15 = .ok (.if_icmp .ne 7, 3) := by decide +kernel
theorem dX2_isBooked_18 : decode cX2_isBooked 18 = .ok (.iconst 1, 1) := by decide +kernel
theorem dX2_isBooked_19 : decode cX2_isBooked 19 = .ok (.goto 4, 3) := by decide +kernel
theorem dX2_isBooked_22 : decode cX2_isBooked 22 = .ok (.iconst 0, 1) := by decide +kernel
theorem dX2_isBooked_23 : decode cX2_isBooked 23 = .ok (.ireturn, 1) := by decide +kernel
theorem dX2_isBooked__0 : decode cX2_isBooked_ 0 = .ok (.aload_n 0, 1) := by decide +kernel
theorem dX2_isBooked__1 : decode cX2_isBooked_ 1 = .ok (.iload_n 1, 1) := by decide +kernel
theorem dX2_isBooked__2 : decode cX2_isBooked_ 2 = .ok (.iload_n 2, 1) := by decide +kernel
theorem dX2_isBooked__3 : decode cX2_isBooked_ 3 = .ok (.invokevirtual 77, 3) := by decide +kernel
theorem dX2_isBooked__6 : decode cX2_isBooked_ 6 = .ok (.ifCond .eq 20, 3) := by decide +kernel
theorem dX2_isBooked__9 : decode cX2_isBooked_ 9 = .ok (.aload_n 0, 1) := by decide +kernel
theorem dX2_isBooked__10 : decode cX2_isBooked_ 10 = .ok (.getfield 26, 3) := by decide +kernel
theorem dX2_isBooked__13 : decode cX2_isBooked_ 13 = .ok (.iconst 1, 1) := by decide +kernel
theorem dX2_isBooked__14 : decode cX2_isBooked_ 14 = .ok (.iload_n 1, 1) := by decide +kernel
theorem dX2_isBooked__15 : decode cX2_isBooked_ 15 = .ok (.invokevirtual 58, 3) := by decide +kernel
theorem dX2_isBooked__18 : decode cX2_isBooked_ 18 = .ok (.iload_n 3, 1) := by decide +kernel
theorem dX2_isBooked__19 : decode cX2_isBooked_ 19 = .ok (.if_icmp .ne 7, 3) := by decide +kernel
theorem dX2_isBooked__22 : decode cX2_isBooked_ 22 = .ok (.iconst 1, 1) := by decide +kernel
theorem dX2_isBooked__23 : decode cX2_isBooked_ 23 = .ok (.goto 4, 3) := by decide +kernel
theorem dX2_isBooked__26 : decode cX2_isBooked_ 26 = .ok (.iconst 0, 1) := by decide +kernel
theorem dX2_isBooked__27 : decode cX2_isBooked_ 27 = .ok (.ireturn, 1) := by decide +kernel
theorem dX2_findBooking_0 : decode cX2_findBooking 0 = .ok (.iconst 0, 1) := by decide +kernel
theorem dX2_findBooking_1 : decode cX2_findBooking 1 = .ok (.istore_n 3, 1) := by decide +kernel
theorem dX2_findBooking_2 : decode cX2_findBooking 2 = .ok (.iload_n 3, 1) := by decide +kernel
theorem dX2_findBooking_3 : decode cX2_findBooking 3 = .ok (.aload_n 0, 1) := by decide +kernel
theorem dX2_findBooking_4 : decode cX2_findBooking 4 = .ok (.getfield 52, 3) := by decide +kernel
theorem dX2_findBooking_7 : decode cX2_findBooking 7 = .ok (.if_icmp .ge 33, 3) := by decide +kernel
theorem dX2_findBooking_10 : decode cX2_findBooking 10 = .ok (.aload_n 0, 1) := by decide +kernel
theorem dX2_findBooking_11 : decode cX2_findBooking 11 = .ok (.iload_n 3, 1) := by decide +kernel
theorem dX2_findBooking_12 : decode cX2_findBooking 12 = .ok (.iload_n 1, 1) := by decide +kernel
theorem dX2_findBooking_13 : decode cX2_findBooking 13 = .ok (.invokevirtual 77, 3) := by decide +kernel
theorem dX2_findBooking_16 : decode cX2_findBooking 16 = .ok (.ifCond .eq 18, 3) := by decide +kernel
theorem dX2_findBooking_19 : decode cX2_findBooking 19 = .ok (.aload_n 0, 1) := by decide +kernel
theorem dX2_findBooking_20 : decode cX2_findBooking 20 = .ok (.getfield 26, 3) := by decide +kernel
theorem dX2_findBooking_23 : decode cX2_findBooking 23 = .ok (.iconst 2, 1) := by decide +kernel
theorem dX2_findBooking_24 : decode cX2_findBooking 24 = .ok (.iload_n 3, 1) := by decide +kernel
theorem dX2_findBooking_25 : decode cX2_findBooking 25 = .ok (.invokevirtual 58, 3) := by decide +kernel
theorem dX2_findBooking_28 : decode cX2_findBooking 28 = .ok (.iload_n 2, 1) := by decide +kernel
theorem dX2_findBooking_29 : decode cX2_findBooking 29 = .ok (.if_icmp .ne 5, 3) := by decide +kernel
theorem dX2_findBooking_32 : decode cX2_findBooking 32 = .ok (.iload_n 3, 1) := by decide +kernel
theorem dX2_findBooking_33 : decode cX2_findBooking 33 = .ok (.ireturn, 1) := by decide +kernel
theorem dX2_findBooking_34 : decode cX2_findBooking 34 = .ok (.iinc 3 1, 3) := by decide +kernel
theorem dX2_findBooking_37 : decode cX2_findBooking 37 = .ok (.goto (-35), 3) := by decide +kernel
theorem dX2_findBooking_40 : decode cX2_findBooking 40 = .ok (.bipush (-5), 2) := by decide +kernel
theorem dX2_findBooking_42 : decode cX2_findBooking 42 = .ok (.ireturn, 1) := by decide +kernel
theorem dX2_bookedFor_0 : decode cX2_bookedFor 0 = .ok (.iconst 0, 1) := by decide +kernel
theorem dX2_bookedFor_1 : decode cX2_bookedFor 1 = .ok (.istore_n 3, 1) := by decide +kernel
theorem dX2_bookedFor_2 : decode cX2_bookedFor 2 = .ok (.iconst 0, 1) := by decide +kernel
theorem dX2_bookedFor_3 : decode cX2_bookedFor 3 = .ok (.istore 4, 2) := by decide +kernel
theorem dX2_bookedFor_5 : decode cX2_bookedFor 5 = .ok (.iload 4, 2) := by decide +kernel
theorem dX2_bookedFor_7 : decode cX2_bookedFor 7 = .ok (.aload_n 0, 1) := by decide +kernel
theorem dX2_bookedFor_8 : decode cX2_bookedFor 8 = .ok (.getfield 52, 3) := by decide +kernel
theorem dX2_bookedFor_11 : decode cX2_bookedFor 11 = .ok (.if_icmp .ge 28, 3) := by decide +kernel
theorem dX2_bookedFor_14 : decode cX2_bookedFor 14 = .ok (.iload_n 3, 1) := by decide +kernel
theorem dX2_bookedFor_15 : decode cX2_bookedFor 15 = .ok (.aload_n 0, 1) := by decide +kernel
theorem dX2_bookedFor_16 : decode cX2_bookedFor 16 = .ok (.iload 4, 2) := by decide +kernel
theorem dX2_bookedFor_18 : decode cX2_bookedFor 18 = .ok (.iload_n 1, 1) := by decide +kernel
theorem dX2_bookedFor_19 : decode cX2_bookedFor 19 = .ok (.iload_n 2, 1) := by decide +kernel
theorem dX2_bookedFor_20 : decode cX2_bookedFor 20 = .ok (.invokevirtual 81, 3) := by decide +kernel
theorem dX2_bookedFor_23 : decode cX2_bookedFor 23 = .ok (.ifCond .eq 7, 3) := by decide +kernel
theorem dX2_bookedFor_26 : decode cX2_bookedFor 26 = .ok (.iconst 1, 1) := by decide +kernel
theorem dX2_bookedFor_27 : decode cX2_bookedFor 27 = .ok (.goto 4, 3) := by decide +kernel
theorem dX2_bookedFor_30 : decode cX2_bookedFor 30 = .ok (.iconst 0, 1) := by decide +kernel
theorem dX2_bookedFor_31 : decode cX2_bookedFor 31 = .ok (.iadd, 1) := by decide +kernel
theorem dX2_bookedFor_32 : decode cX2_bookedFor 32 = .ok (.istore_n 3, 1) := by decide +kernel
theorem dX2_bookedFor_33 : decode cX2_bookedFor 33 = .ok (.iinc 4 1, 3) := by decide +kernel
theorem dX2_bookedFor_36 : decode cX2_bookedFor 36 = .ok (.goto (-31), 3) := by decide +kernel
theorem dX2_bookedFor_39 : decode cX2_bookedFor 39 = .ok (.iload_n 3, 1) := by decide +kernel
theorem dX2_bookedFor_40 : decode cX2_bookedFor 40 = .ok (.ireturn, 1) := by decide +kernel
theorem dX2_bookedInAllRings_0 : decode cX2_bookedInAllRings 0 = .ok (.iconst 0, 1) := by decide +kernel
theorem dX2_bookedInAllRings_1 : decode cX2_bookedInAllRings 1 = .ok (.istore_n 2, 1) := by decide +kernel
theorem dX2_bookedInAllRings_2 : decode cX2_bookedInAllRings 2 = .ok (.iconst 0, 1) := by decide +kernel
theorem dX2_bookedInAllRings_3 : decode cX2_bookedInAllRings 3 = .ok (.istore_n 3, 1) := by decide +kernel
theorem dX2_bookedInAllRings_4 : decode cX2_bookedInAllRings 4 = .ok (.iload_n 3, 1) := by decide +kernel
theorem dX2_bookedInAllRings_5 : decode cX2_bookedInAllRings 5 = .ok (.aload_n 0, 1) := by decide +kernel
theorem dX2_bookedInAllRings_6 : decode cX2_bookedInAllRings 6 = .ok (.getfield 52, 3) := by decide +kernel
theorem dX2_bookedInAllRings_9 : decode cX2_bookedInAllRings 9 = .ok (.if_icmp .ge 26, 3) := by decide +kernel
theorem dX2_bookedInAllRings_12 : decode cX2_bookedInAllRings 12 = .ok (.iload_n 2, 1) := by decide +kernel
theorem dX2_bookedInAllRings_13 : decode cX2_bookedInAllRings 13 = .ok (.aload_n 0, 1) := by decide +kernel
theorem dX2_bookedInAllRings_14 : decode cX2_bookedInAllRings 14 = .ok (.iload_n 3, 1) := by decide +kernel
theorem dX2_bookedInAllRings_15 : decode cX2_bookedInAllRings 15 = .ok (.iload_n 1, 1) := by decide +kernel
theorem dX2_bookedInAllRings_16 : decode cX2_bookedInAllRings 16 = .ok (.invokevirtual 77, 3) := by decide +kernel
theorem dX2_bookedInAllRings_19 : decode cX2_bookedInAllRings 19 = .ok (.ifCond .eq 7, 3) := by decide +kernel
theorem dX2_bookedInAllRings_22 : decode cX2_bookedInAllRings 22 = .ok (.iconst 1, 1) := by decide +kernel
theorem dX2_bookedInAllRings_23 : decode cX2_bookedInAllRings 23 = .ok (.goto 4, 3) := by decide +kernel
theorem dX2_bookedInAllRings_26 : decode cX2_bookedInAllRings 26 = .ok (.iconst 0, 1) := by decide +kernel
theorem dX2_bookedInAllRings_27 : decode cX2_bookedInAllRings 27 = .ok (.iadd, 1) := by decide +kernel
theorem dX2_bookedInAllRings_28 : decode cX2_bookedInAllRings 28 = .ok (.istore_n 2, 1) := by decide +kernel
theorem dX2_bookedInAllRings_29 : decode cX2_bookedInAllRings 29 = .ok (.iinc 3 1, 3) := by decide +kernel
theorem dX2_bookedInAllRings_32 : decode cX2_bookedInAllRings 32 = .ok (.goto (-28), 3) := by decide +kernel
theorem dX2_bookedInAllRings_35 : decode cX2_bookedInAllRings 35 = .ok (.iload_n 2, 1) := by decide +kernel
theorem dX2_bookedInAllRings_36 : decode cX2_bookedInAllRings 36 = .ok (.ireturn, 1) := by decide +kernel
theorem dX2_setOfRiders_0 : decode cX2_setOfRiders 0 = .ok (.iconst 0, 1) := by decide +kernel
theorem dX2_setOfRiders_1 : decode cX2_setOfRiders 1 = .ok (.istore_n 3, 1) := by decide +kernel
theorem dX2_setOfRiders_2 : decode cX2_setOfRiders 2 = .ok (.iconst 0, 1) := by decide +kernel
theorem dX2_setOfRiders_3 : decode cX2_setOfRiders 3 = .ok (.istore 4, 2) := by decide +kernel
theorem dX2_setOfRiders_5 : decode cX2_setOfRiders 5 = .ok (.iload 4, 2) := by decide +kernel
theorem dX2_setOfRiders_7 : decode cX2_setOfRiders 7 = .ok (.aload_n 0, 1) := by decide +kernel
theorem dX2_setOfRiders_8 : decode cX2_setOfRiders 8 = .ok (.getfield 52, 3) := by decide +kernel
theorem dX2_setOfRiders_11 : decode cX2_setOfRiders 11 = .ok (.if_icmp .ge 35, 3) := by decide +kernel
theorem dX2_setOfRiders_14 : decode cX2_setOfRiders 14 = .ok (.aload_n 0, 1) := by decide +kernel
theorem dX2_setOfRiders_15 : decode cX2_setOfRiders 15 = .ok (.iload 4, 2) := by decide +kernel
theorem dX2_setOfRiders_17 : decode cX2_setOfRiders 17 = .ok (.iload_n 1, 1) := by decide +kernel
theorem dX2_setOfRiders_18 : decode cX2_setOfRiders 18 = .ok (.iload_n 2, 1) := by decide +kernel
theorem dX2_setOfRiders_19 : decode cX2_setOfRiders 19 = .ok (.invokevirtual 81, 3) := by decide +kernel
theorem dX2_setOfRiders_22 : decode cX2_setOfRiders 22 = .ok (.ifCond .eq 18, 3) := by decide +kernel
theorem dX2_setOfRiders_25 : decode cX2_setOfRiders 25 = .ok (.iload_n 3, 1) := by decide +kernel
theorem dX2_setOfRiders_26 : decode cX2_setOfRiders 26 = .ok (.iconst 1, 1) := by decide +kernel
theorem dX2_setOfRiders_27 : decode cX2_setOfRiders 27 = .ok (.aload_n 0, 1) := by decide +kernel
theorem dX2_setOfRiders_28 : decode cX2_setOfRiders 28 = .ok (.getfield 26, 3) := by decide +kernel
theorem dX2_setOfRiders_31 : decode cX2_setOfRiders 31 = .ok (.iconst 2, 1) := by decide +kernel
theorem dX2_setOfRiders_32 : decode cX2_setOfRiders 32 = .ok (.iload 4, 2) := by decide +kernel
theorem dX2_setOfRiders_34 : decode cX2_setOfRiders 34 = .ok (.invokevirtual 58, 3) := by decide +kernel
theorem dX2_setOfRiders_37 : decode cX2_setOfRiders 37 = .ok (.ishl, 1) := by decide +kernel
theorem dX2_setOfRiders_38 : decode cX2_setOfRiders 38 = .ok (.ior, 1) := by decide +kernel
theorem dX2_setOfRiders_39 : decode cX2_setOfRiders 39 = .ok (.istore_n 3, 1) := by decide +kernel
theorem dX2_setOfRiders_40 : decode cX2_setOfRiders 40 = .ok (.iinc 4 1, 3) := by decide +kernel
theorem dX2_setOfRiders_43 : decode cX2_setOfRiders 43 = .ok (.goto (-38), 3) := by decide +kernel
theorem dX2_setOfRiders_46 : decode cX2_setOfRiders 46 = .ok (.iload_n 3, 1) := by decide +kernel
theorem dX2_setOfRiders_47 : decode cX2_setOfRiders 47 = .ok (.ireturn, 1) := by decide +kernel
theorem dX2_bookingsOf_0 : decode cX2_bookingsOf 0 = .ok (.iconst 0, 1) := by decide +kernel
theorem dX2_bookingsOf_1 : decode cX2_bookingsOf 1 = .ok (.istore_n 2, 1) := by decide +kernel
theorem dX2_bookingsOf_2 : decode cX2_bookingsOf 2 = .ok (.iconst 0, 1) := by decide +kernel
theorem dX2_bookingsOf_3 : decode cX2_bookingsOf 3 = .ok (.istore_n 3, 1) := by decide +kernel
theorem dX2_bookingsOf_4 : decode cX2_bookingsOf 4 = .ok (.iload_n 3, 1) := by decide +kernel
theorem dX2_bookingsOf_5 : decode cX2_bookingsOf 5 = .ok (.aload_n 0, 1) := by decide +kernel
theorem dX2_bookingsOf_6 : decode cX2_bookingsOf 6 = .ok (.getfield 52, 3) := by decide +kernel
theorem dX2_bookingsOf_9 : decode cX2_bookingsOf 9 = .ok (.if_icmp .ge 30, 3) := by decide +kernel
theorem dX2_bookingsOf_12 : decode cX2_bookingsOf 12 = .ok (.iload_n 2, 1) := by decide +kernel
theorem dX2_bookingsOf_13 : decode cX2_bookingsOf 13 = .ok (.aload_n 0, 1) := by decide +kernel
theorem dX2_bookingsOf_14 : decode cX2_bookingsOf 14 = .ok (.getfield 26, 3) := by decide +kernel
theorem dX2_bookingsOf_17 : decode cX2_bookingsOf 17 = .ok (.iconst 2, 1) := by decide +kernel
theorem dX2_bookingsOf_18 : decode cX2_bookingsOf 18 = .ok (.iload_n 3, 1) := by decide +kernel
theorem dX2_bookingsOf_19 : decode cX2_bookingsOf 19 = .ok (.invokevirtual 58, 3) := by decide +kernel
theorem dX2_bookingsOf_22 : decode cX2_bookingsOf 22 = .ok (.iload_n 1, 1) := by decide +kernel
theorem dX2_bookingsOf_23 : decode cX2_bookingsOf 23 = .ok (.if_icmp .ne 7, 3) := by decide +kernel
theorem dX2_bookingsOf_26 : decode cX2_bookingsOf 26 = .ok (.iconst 1, 1) := by decide +kernel
theorem dX2_bookingsOf_27 : decode cX2_bookingsOf 27 = .ok (.goto 4, 3) := by decide +kernel
theorem dX2_bookingsOf_30 : decode cX2_bookingsOf 30 = .ok (.iconst 0, 1) := by decide +kernel
theorem dX2_bookingsOf_31 : decode cX2_bookingsOf 31 = .ok (.iadd, 1) := by decide +kernel
theorem dX2_bookingsOf_32 : decode cX2_bookingsOf 32 = .ok (.istore_n 2, 1) := by decide +kernel
theorem dX2_bookingsOf_33 : decode cX2_bookingsOf 33 = .ok (.iinc 3 1, 3) := by decide +kernel
theorem dX2_bookingsOf_36 : decode cX2_bookingsOf 36 = .ok (.goto (-32), 3) := by decide +kernel
theorem dX2_bookingsOf_39 : decode cX2_bookingsOf 39 = .ok (.iload_n 2, 1) := by decide +kernel
theorem dX2_bookingsOf_40 : decode cX2_bookingsOf 40 = .ok (.ireturn, 1) := by decide +kernel
theorem dX2_bookingError_0 : decode cX2_bookingError 0 = .ok (.aload_n 0, 1) := by decide +kernel
theorem dX2_bookingError_1 : decode cX2_bookingError 1 = .ok (.iload_n 1, 1) := by decide +kernel
theorem dX2_bookingError_2 : decode cX2_bookingError 2 = .ok (.iload_n 3, 1) := by decide +kernel
theorem dX2_bookingError_3 : decode cX2_bookingError 3 = .ok (.invokevirtual 84, 3) := by decide +kernel
theorem dX2_bookingError_6 : decode cX2_bookingError 6 = .ok (.bipush (-5), 2) := by decide +kernel
theorem dX2_bookingError_8 : decode cX2_bookingError 8 = .ok (.if_icmp .eq 6, 3) := by decide +kernel
theorem dX2_bookingError_11 : decode cX2_bookingError 11 = .ok (.bipush (-4), 2) := by decide +kernel
theorem dX2_bookingError_13 : decode cX2_bookingError 13 = .ok (.ireturn, 1) := by decide +kernel
theorem dX2_bookingError_14 : decode cX2_bookingError 14 = .ok (.aload_n 0, 1) := by decide +kernel
theorem dX2_bookingError_15 : decode cX2_bookingError 15 = .ok (.iload_n 1, 1) := by decide +kernel
theorem dX2_bookingError_16 : decode cX2_bookingError 16 = .ok (.iload_n 2, 1) := by decide +kernel
theorem dX2_bookingError_17 : decode cX2_bookingError 17 = .ok (.invokevirtual 87, 3) := by decide +kernel
theorem dX2_bookingError_20 : decode cX2_bookingError 20 = .ok (.getstatic 90, 3) := by decide +kernel
theorem dX2_bookingError_23 : decode cX2_bookingError 23 = .ok (.iload_n 2, 1) := by decide +kernel
theorem dX2_bookingError_24 : decode cX2_bookingError 24 = .ok (.invokestatic 36, 3) := by decide +kernel
theorem dX2_bookingError_27 : decode cX2_bookingError 27 = .ok (.if_icmp .lt 7, 3) := by decide +kernel
theorem dX2_bookingError_30 : decode cX2_bookingError 30 = .ok (.iconst 1, 1) := by decide +kernel
theorem dX2_bookingError_31 : decode cX2_bookingError 31 = .ok (.goto 4, 3) := by decide +kernel
theorem dX2_bookingError_34 : decode cX2_bookingError 34 = .ok (.iconst 0, 1) := by decide +kernel
theorem dX2_bookingError_35 : decode cX2_bookingError 35 = .ok (.istore 4, 2) := by decide +kernel
theorem dX2_bookingError_37 : decode cX2_bookingError 37 = .ok (.iload 4, 2) := by decide +kernel
theorem dX2_bookingError_39 : decode cX2_bookingError 39 = .ok (.ifCond .ne 12, 3) := by decide +kernel
theorem dX2_bookingError_42 : decode cX2_bookingError 42 = .ok (.aload_n 0, 1) := by decide +kernel
theorem dX2_bookingError_43 : decode cX2_bookingError 43 = .ok (.getfield 52, 3) := by decide +kernel
theorem dX2_bookingError_46 : decode cX2_bookingError 46 = .ok (.bipush 40, 2) := by decide +kernel
theorem dX2_bookingError_48 : decode cX2_bookingError 48 = .ok (.if_icmp .lt 8, 3) := by decide +kernel
theorem dX2_bookingError_51 : decode cX2_bookingError 51 = .ok (.bipush (-3), 2) := by decide +kernel
theorem dX2_bookingError_53 : decode cX2_bookingError 53 = .ok (.goto 4, 3) := by decide +kernel
theorem dX2_bookingError_56 : decode cX2_bookingError 56 = .ok (.iconst 0, 1) := by decide +kernel
theorem dX2_bookingError_57 : decode cX2_bookingError 57 = .ok (.ireturn, 1) := by decide +kernel
theorem dX2_addBooking_0 : decode cX2_addBooking 0 = .ok (.aload_n 0, 1) := by decide +kernel
theorem dX2_addBooking_1 : decode cX2_addBooking 1 = .ok (.getfield 26, 3) := by decide +kernel
theorem dX2_addBooking_4 : decode cX2_addBooking 4 = .ok (.iconst 0, 1) := by decide +kernel
theorem dX2_addBooking_5 : decode cX2_addBooking 5 = .ok (.aload_n 0, 1) := by decide +kernel
theorem dX2_addBooking_6 : decode cX2_addBooking 6 = .ok (.getfield 52, 3) := by decide +kernel
theorem dX2_addBooking_9 : decode cX2_addBooking 9 = .ok (.aload_n 0, 1) := by decide +kernel
theorem dX2_addBooking_10 : decode cX2_addBooking 10 = .ok (.getfield 44, 3) := by decide +kernel
theorem dX2_addBooking_13 : decode cX2_addBooking 13 = .ok (.iload_n 1, 1) := by decide +kernel
theorem dX2_addBooking_14 : decode cX2_addBooking 14 = .ok (.iadd, 1) := by decide +kernel
theorem dX2_addBooking_15 : decode cX2_addBooking 15 = .ok (.invokevirtual 40, 3) := by decide +kernel
theorem dX2_addBooking_18 : decode cX2_addBooking 18 = .ok (.aload_n 0, 1) := by decide +kernel
theorem dX2_addBooking_19 : decode cX2_addBooking 19 = .ok (.getfield 26, 3) := by decide +kernel
theorem dX2_addBooking_22 : decode cX2_addBooking 22 = .ok (.iconst 1, 1) := by decide +kernel
theorem dX2_addBooking_23 : decode cX2_addBooking 23 = .ok (.aload_n 0, 1) := by decide +kernel
theorem dX2_addBooking_24 : decode cX2_addBooking 24 = .ok (.getfield 52, 3) := by decide +kernel
theorem dX2_addBooking_27 : decode cX2_addBooking 27 = .ok (.iload_n 2, 1) := by decide +kernel
theorem dX2_addBooking_28 : decode cX2_addBooking 28 = .ok (.invokevirtual 40, 3) := by decide +kernel
theorem dX2_addBooking_31 : decode cX2_addBooking 31 = .ok (.aload_n 0, 1) := by decide +kernel
theorem dX2_addBooking_32 : decode cX2_addBooking 32 = .ok (.getfield 26, 3) := by decide +kernel
theorem dX2_addBooking_35 : decode cX2_addBooking 35 = .ok (.iconst 2, 1) := by decide +kernel
theorem dX2_addBooking_36 : decode cX2_addBooking 36 = .ok (.aload_n 0, 1) := by decide +kernel
theorem dX2_addBooking_37 : decode cX2_addBooking 37 = .ok (.getfield 52, 3) := by decide +kernel
theorem dX2_addBooking_40 : decode cX2_addBooking 40 = .ok (.iload_n 3, 1) := by decide +kernel
theorem dX2_addBooking_41 : decode cX2_addBooking 41 = .ok (.invokevirtual 40, 3) := by decide +kernel
theorem dX2_addBooking_44 : decode cX2_addBooking 44 = .ok (.aload_n 0, 1) := by decide +kernel
theorem dX2_addBooking_45 : decode cX2_addBooking 45 = .ok (.aload_n 0, 1) := by decide +kernel
theorem dX2_addBooking_46 : decode cX2_addBooking 46 = .ok (.getfield 52, 3) := by decide +kernel
theorem dX2_addBooking_49 : decode cX2_addBooking 49 = .ok (.iconst 1, 1) := by decide +kernel
theorem dX2_addBooking_50 : decode cX2_addBooking 50 = .ok (.iadd, 1) := by decide +kernel
theorem dX2_addBooking_51 : decode cX2_addBooking 51 = .ok (.bipush 40, 2) := by decide +kernel
theorem dX2_addBooking_53 : decode cX2_addBooking 53 = .ok (.invokestatic 93, 3) := by decide +kernel
theorem dX2_addBooking_56 : decode cX2_addBooking 56 = .ok (.putfield 52, 3) := by decide +kernel
theorem dX2_addBooking_59 : decode cX2_addBooking 59 = .ok (.return_, 1) := by decide +kernel
theorem dX2_removeBooking_0 : decode cX2_removeBooking 0 = .ok (.iload_n 1, 1) := by decide +kernel
theorem dX2_removeBooking_1 : decode cX2_removeBooking 1 = .ok (.iconst 1, 1) := by decide +kernel
theorem dX2_removeBooking_2 : decode cX2_removeBooking 2 = .ok (.iadd, 1) := by decide +kernel
theorem dX2_removeBooking_3 : decode cX2_removeBooking 3 = .ok (.istore_n 2, 1) := by decide +kernel
theorem dX2_removeBooking_4 : decode cX2_removeBooking 4 = .ok (.iload_n 2, 1) := by decide +kernel
theorem dX2_removeBooking_5 : decode cX2_removeBooking 5 = .ok (.aload_n 0, 1) := by decide +kernel
theorem dX2_removeBooking_6 : decode cX2_removeBooking 6 = .ok (.getfield 52, 3) := by decide +kernel
theorem dX2_removeBooking_9 : decode cX2_removeBooking 9 = .ok (.if_icmp .ge 21, 3) := by decide +kernel
theorem dX2_removeBooking_12 : decode cX2_removeBooking 12 = .ok (.aload_n 0, 1) := by decide +kernel
theorem dX2_removeBooking_13 : decode cX2_removeBooking 13 = .ok (.getfield 26, 3) := by decide +kernel
theorem dX2_removeBooking_16 : decode cX2_removeBooking 16 = .ok (.iload_n 2, 1) := by decide +kernel
theorem dX2_removeBooking_17 : decode cX2_removeBooking 17 = .ok (.iload_n 2, 1) := by decide +kernel
theorem dX2_removeBooking_18 : decode cX2_removeBooking 18 = .ok (.iconst 1, 1) := by decide +kernel
theorem dX2_removeBooking_19 : decode cX2_removeBooking 19 = .ok (.isub, 1) := by decide +kernel
theorem dX2_removeBooking_20 : decode cX2_removeBooking 20 = .ok (.iconst 3, 1) := by decide +kernel
theorem dX2_removeBooking_21 : decode cX2_removeBooking 21 = .ok (.invokevirtual 96, 3) := by decide +kernel
theorem dX2_removeBooking_24 : decode cX2_removeBooking 24 = .ok (.iinc 2 1, 3) := by decide +kernel
theorem dX2_removeBooking_27 : decode cX2_removeBooking 27 = .ok (.goto (-23), 3) := by decide +kernel
theorem dX2_removeBooking_30 : decode cX2_removeBooking 30 = .ok (.aload_n 0, 1) := by decide +kernel
theorem dX2_removeBooking_31 : decode cX2_removeBooking 31 = .ok (.aload_n 0, 1) := by decide +kernel
theorem dX2_removeBooking_32 : decode cX2_removeBooking 32 = .ok (.getfield 52, 3) := by decide +kernel
theorem dX2_removeBooking_35 : decode cX2_removeBooking 35 = .ok (.iconst 1, 1) := by decide +kernel
theorem dX2_removeBooking_36 : decode cX2_removeBooking 36 = .ok (.isub, 1) := by decide +kernel
theorem dX2_removeBooking_37 : decode cX2_removeBooking 37 = .ok (.iconst 0, 1) := by decide +kernel
theorem dX2_removeBooking_38 : decode cX2_removeBooking 38 = .ok (.invokestatic 72, 3) := by decide +kernel
theorem dX2_removeBooking_41 : decode cX2_removeBooking 41 = .ok (.putfield 52, 3) := by decide +kernel
theorem dX2_removeBooking_44 : decode cX2_removeBooking 44 = .ok (.return_, 1) := by decide +kernel
theorem dX2_isFarrierThere_0 : decode cX2_isFarrierThere 0 = .ok (.aload_n 0, 1) := by decide +kernel
theorem dX2_isFarrierThere_1 : decode cX2_isFarrierThere 1 = .ok (.getfield 14, 3) := by decide +kernel
theorem dX2_isFarrierThere_4 : decode cX2_isFarrierThere 4 = .ok (.iconst 0, 1) := by decide +kernel
theorem dX2_isFarrierThere_5 : decode cX2_isFarrierThere 5 = .ok (.iconst 4, 1) := by decide +kernel
theorem dX2_isFarrierThere_6 : decode cX2_isFarrierThere 6 = .ok (.invokevirtual 58, 3) := by decide +kernel
theorem dX2_isFarrierThere_9 : decode cX2_isFarrierThere 9 = .ok (.istore_n 1, 1) := by decide +kernel
theorem dX2_isFarrierThere_10 : decode cX2_isFarrierThere 10 = .ok (.iload_n 1, 1) := by decide +kernel
theorem dX2_isFarrierThere_11 : decode cX2_isFarrierThere 11 = .ok (.ifCond .le 19, 3) := by decide +kernel
theorem dX2_isFarrierThere_14 : decode cX2_isFarrierThere 14 = .ok (.aload_n 0, 1) := by decide +kernel
theorem dX2_isFarrierThere_15 : decode cX2_isFarrierThere 15 = .ok (.getfield 44, 3) := by decide +kernel
theorem dX2_isFarrierThere_18 : decode cX2_isFarrierThere 18 = .ok (.bipush 10, 2) := by decide +kernel
theorem dX2_isFarrierThere_20 : decode cX2_isFarrierThere 20 = .ok (.idiv, 1) := by decide +kernel
theorem dX2_isFarrierThere_21 : decode cX2_isFarrierThere 21 = .ok (.iload_n 1, 1) := by decide +kernel
theorem dX2_isFarrierThere_22 : decode cX2_isFarrierThere 22 = .ok (.irem, 1) := by decide +kernel
theorem dX2_isFarrierThere_23 : decode cX2_isFarrierThere 23 = .ok (.ifCond .ne 7, 3) := by decide +kernel
theorem dX2_isFarrierThere_26 : decode cX2_isFarrierThere 26 = .ok (.iconst 1, 1) := by decide +kernel
theorem dX2_isFarrierThere_27 : decode cX2_isFarrierThere 27 = .ok (.goto 4, 3) := by decide +kernel
theorem dX2_isFarrierThere_30 : decode cX2_isFarrierThere 30 = .ok (.iconst 0, 1) := by decide +kernel
theorem dX2_isFarrierThere_31 : decode cX2_isFarrierThere 31 = .ok (.ireturn, 1) := by decide +kernel
theorem dX2_farriersHorse_0 : decode cX2_farriersHorse 0 = .ok (.iconst 0, 1) := by decide +kernel
theorem dX2_farriersHorse_1 : decode cX2_farriersHorse 1 = .ok (.istore_n 1, 1) := by decide +kernel
theorem dX2_farriersHorse_2 : decode cX2_farriersHorse 2 = .ok (.bipush (-5), 2) := by decide +kernel
theorem dX2_farriersHorse_4 : decode cX2_farriersHorse 4 = .ok (.istore_n 2, 1) := by decide +kernel
theorem dX2_farriersHorse_5 : decode cX2_farriersHorse 5 = .ok (.aload_n 0, 1) := by decide +kernel
theorem dX2_farriersHorse_6 : decode cX2_farriersHorse 6 = .ok (.invokevirtual 99, 3) := by decide +kernel
theorem dX2_farriersHorse_9 : decode cX2_farriersHorse 9 = .ok (.ifCond .ne 5, 3) := by decide +kernel
theorem dX2_farriersHorse_12 : decode cX2_farriersHorse 12 = .ok (.iload_n 2, 1) := by decide +kernel
theorem dX2_farriersHorse_13 : decode cX2_farriersHorse 13 = .ok (.ireturn, 1) := by decide +kernel
theorem dX2_farriersHorse_14 : decode cX2_farriersHorse 14 = .ok (.iconst 0, 1) := by decide +kernel
theorem dX2_farriersHorse_15 : decode cX2_farriersHorse 15 = .ok (.istore_n 3, 1) := by decide +kernel
theorem dX2_farriersHorse_16 : decode cX2_farriersHorse 16 = .ok (.iload_n 3, 1) := by decide +kernel
theorem dX2_farriersHorse_17 : decode cX2_farriersHorse 17 = .ok (.bipush 10, 2) := by decide +kernel
theorem dX2_farriersHorse_19 : decode cX2_farriersHorse 19 = .ok (.if_icmp .ge 31, 3) := by decide +kernel
theorem dX2_farriersHorse_22 : decode cX2_farriersHorse 22 = .ok (.aload_n 0, 1) := by decide +kernel
theorem dX2_farriersHorse_23 : decode cX2_farriersHorse 23 = .ok (.getfield 20, 3) := by decide +kernel
theorem dX2_farriersHorse_26 : decode cX2_farriersHorse 26 = .ok (.iconst 3, 1) := by decide +kernel
theorem dX2_farriersHorse_27 : decode cX2_farriersHorse 27 = .ok (.iload_n 3, 1) := by decide +kernel
theorem dX2_farriersHorse_28 : decode cX2_farriersHorse 28 = .ok (.invokevirtual 58, 3) := by decide +kernel
theorem dX2_farriersHorse_31 : decode cX2_farriersHorse 31 = .ok (.istore 4, 2) := by decide +kernel
theorem dX2_farriersHorse_33 : decode cX2_farriersHorse 33 = .ok (.iload 4, 2) := by decide +kernel
theorem dX2_farriersHorse_35 : decode cX2_farriersHorse 35 = .ok (.iload_n 1, 1) := by decide +kernel
theorem dX2_farriersHorse_36 : decode cX2_farriersHorse 36 = .ok (.if_icmp .le 8, 3) := by decide +kernel
theorem dX2_farriersHorse_39 : decode cX2_farriersHorse 39 = .ok (.iload 4, 2) := by decide +kernel
theorem dX2_farriersHorse_41 : decode cX2_farriersHorse 41 = .ok (.istore_n 1, 1) := by decide +kernel
theorem dX2_farriersHorse_42 : decode cX2_farriersHorse 42 = .ok (.iload_n 3, 1) := by decide +kernel
theorem dX2_farriersHorse_43 : decode cX2_farriersHorse 43 = .ok (.istore_n 2, 1) := by decide +kernel
theorem dX2_farriersHorse_44 : decode cX2_farriersHorse 44 = .ok (.iinc 3 1, 3) := by decide +kernel
theorem dX2_farriersHorse_47 : decode cX2_farriersHorse 47 = .ok (.goto (-31), 3) := by decide +kernel
theorem dX2_farriersHorse_50 : decode cX2_farriersHorse 50 = .ok (.iload_n 2, 1) := by decide +kernel
theorem dX2_farriersHorse_51 : decode cX2_farriersHorse 51 = .ok (.ireturn, 1) := by decide +kernel
theorem dX2_hindrance_0 : decode cX2_hindrance 0 = .ok (.aload_n 0, 1) := by decide +kernel
theorem dX2_hindrance_1 : decode cX2_hindrance 1 = .ok (.getfield 20, 3) := by decide +kernel
theorem dX2_hindrance_4 : decode cX2_hindrance 4 = .ok (.iconst 5, 1) := by decide +kernel
theorem dX2_hindrance_5 : decode cX2_hindrance 5 = .ok (.iload_n 1, 1) := by decide +kernel
theorem dX2_hindrance_6 : decode cX2_hindrance 6 = .ok (.invokevirtual 58, 3) := by decide +kernel
theorem dX2_hindrance_9 : decode cX2_hindrance 9 = .ok (.ifCond .le 5, 3) := by decide +kernel
theorem dX2_hindrance_12 : decode cX2_hindrance 12 = .ok (.iconst 1, 1) := by decide +kernel
theorem dX2_hindrance_13 : decode cX2_hindrance 13 = .ok (.ireturn, 1) := by decide +kernel
theorem dX2_hindrance_14 : decode cX2_hindrance 14 = .ok (.iload_n 1, 1) := by decide +kernel
theorem dX2_hindrance_15 : decode cX2_hindrance 15 = .ok (.iload_n 3, 1) := by decide +kernel
theorem dX2_hindrance_16 : decode cX2_hindrance 16 = .ok (.if_icmp .ne 5, 3) := by decide +kernel
theorem dX2_hindrance_19 : decode cX2_hindrance 19 = .ok (.iconst 2, 1) := by decide +kernel
theorem dX2_hindrance_20 : decode cX2_hindrance 20 = .ok (.ireturn, 1) := by decide +kernel
theorem dX2_hindrance_21 : decode cX2_hindrance 21 = .ok (.aload_n 0, 1) := by decide +kernel
theorem dX2_hindrance_22 : decode cX2_hindrance 22 = .ok (.getfield 20, 3) := by decide +kernel
theorem dX2_hindrance_25 : decode cX2_hindrance 25 = .ok (.iconst 3, 1) := by decide +kernel
theorem dX2_hindrance_26 : decode cX2_hindrance 26 = .ok (.iload_n 1, 1) := by decide +kernel
theorem dX2_hindrance_27 : decode cX2_hindrance 27 = .ok (.invokevirtual 58, 3) := by decide +kernel
theorem dX2_hindrance_30 : decode cX2_hindrance 30 = .ok (.aload_n 0, 1) := by decide +kernel
theorem dX2_hindrance_31 : decode cX2_hindrance 31 = .ok (.getfield 14, 3) := by decide +kernel
theorem dX2_hindrance_34 : decode cX2_hindrance 34 = .ok (.iconst 0, 1) := by decide +kernel
theorem dX2_hindrance_35 : decode cX2_hindrance 35 = .ok (.iconst 1, 1) := by decide +kernel
theorem dX2_hindrance_36 : decode cX2_hindrance 36 = .ok (.invokevirtual 58, 3) := by decide +kernel
theorem dX2_hindrance_39 : decode cX2_hindrance 39 = .ok (.if_icmp .lt 5, 3) := by decide +kernel
theorem dX2_hindrance_42 : decode cX2_hindrance 42 = .ok (.iconst 3, 1) := by decide +kernel
theorem dX2_hindrance_43 : decode cX2_hindrance 43 = .ok (.ireturn, 1) := by decide +kernel
theorem dX2_hindrance_44 : decode cX2_hindrance 44 = .ok (.aload_n 0, 1) := by decide +kernel
theorem dX2_hindrance_45 : decode cX2_hindrance 45 = .ok (.getfield 20, 3) := by decide +kernel
theorem dX2_hindrance_48 : decode cX2_hindrance 48 = .ok (.iconst 2, 1) := by decide +kernel
theorem dX2_hindrance_49 : decode cX2_hindrance 49 = .ok (.iload_n 1, 1) := by decide +kernel
theorem dX2_hindrance_50 : decode cX2_hindrance 50 = .ok (.invokevirtual 58, 3) := by decide +kernel
theorem dX2_hindrance_53 : decode cX2_hindrance 53 = .ok (.aload_n 0, 1) := by decide +kernel
theorem dX2_hindrance_54 : decode cX2_hindrance 54 = .ok (.getfield 14, 3) := by decide +kernel
theorem dX2_hindrance_57 : decode cX2_hindrance 57 = .ok (.iconst 0, 1) := by decide +kernel
theorem dX2_hindrance_58 : decode cX2_hindrance 58 = .ok (.iconst 0, 1) := by decide +kernel
theorem dX2_hindrance_59 : decode cX2_hindrance 59 = .ok (.invokevirtual 58, 3) := by decide +kernel
theorem dX2_hindrance_62 : decode cX2_hindrance 62 = .ok (.if_icmp .lt 5, 3) := by decide +kernel
theorem dX2_hindrance_65 : decode cX2_hindrance 65 = .ok (.iconst 4, 1) := by decide +kernel
theorem dX2_hindrance_66 : decode cX2_hindrance 66 = .ok (.ireturn, 1) := by decide +kernel
theorem dX2_hindrance_67 : decode cX2_hindrance 67 = .ok (.aload_n 0, 1) := by decide +kernel
theorem dX2_hindrance_68 : decode cX2_hindrance 68 = .ok (.getfield 20, 3) := by decide +kernel
theorem dX2_hindrance_71 : decode cX2_hindrance 71 = .ok (.iconst 0, 1) := by decide +kernel
theorem dX2_hindrance_72 : decode cX2_hindrance 72 = .ok (.iload_n 1, 1) := by decide +kernel
theorem dX2_hindrance_73 : decode cX2_hindrance 73 = .ok (.invokevirtual 58, 3) := by decide +kernel
theorem dX2_hindrance_76 : decode cX2_hindrance 76 = .ok (.aload_n 0, 1) := by decide +kernel
theorem dX2_hindrance_77 : decode cX2_hindrance 77 = .ok (.getfield 23, 3) := by decide +kernel
theorem dX2_hindrance_80 : decode cX2_hindrance 80 = .ok (.iconst 0, 1) := by decide +kernel
theorem dX2_hindrance_81 : decode cX2_hindrance 81 = .ok (.iload_n 2, 1) := by decide +kernel
theorem dX2_hindrance_82 : decode cX2_hindrance 82 = .ok (.invokevirtual 58, 3) := by decide +kernel
theorem dX2_hindrance_85 : decode cX2_hindrance 85 = .ok (.if_icmp .ge 7, 3) := by decide +kernel
theorem dX2_hindrance_88 : decode cX2_hindrance 88 = .ok (.iconst 5, 1) := by decide +kernel
theorem dX2_hindrance_89 : decode cX2_hindrance 89 = .ok (.goto 4, 3) := by decide +kernel
theorem dX2_hindrance_92 : decode cX2_hindrance 92 = .ok (.iconst 0, 1) := by decide +kernel
theorem dX2_hindrance_93 : decode cX2_hindrance 93 = .ok (.ireturn, 1) := by decide +kernel
theorem dX2_bestHorse_0 : decode cX2_bestHorse 0 = .ok (.aload_n 0, 1) := by decide +kernel
theorem dX2_bestHorse_1 : decode cX2_bestHorse 1 = .ok (.iload_n 1, 1) := by decide +kernel
theorem dX2_bestHorse_2 : decode cX2_bestHorse 2 = .ok (.invokevirtual 66, 3) := by decide +kernel
theorem dX2_bestHorse_5 : decode cX2_bestHorse 5 = .ok (.istore 4, 2) := by decide +kernel
theorem dX2_bestHorse_7 : decode cX2_bestHorse 7 = .ok (.bipush (-5), 2) := by decide +kernel
theorem dX2_bestHorse_9 : decode cX2_bestHorse 9 = .ok (.istore 5, 2) := by decide +kernel
theorem dX2_bestHorse_11 : decode cX2_bestHorse 11 = .ok (.iconst 0, 1) := by decide +kernel
theorem dX2_bestHorse_12 : decode cX2_bestHorse 12 = .ok (.istore 6, 2) := by decide +kernel
theorem dX2_bestHorse_14 : decode cX2_bestHorse 14 = .ok (.iload 6, 2) := by decide +kernel
theorem dX2_bestHorse_16 : decode cX2_bestHorse 16 = .ok (.bipush 10, 2) := by decide +kernel
theorem dX2_bestHorse_18 : decode cX2_bestHorse 18 = .ok (.if_icmp .ge 53, 3) := by decide +kernel
theorem dX2_bestHorse_21 : decode cX2_bestHorse 21 = .ok (.iload_n 3, 1) := by decide +kernel
theorem dX2_bestHorse_22 : decode cX2_bestHorse 22 = .ok (.iload 6, 2) := by decide +kernel
theorem dX2_bestHorse_24 : decode cX2_bestHorse 24 = .ok (.ishr, 1) := by decide +kernel
theorem dX2_bestHorse_25 : decode cX2_bestHorse 25 = .ok (.iconst 1, 1) := by decide +kernel
theorem dX2_bestHorse_26 : decode cX2_bestHorse 26 = .ok (.iand, 1) := by decide +kernel
theorem dX2_bestHorse_27 : decode cX2_bestHorse 27 = .ok (.ifCond .ne 38, 3) := by decide +kernel
theorem dX2_bestHorse_30 : decode cX2_bestHorse 30 = .ok (.aload_n 0, 1) := by decide +kernel
theorem dX2_bestHorse_31 : decode cX2_bestHorse 31 = .ok (.iload 6, 2) := by decide +kernel
theorem dX2_bestHorse_33 : decode cX2_bestHorse 33 = .ok (.iload_n 1, 1) := by decide +kernel
theorem dX2_bestHorse_34 : decode cX2_bestHorse 34 = .ok (.iload_n 2, 1) := by decide +kernel
theorem dX2_bestHorse_35 : decode cX2_bestHorse 35 = .ok (.invokevirtual 103, 3) := by decide +kernel
theorem dX2_bestHorse_38 : decode cX2_bestHorse 38 = .ok (.ifCond .ne 27, 3) := by decide +kernel
theorem dX2_bestHorse_41 : decode cX2_bestHorse 41 = .ok (.iload 5, 2) := by decide +kernel
theorem dX2_bestHorse_43 : decode cX2_bestHorse 43 = .ok (.bipush (-5), 2) := by decide +kernel
theorem dX2_bestHorse_45 : decode cX2_bestHorse 45 = .ok (.if_icmp .eq 16, 3) := by decide +kernel
theorem dX2_bestHorse_48 : decode cX2_bestHorse 48 = .ok (.aload_n 0, 1) := by decide +kernel
theorem dX2_bestHorse_49 : decode cX2_bestHorse 49 = .ok (.iload 6, 2) := by decide +kernel
theorem dX2_bestHorse_51 : decode cX2_bestHorse 51 = .ok (.iload 5, 2) := by decide +kernel
theorem dX2_bestHorse_53 : decode cX2_bestHorse 53 = .ok (.iload 4, 2) := by decide +kernel
theorem dX2_bestHorse_55 : decode cX2_bestHorse 55 = .ok (.invokevirtual 107, 3) := by decide +kernel
theorem dX2_bestHorse_58 : decode cX2_bestHorse 58 = .ok (.ifCond .eq 7, 3) := by decide +kernel
theorem dX2_bestHorse_61 : decode cX2_bestHorse 61 = .ok (.iload 6, 2) := by decide +kernel
theorem dX2_bestHorse_63 : decode cX2_bestHorse 63 = .ok (.istore 5, 2) := by decide +kernel
theorem dX2_bestHorse_65 : decode cX2_bestHorse 65 = .ok (.iinc 6 1, 3) := by decide +kernel
theorem dX2_bestHorse_68 : decode cX2_bestHorse 68 = .ok (.goto (-54), 3) := by decide +kernel
theorem dX2_bestHorse_71 : decode cX2_bestHorse 71 = .ok (.iload 5, 2) := by decide +kernel
theorem dX2_bestHorse_73 : decode cX2_bestHorse 73 = .ok (.ireturn, 1) := by decide +kernel
theorem dX2_isBetter_0 : decode cX2_isBetter 0 = .ok (.aload_n 0, 1) := by decide +kernel
theorem dX2_isBetter_1 : decode cX2_isBetter 1 = .ok (.getfield 20, 3) := by decide +kernel
theorem dX2_isBetter_4 : decode cX2_isBetter 4 = .ok (.iconst 1, 1) := by decide +kernel
theorem dX2_isBetter_5 : decode cX2_isBetter 5 = .ok (.iload_n 1, 1) := by decide +kernel
theorem dX2_isBetter_6 : decode cX2_isBetter 6 = .ok (.invokevirtual 58, 3) := by decide +kernel
theorem dX2_isBetter_9 : decode cX2_isBetter 9 = .ok (.iload_n 3, 1) := by decide +kernel
theorem dX2_isBetter_10 : decode cX2_isBetter 10 = .ok (.if_icmp .gt 7, 3) := by decide +kernel
theorem dX2_isBetter_13 : decode cX2_isBetter 13 = .ok (.iconst 1, 1) := by decide +kernel
theorem dX2_isBetter_14 : decode cX2_isBetter 14 = .ok (.goto 4, 3) := by decide +kernel
theorem dX2_isBetter_17 : decode cX2_isBetter 17 = .ok (.iconst 0, 1) := by decide +kernel
theorem dX2_isBetter_18 : decode cX2_isBetter 18 = .ok (.istore 4, 2) := by decide +kernel
theorem dX2_isBetter_20 : decode cX2_isBetter 20 = .ok (.aload_n 0, 1) := by decide +kernel
theorem dX2_isBetter_21 : decode cX2_isBetter 21 = .ok (.getfield 20, 3) := by decide +kernel
theorem dX2_isBetter_24 : decode cX2_isBetter 24 = .ok (.iconst 1, 1) := by decide +kernel
theorem dX2_isBetter_25 : decode cX2_isBetter 25 = .ok (.iload_n 2, 1) := by decide +kernel
theorem dX2_isBetter_26 : decode cX2_isBetter 26 = .ok (.invokevirtual 58, 3) := by decide +kernel
theorem dX2_isBetter_29 : decode cX2_isBetter 29 = .ok (.iload_n 3, 1) := by decide +kernel
theorem dX2_isBetter_30 : decode cX2_isBetter 30 = .ok (.if_icmp .gt 7, 3) := by decide +kernel
theorem dX2_isBetter_33 : decode cX2_isBetter 33 = .ok (.iconst 1, 1) := by decide +kernel
theorem dX2_isBetter_34 : decode cX2_isBetter 34 = .ok (.goto 4, 3) := by decide +kernel
theorem dX2_isBetter_37 : decode cX2_isBetter 37 = .ok (.iconst 0, 1) := by decide +kernel
theorem dX2_isBetter_38 : decode cX2_isBetter 38 = .ok (.istore 5, 2) := by decide +kernel
theorem dX2_isBetter_40 : decode cX2_isBetter 40 = .ok (.iload 4, 2) := by decide +kernel
theorem dX2_isBetter_42 : decode cX2_isBetter 42 = .ok (.iload 5, 2) := by decide +kernel
theorem dX2_isBetter_44 : decode cX2_isBetter 44 = .ok (.if_icmp .eq 6, 3) := by decide +kernel
theorem dX2_isBetter_47 : decode cX2_isBetter 47 = .ok (.iload 4, 2) := by decide +kernel
theorem dX2_isBetter_49 : decode cX2_isBetter 49 = .ok (.ireturn, 1) := by decide +kernel
theorem dX2_isBetter_50 : decode cX2_isBetter 50 = .ok (.aload_n 0, 1) := by decide +kernel
theorem dX2_isBetter_51 : decode cX2_isBetter 51 = .ok (.getfield 20, 3) := by decide +kernel
theorem dX2_isBetter_54 : decode cX2_isBetter 54 = .ok (.iconst 2, 1) := by decide +kernel
theorem dX2_isBetter_55 : decode cX2_isBetter 55 = .ok (.iload_n 1, 1) := by decide +kernel
theorem dX2_isBetter_56 : decode cX2_isBetter 56 = .ok (.invokevirtual 58, 3) := by decide +kernel
theorem dX2_isBetter_59 : decode cX2_isBetter 59 = .ok (.aload_n 0, 1) := by decide +kernel
theorem dX2_isBetter_60 : decode cX2_isBetter 60 = .ok (.getfield 20, 3) := by decide +kernel
theorem dX2_isBetter_63 : decode cX2_isBetter 63 = .ok (.iconst 2, 1) := by decide +kernel
theorem dX2_isBetter_64 : decode cX2_isBetter 64 = .ok (.iload_n 2, 1) := by decide +kernel
theorem dX2_isBetter_65 : decode cX2_isBetter 65 = .ok (.invokevirtual 58, 3) := by decide +kernel
theorem dX2_isBetter_68 : decode cX2_isBetter 68 = .ok (.isub, 1) := by decide +kernel
theorem dX2_isBetter_69 : decode cX2_isBetter 69 = .ok (.istore 6, 2) := by decide +kernel
theorem dX2_isBetter_71 : decode cX2_isBetter 71 = .ok (.aload_n 0, 1) := by decide +kernel
theorem dX2_isBetter_72 : decode cX2_isBetter 72 = .ok (.getfield 20, 3) := by decide +kernel
theorem dX2_isBetter_75 : decode cX2_isBetter 75 = .ok (.iconst 0, 1) := by decide +kernel
theorem dX2_isBetter_76 : decode cX2_isBetter 76 = .ok (.iload_n 1, 1) := by decide +kernel
theorem dX2_isBetter_77 : decode cX2_isBetter 77 = .ok (.invokevirtual 58, 3) := by decide +kernel
theorem dX2_isBetter_80 : decode cX2_isBetter 80 = .ok (.aload_n 0, 1) := by decide +kernel
theorem dX2_isBetter_81 : decode cX2_isBetter 81 = .ok (.getfield 20, 3) := by decide +kernel
theorem dX2_isBetter_84 : decode cX2_isBetter 84 = .ok (.iconst 0, 1) := by decide +kernel
theorem dX2_isBetter_85 : decode cX2_isBetter 85 = .ok (.iload_n 2, 1) := by decide +kernel
theorem dX2_isBetter_86 : decode cX2_isBetter 86 = .ok (.invokevirtual 58, 3) := by decide +kernel
theorem dX2_isBetter_89 : decode cX2_isBetter 89 = .ok (.isub, 1) := by decide +kernel
theorem dX2_isBetter_90 : decode cX2_isBetter 90 = .ok (.istore 7, 2) := by decide +kernel
theorem dX2_isBetter_92 : decode cX2_isBetter 92 = .ok (.iload 6, 2) := by decide +kernel
theorem dX2_isBetter_94 : decode cX2_isBetter 94 = .ok (.ifCond .lt 13, 3) := by decide +kernel
theorem dX2_isBetter_97 : decode cX2_isBetter 97 = .ok (.iload 6, 2) := by decide +kernel
theorem dX2_isBetter_99 : decode cX2_isBetter 99 = .ok (.ifCond .ne 12, 3) := by decide +kernel
theorem dX2_isBetter_102 : decode cX2_isBetter 102 = .ok (.iload 7, 2) := by decide +kernel
theorem dX2_isBetter_104 : decode cX2_isBetter 104 = .ok (.ifCond .ge 7, 3) := by decide +kernel
theorem dX2_isBetter_107 : decode cX2_isBetter 107 = .ok (.iconst 1, 1) := by decide +kernel
theorem dX2_isBetter_108 : decode cX2_isBetter 108 = .ok (.goto 4, 3) := by decide +kernel
theorem dX2_isBetter_111 : decode cX2_isBetter 111 = .ok (.iconst 0, 1) := by decide +kernel
theorem dX2_isBetter_112 : decode cX2_isBetter 112 = .ok (.ireturn, 1) := by decide +kernel
theorem dX2_passHour_0 : decode cX2_passHour 0 = .ok (.aload_n 0, 1) := by decide +kernel
theorem dX2_passHour_1 : decode cX2_passHour 1 = .ok (.invokevirtual 110, 3) := by decide +kernel
theorem dX2_passHour_4 : decode cX2_passHour 4 = .ok (.istore_n 2, 1) := by decide +kernel
theorem dX2_passHour_5 : decode cX2_passHour 5 = .ok (.iload_n 1, 1) := by decide +kernel
theorem dX2_passHour_6 : decode cX2_passHour 6 = .ok (.ifCond .eq 11, 3) := by decide +kernel
theorem dX2_passHour_9 : decode cX2_passHour 9 = .ok (.aload_n 0, 1) := by decide +kernel
theorem dX2_passHour_10 : decode cX2_passHour 10 = .ok (.iload_n 2, 1) := by decide +kernel
theorem dX2_passHour_11 : decode cX2_passHour 11 = .ok (.invokevirtual 114, 3) := by decide +kernel
theorem dX2_passHour_14 : decode cX2_passHour 14 = .ok (.goto 4, 3) := by decide +kernel
theorem dX2_passHour_17 : decode cX2_passHour 17 = .ok (.iconst 0, 1) := by decide +kernel
theorem dX2_passHour_18 : decode cX2_passHour 18 = .ok (.istore_n 3, 1) := by decide +kernel
theorem dX2_passHour_19 : decode cX2_passHour 19 = .ok (.iconst 0, 1) := by decide +kernel
theorem dX2_passHour_20 : decode cX2_passHour 20 = .ok (.istore 4, 2) := by decide +kernel
theorem dX2_passHour_22 : decode cX2_passHour 22 = .ok (.iload 4, 2) := by decide +kernel
theorem dX2_passHour_24 : decode cX2_passHour 24 = .ok (.bipush 10, 2) := by decide +kernel
theorem dX2_passHour_26 : decode cX2_passHour 26 = .ok (.if_icmp .ge 90, 3) := by decide +kernel
theorem dX2_passHour_29 : decode cX2_passHour 29 = .ok (.iload_n 3, 1) := by decide +kernel
theorem dX2_passHour_30 : decode cX2_passHour 30 = .ok (.iload 4, 2) := by decide +kernel
theorem dX2_passHour_32 : decode cX2_passHour 32 = .ok (.ishr, 1) := by decide +kernel
theorem dX2_passHour_33 : decode cX2_passHour 33 = .ok (.iconst 1, 1) := by decide +kernel
theorem dX2_passHour_34 : decode cX2_passHour 34 = .ok (.iand, 1) := by decide +kernel
theorem dX2_passHour_35 : decode cX2_passHour 35 = .ok (.iconst 1, 1) := by decide +kernel
theorem dX2_passHour_36 : decode cX2_passHour 36 = .ok (.if_icmp .ne 28, 3) := by decide +kernel
theorem dX2_passHour_39 : decode cX2_passHour 39 = .ok (.aload_n 0, 1) := by decide +kernel
theorem dX2_passHour_40 : decode cX2_passHour 40 = .ok (.getfield 20, 3) := by decide +kernel
theorem dX2_passHour_43 : decode cX2_passHour 43 = .ok (.iconst 2, 1) := by decide +kernel
theorem dX2_passHour_44 : decode cX2_passHour 44 = .ok (.iload 4, 2) := by decide +kernel
theorem dX2_passHour_46 : decode cX2_passHour 46 = .ok (.iconst 1, 1) := by decide +kernel
theorem dX2_passHour_47 : decode cX2_passHour 47 = .ok (.invokevirtual 117, 3) := by decide +kernel
theorem dX2_passHour_50 : decode cX2_passHour 50 = .ok (.aload_n 0, 1) := by decide +kernel
theorem dX2_passHour_51 : decode cX2_passHour 51 = .ok (.getfield 20, 3) := by decide +kernel
theorem dX2_passHour_54 : decode cX2_passHour 54 = .ok (.iconst 3, 1) := by decide +kernel
theorem dX2_passHour_55 : decode cX2_passHour 55 = .ok (.iload 4, 2) := by decide +kernel
theorem dX2_passHour_57 : decode cX2_passHour 57 = .ok (.iconst 1, 1) := by decide +kernel
theorem dX2_passHour_58 : decode cX2_passHour 58 = .ok (.invokevirtual 117, 3) := by decide +kernel
theorem dX2_passHour_61 : decode cX2_passHour 61 = .ok (.goto 25, 3) := by decide +kernel
theorem dX2_passHour_64 : decode cX2_passHour 64 = .ok (.aload_n 0, 1) := by decide +kernel
theorem dX2_passHour_65 : decode cX2_passHour 65 = .ok (.getfield 20, 3) := by decide +kernel
theorem dX2_passHour_68 : decode cX2_passHour 68 = .ok (.iconst 2, 1) := by decide +kernel
theorem dX2_passHour_69 : decode cX2_passHour 69 = .ok (.iload 4, 2) := by decide +kernel
theorem dX2_passHour_71 : decode cX2_passHour 71 = .ok (.iconst 1, 1) := by decide +kernel
theorem dX2_passHour_72 : decode cX2_passHour 72 = .ok (.invokevirtual 120, 3) := by decide +kernel
theorem dX2_passHour_75 : decode cX2_passHour 75 = .ok (.aload_n 0, 1) := by decide +kernel
theorem dX2_passHour_76 : decode cX2_passHour 76 = .ok (.getfield 20, 3) := by decide +kernel
theorem dX2_passHour_79 : decode cX2_passHour 79 = .ok (.iconst 5, 1) := by decide +kernel
theorem dX2_passHour_80 : decode cX2_passHour 80 = .ok (.iload 4, 2) := by decide +kernel
theorem dX2_passHour_82 : decode cX2_passHour 82 = .ok (.iconst 1, 1) := by decide +kernel
theorem dX2_passHour_83 : decode cX2_passHour 83 = .ok (.invokevirtual 120, 3) := by decide +kernel
theorem dX2_passHour_86 : decode cX2_passHour 86 = .ok (.aload_n 0, 1) := by decide +kernel
theorem dX2_passHour_87 : decode cX2_passHour 87 = .ok (.getfield 44, 3) := by decide +kernel
theorem dX2_passHour_90 : decode cX2_passHour 90 = .ok (.bipush 10, 2) := by decide +kernel
theorem dX2_passHour_92 : decode cX2_passHour 92 = .ok (.irem, 1) := by decide +kernel
theorem dX2_passHour_93 : decode cX2_passHour 93 = .ok (.bipush 9, 2) := by decide +kernel
theorem dX2_passHour_95 : decode cX2_passHour 95 = .ok (.if_icmp .ne 15, 3) := by decide +kernel
theorem dX2_passHour_98 : decode cX2_passHour 98 = .ok (.aload_n 0, 1) := by decide +kernel
theorem dX2_passHour_99 : decode cX2_passHour 99 = .ok (.getfield 20, 3) := by decide +kernel
theorem dX2_passHour_102 : decode cX2_passHour 102 = .ok (.iconst 2, 1) := by decide +kernel
theorem dX2_passHour_103 : decode cX2_passHour 103 = .ok (.iload 4, 2) := by decide +kernel
theorem dX2_passHour_105 : decode cX2_passHour 105 = .ok (.bipush 8, 2) := by decide +kernel
theorem dX2_passHour_107 : decode cX2_passHour 107 = .ok (.invokevirtual 120, 3) := by decide +kernel
theorem dX2_passHour_110 : decode cX2_passHour 110 = .ok (.iinc 4 1, 3) := by decide +kernel
theorem dX2_passHour_113 : decode cX2_passHour 113 = .ok (.goto (-91), 3) := by decide +kernel
theorem dX2_passHour_116 : decode cX2_passHour 116 = .ok (.iload_n 2, 1) := by decide +kernel
theorem dX2_passHour_117 : decode cX2_passHour 117 = .ok (.bipush (-5), 2) := by decide +kernel
theorem dX2_passHour_119 : decode cX2_passHour 119 = .ok (.if_icmp .eq 24, 3) := by decide +kernel
theorem dX2_passHour_122 : decode cX2_passHour 122 = .ok (.aload_n 0, 1) := by decide +kernel
theorem dX2_passHour_123 : decode cX2_passHour 123 = .ok (.getfield 20, 3) := by decide +kernel
theorem dX2_passHour_126 : decode cX2_passHour 126 = .ok (.iconst 3, 1) := by decide +kernel
theorem dX2_passHour_127 : decode cX2_passHour 127 = .ok (.iload_n 2, 1) := by decide +kernel
theorem dX2_passHour_128 : decode cX2_passHour 128 = .ok (.iconst 0, 1) := by decide +kernel
