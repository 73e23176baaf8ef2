theorem dX5_takenIn_61 : decode cX5_takenIn 61 = .ok (.getfield 16, 3) := by decide +kernel
theorem dX5_takenIn_64 : decode cX5_takenIn 64 = .ok (.iload_n 1, 1) := by decide +kernel
theorem dX5_takenIn_65 : decode cX5_takenIn 65 = .ok (.iload_n 2, 1) := by decide +kernel
theorem dX5_takenIn_66 : decode cX5_takenIn 66 = .ok (.aload_n 0, 1) := by decide +kernel
theorem dX5_takenIn_67 : decode cX5_takenIn 67 = .ok (.getfield 16, 3) := by decide +kernel
theorem dX5_takenIn_70 : decode cX5_takenIn 70 = .ok (.invokevirtual 171, 3) := by decide +kernel
theorem dX5_takenIn_73 : decode cX5_takenIn 73 = .ok (.invokevirtual 174, 3) := by decide +kernel
theorem dX5_takenIn_76 : decode cX5_takenIn 76 = .ok (.ifCond .ne 5, 3) := by decide +kernel
theorem dX5_takenIn_79 : decode cX5_takenIn 79 = .ok (.iload_n 3, 1) := by decide +kernel
theorem dX5_takenIn_80 : decode cX5_takenIn 80 = .ok (.ireturn, 1) := by decide +kernel
theorem dX5_takenIn_81 : decode cX5_takenIn 81 = .ok (.aload_n 0, 1) := by decide +kernel
theorem dX5_takenIn_82 : decode cX5_takenIn 82 = .ok (.getfield 16, 3) := by decide +kernel
theorem dX5_takenIn_85 : decode cX5_takenIn 85 = .ok (.iconst 0, 1) := by decide +kernel
theorem dX5_takenIn_86 : decode cX5_takenIn 86 = .ok (.invokevirtual 121, 3) := by decide +kernel
theorem dX5_takenIn_89 : decode cX5_takenIn 89 = .ok (.iinc 3 1, 3) := by decide +kernel
theorem dX5_takenIn_92 : decode cX5_takenIn 92 = .ok (.goto (-39), 3) := by decide +kernel
theorem dX5_takenIn_95 : decode cX5_takenIn 95 = .ok (.bipush (-5), 2) := by decide +kernel
theorem dX5_takenIn_97 : decode cX5_takenIn 97 = .ok (.ireturn, 1) := by decide +kernel
theorem dX5_busiest_0 : decode cX5_busiest 0 = .ok (.iconst 0, 1) := by decide +kernel
theorem dX5_busiest_1 : decode cX5_busiest 1 = .ok (.istore_n 1, 1) := by decide +kernel
theorem dX5_busiest_2 : decode cX5_busiest 2 = .ok (.bipush (-5), 2) := by decide +kernel
theorem dX5_busiest_4 : decode cX5_busiest 4 = .ok (.istore_n 2, 1) := by decide +kernel
theorem dX5_busiest_5 : decode cX5_busiest 5 = .ok (.iconst 0, 1) := by decide +kernel
theorem dX5_busiest_6 : decode cX5_busiest 6 = .ok (.istore_n 3, 1) := by decide +kernel
theorem dX5_busiest_7 : decode cX5_busiest 7 = .ok (.iload_n 3, 1) := by decide +kernel
theorem dX5_busiest_8 : decode cX5_busiest 8 = .ok (.bipush 99, 2) := by decide +kernel
theorem dX5_busiest_10 : decode cX5_busiest 10 = .ok (.if_icmp .gt 30, 3) := by decide +kernel
theorem dX5_busiest_13 : decode cX5_busiest 13 = .ok (.aload_n 0, 1) := by decide +kernel
theorem dX5_busiest_14 : decode cX5_busiest 14 = .ok (.getfield 10, 3) := by decide +kernel
theorem dX5_busiest_17 : decode cX5_busiest 17 = .ok (.iload_n 3, 1) := by decide +kernel
theorem dX5_busiest_18 : decode cX5_busiest 18 = .ok (.invokevirtual 189, 3) := by decide +kernel
theorem dX5_busiest_21 : decode cX5_busiest 21 = .ok (.istore 4, 2) := by decide +kernel
theorem dX5_busiest_23 : decode cX5_busiest 23 = .ok (.iload 4, 2) := by decide +kernel
theorem dX5_busiest_25 : decode cX5_busiest 25 = .ok (.iload_n 1, 1) := by decide +kernel
theorem dX5_busiest_26 : decode cX5_busiest 26 = .ok (.if_icmp .le 8, 3) := by decide +kernel
theorem dX5_busiest_29 : decode cX5_busiest 29 = .ok (.iload 4, 2) := by decide +kernel
theorem dX5_busiest_31 : decode cX5_busiest 31 = .ok (.istore_n 1, 1) := by decide +kernel
theorem dX5_busiest_32 : decode cX5_busiest 32 = .ok (.iload_n 3, 1) := by decide +kernel
theorem dX5_busiest_33 : decode cX5_busiest 33 = .ok (.istore_n 2, 1) := by decide +kernel
theorem dX5_busiest_34 : decode cX5_busiest 34 = .ok (.iinc 3 1, 3) := by decide +kernel
theorem dX5_busiest_37 : decode cX5_busiest 37 = .ok (.goto (-30), 3) := by decide +kernel
theorem dX5_busiest_40 : decode cX5_busiest 40 = .ok (.iload_n 2, 1) := by decide +kernel
theorem dX5_busiest_41 : decode cX5_busiest 41 = .ok (.ireturn, 1) := by decide +kernel
theorem dX5_count_0 : decode cX5_count 0 = .ok (.iload_n 1, 1) := by decide +kernel
theorem dX5_count_1 : decode cX5_count 1 = .ok (.tableswitch 236 0 18 #[91, 99, 110, 121, 129, 139, 147, 157, 165, 175, 184, 200, 208, 208, 208, 208, 208, 220, 228], 91) := by decide +kernel
theorem dX5_count_92 : decode cX5_count 92 = .ok (.aload_n 0, 1) := by decide +kernel
theorem dX5_count_93 : decode cX5_count 93 = .ok (.getfield 10, 3) := by decide +kernel
theorem dX5_count_96 : decode cX5_count 96 = .ok (.invokevirtual 114, 3) := by decide +kernel
theorem dX5_count_99 : decode cX5_count 99 = .ok (.ireturn, 1) := by decide +kernel
theorem dX5_count_100 : decode cX5_count 100 = .ok (.aload_n 0, 1) := by decide +kernel
theorem dX5_count_101 : decode cX5_count 101 = .ok (.getfield 10, 3) := by decide +kernel
theorem dX5_count_104 : decode cX5_count 104 = .ok (.invokevirtual 114, 3) := by decide +kernel
theorem dX5_count_107 : decode cX5_count 107 = .ok (.bipush 10, 2) := by decide +kernel
theorem dX5_count_109 : decode cX5_count 109 = .ok (.idiv, 1) := by decide +kernel
theorem dX5_count_110 : decode cX5_count 110 = .ok (.ireturn, 1) := by decide +kernel
theorem dX5_count_111 : decode cX5_count 111 = .ok (.aload_n 0, 1) := by decide +kernel
theorem dX5_count_112 : decode cX5_count 112 = .ok (.getfield 10, 3) := by decide +kernel
theorem dX5_count_115 : decode cX5_count 115 = .ok (.invokevirtual 114, 3) := by decide +kernel
theorem dX5_count_118 : decode cX5_count 118 = .ok (.bipush 10, 2) := by decide +kernel
theorem dX5_count_120 : decode cX5_count 120 = .ok (.irem, 1) := by decide +kernel
theorem dX5_count_121 : decode cX5_count 121 = .ok (.ireturn, 1) := by decide +kernel
theorem dX5_count_122 : decode cX5_count 122 = .ok (.aload_n 0, 1) := by decide +kernel
theorem dX5_count_123 : decode cX5_count 123 = .ok (.getfield 10, 3) := by decide +kernel
theorem dX5_count_126 : decode cX5_count 126 = .ok (.invokevirtual 192, 3) := by decide +kernel
theorem dX5_count_129 : decode cX5_count 129 = .ok (.ireturn, 1) := by decide +kernel
theorem dX5_count_130 : decode cX5_count 130 = .ok (.aload_n 0, 1) := by decide +kernel
theorem dX5_count_131 : decode cX5_count 131 = .ok (.getfield 10, 3) := by decide +kernel
theorem dX5_count_134 : decode cX5_count 134 = .ok (.bipush 6, 2) := by decide +kernel
theorem dX5_count_136 : decode cX5_count 136 = .ok (.invokevirtual 118, 3) := by decide +kernel
theorem dX5_count_139 : decode cX5_count 139 = .ok (.ireturn, 1) := by decide +kernel
theorem dX5_count_140 : decode cX5_count 140 = .ok (.aload_n 0, 1) := by decide +kernel
theorem dX5_count_141 : decode cX5_count 141 = .ok (.getfield 10, 3) := by decide +kernel
theorem dX5_count_144 : decode cX5_count 144 = .ok (.invokevirtual 183, 3) := by decide +kernel
theorem dX5_count_147 : decode cX5_count 147 = .ok (.ireturn, 1) := by decide +kernel
theorem dX5_count_148 : decode cX5_count 148 = .ok (.aload_n 0, 1) := by decide +kernel
theorem dX5_count_149 : decode cX5_count 149 = .ok (.getfield 10, 3) := by decide +kernel
theorem dX5_count_152 : decode cX5_count 152 = .ok (.bipush 7, 2) := by decide +kernel
theorem dX5_count_154 : decode cX5_count 154 = .ok (.invokevirtual 180, 3) := by decide +kernel
theorem dX5_count_157 : decode cX5_count 157 = .ok (.ireturn, 1) := by decide +kernel
theorem dX5_count_158 : decode cX5_count 158 = .ok (.aload_n 0, 1) := by decide +kernel
theorem dX5_count_159 : decode cX5_count 159 = .ok (.getfield 10, 3) := by decide +kernel
theorem dX5_count_162 : decode cX5_count 162 = .ok (.invokevirtual 186, 3) := by decide +kernel
theorem dX5_count_165 : decode cX5_count 165 = .ok (.ireturn, 1) := by decide +kernel
theorem dX5_count_166 : decode cX5_count 166 = .ok (.aload_n 0, 1) := by decide +kernel
theorem dX5_count_167 : decode cX5_count 167 = .ok (.getfield 10, 3) := by decide +kernel
theorem dX5_count_170 : decode cX5_count 170 = .ok (.bipush 8, 2) := by decide +kernel
theorem dX5_count_172 : decode cX5_count 172 = .ok (.invokevirtual 118, 3) := by decide +kernel
theorem dX5_count_175 : decode cX5_count 175 = .ok (.ireturn, 1) := by decide +kernel
theorem dX5_count_176 : decode cX5_count 176 = .ok (.aload_n 0, 1) := by decide +kernel
theorem dX5_count_177 : decode cX5_count 177 = .ok (.getfield 10, 3) := by decide +kernel
theorem dX5_count_180 : decode cX5_count 180 = .ok (.iconst 2, 1) := by decide +kernel
theorem dX5_count_181 : decode cX5_count 181 = .ok (.invokevirtual 118, 3) := by decide +kernel
theorem dX5_count_184 : decode cX5_count 184 = .ok (.ireturn, 1) := by decide +kernel
theorem dX5_count_185 : decode cX5_count 185 = .ok (.aload_n 0, 1) := by decide +kernel
theorem dX5_count_186 : decode cX5_count 186 = .ok (.getfield 10, 3) := by decide +kernel
theorem dX5_count_189 : decode cX5_count 189 = .ok (.invokevirtual 195, 3) := by decide +kernel
theorem dX5_count_192 : decode cX5_count 192 = .ok (.ifCond .eq 7, 3) := by decide +kernel
theorem dX5_count_195 : decode cX5_count 195 = .ok (.iconst 1, 1) := by decide +kernel
theorem dX5_count_196 : decode cX5_count 196 = .ok (.goto 4, 3) := by decide +kernel
theorem dX5_count_199 : decode cX5_count 199 = .ok (.iconst 0, 1) := by decide +kernel
theorem dX5_count_200 : decode cX5_count 200 = .ok (.ireturn, 1) := by decide +kernel
theorem dX5_count_201 : decode cX5_count 201 = .ok (.aload_n 0, 1) := by decide +kernel
theorem dX5_count_202 : decode cX5_count 202 = .ok (.getfield 10, 3) := by decide +kernel
theorem dX5_count_205 : decode cX5_count 205 = .ok (.invokevirtual 171, 3) := by decide +kernel
theorem dX5_count_208 : decode cX5_count 208 = .ok (.ireturn, 1) := by decide +kernel
theorem dX5_count_209 : decode cX5_count 209 = .ok (.aload_n 0, 1) := by decide +kernel
theorem dX5_count_210 : decode cX5_count 210 = .ok (.getfield 10, 3) := by decide +kernel
theorem dX5_count_213 : decode cX5_count 213 = .ok (.iload_n 1, 1) := by decide +kernel
theorem dX5_count_214 : decode cX5_count 214 = .ok (.bipush 12, 2) := by decide +kernel
theorem dX5_count_216 : decode cX5_count 216 = .ok (.isub, 1) := by decide +kernel
theorem dX5_count_217 : decode cX5_count 217 = .ok (.invokevirtual 83, 3) := by decide +kernel
theorem dX5_count_220 : decode cX5_count 220 = .ok (.ireturn, 1) := by decide +kernel
theorem dX5_count_221 : decode cX5_count 221 = .ok (.aload_n 0, 1) := by decide +kernel
theorem dX5_count_222 : decode cX5_count 222 = .ok (.getfield 25, 3) := by decide +kernel
theorem dX5_count_225 : decode cX5_count 225 = .ok (.invokevirtual 154, 3) := by decide +kernel
theorem dX5_count_228 : decode cX5_count 228 = .ok (.ireturn, 1) := by decide +kernel
theorem dX5_count_229 : decode cX5_count 229 = .ok (.aload_n 0, 1) := by decide +kernel
theorem dX5_count_230 : decode cX5_count 230 = .ok (.getfield 32, 3) := by decide +kernel
theorem dX5_count_233 : decode cX5_count 233 = .ok (.invokevirtual 129, 3) := by decide +kernel
theorem dX5_count_236 : decode cX5_count 236 = .ok (.ireturn, 1) := by decide +kernel
theorem dX5_count_237 : decode cX5_count 237 = .ok (.bipush (-2), 2) := by decide +kernel
theorem dX5_count_239 : decode cX5_count 239 = .ok (.ireturn, 1) := by decide +kernel
theorem dX5_isOutside_0 : decode cX5_isOutside 0 = .ok (.iload_n 0, 1) := by decide +kernel
theorem dX5_isOutside_1 : decode cX5_isOutside 1 = .ok (.iload_n 1, 1) := by decide +kernel
theorem dX5_isOutside_2 : decode cX5_isOutside 2 = .ok (.if_icmp .lt 8, 3) := by decide +kernel
theorem dX5_isOutside_5 : decode cX5_isOutside 5 = .ok (.iload_n 0, 1) := by decide +kernel
theorem dX5_isOutside_6 : decode cX5_isOutside 6 = .ok (.iload_n 2, 1) := by decide +kernel
theorem dX5_isOutside_7 : decode cX5_isOutside 7 = .ok (.if_icmp .le 7, 3) := by decide +kernel
theorem dX5_isOutside_10 : decode cX5_isOutside 10 = .ok (.iconst 1, 1) := by decide +kernel
theorem dX5_isOutside_11 : decode cX5_isOutside 11 = .ok (.goto 4, 3) := by decide +kernel
theorem dX5_isOutside_14 : decode cX5_isOutside 14 = .ok (.iconst 0, 1) := by decide +kernel
theorem dX5_isOutside_15 : decode cX5_isOutside 15 = .ok (.ireturn, 1) := by decide +kernel
theorem dX5_isNoHorse_0 : decode cX5_isNoHorse 0 = .ok (.iload_n 0, 1) := by decide +kernel
theorem dX5_isNoHorse_1 : decode cX5_isNoHorse 1 = .ok (.iconst 0, 1) := by decide +kernel
theorem dX5_isNoHorse_2 : decode cX5_isNoHorse 2 = .ok (.bipush 9, 2) := by decide +kernel
theorem dX5_isNoHorse_4 : decode cX5_isNoHorse 4 = .ok (.invokestatic 47, 3) := by decide +kernel
theorem dX5_isNoHorse_7 : decode cX5_isNoHorse 7 = .ok (.ireturn, 1) := by decide +kernel
theorem dX5_isNoRider_0 : decode cX5_isNoRider 0 = .ok (.iload_n 0, 1) := by decide +kernel
theorem dX5_isNoRider_1 : decode cX5_isNoRider 1 = .ok (.iconst 0, 1) := by decide +kernel
theorem dX5_isNoRider_2 : decode cX5_isNoRider 2 = .ok (.bipush 11, 2) := by decide +kernel
theorem dX5_isNoRider_4 : decode cX5_isNoRider 4 = .ok (.invokestatic 47, 3) := by decide +kernel
theorem dX5_isNoRider_7 : decode cX5_isNoRider 7 = .ok (.ireturn, 1) := by decide +kernel
theorem dX5_isNoRing_0 : decode cX5_isNoRing 0 = .ok (.iload_n 0, 1) := by decide +kernel
theorem dX5_isNoRing_1 : decode cX5_isNoRing 1 = .ok (.iconst 0, 1) := by decide +kernel
theorem dX5_isNoRing_2 : decode cX5_isNoRing 2 = .ok (.iconst 2, 1) := by decide +kernel
theorem dX5_isNoRing_3 : decode cX5_isNoRing 3 = .ok (.invokestatic 47, 3) := by decide +kernel
theorem dX5_isNoRing_6 : decode cX5_isNoRing 6 = .ok (.ireturn, 1) := by decide +kernel
theorem dX5_entry_0 : decode cX5_entry 0 = .ok (.iload_n 1, 1) := by decide +kernel
theorem dX5_entry_1 : decode cX5_entry 1 = .ok (.ifCond .lt 15, 3) := by decide +kernel
theorem dX5_entry_4 : decode cX5_entry 4 = .ok (.iload_n 1, 1) := by decide +kernel
theorem dX5_entry_5 : decode cX5_entry 5 = .ok (.aload_n 0, 1) := by decide +kernel
theorem dX5_entry_6 : decode cX5_entry 6 = .ok (.arraylength, 1) := by decide +kernel
theorem dX5_entry_7 : decode cX5_entry 7 = .ok (.if_icmp .ge 9, 3) := by decide +kernel
theorem dX5_entry_10 : decode cX5_entry 10 = .ok (.aload_n 0, 1) := by decide +kernel
theorem dX5_entry_11 : decode cX5_entry 11 = .ok (.iload_n 1, 1) := by decide +kernel
theorem dX5_entry_12 : decode cX5_entry 12 = .ok (.iaload, 1) := by decide +kernel
theorem dX5_entry_13 : decode cX5_entry 13 = .ok (.goto 4, 3) := by decide +kernel
theorem dX5_entry_16 : decode cX5_entry 16 = .ok (.iconst 0, 1) := by decide +kernel
theorem dX5_entry_17 : decode cX5_entry 17 = .ok (.ireturn, 1) := by decide +kernel
theorem dL_cell_0 : decode cL_cell 0 = .ok (.iload_n 1, 1) := by decide +kernel
theorem dL_cell_1 : decode cL_cell 1 = .ok (.aload_n 0, 1) := by decide +kernel
theorem dL_cell_2 : decode cL_cell 2 = .ok (.arraylength, 1) := by decide +kernel
theorem dL_cell_3 : decode cL_cell 3 = .ok (.if_icmp .ge 9, 3) := by decide +kernel
theorem dL_cell_6 : decode cL_cell 6 = .ok (.aload_n 0, 1) := by decide +kernel
theorem dL_cell_7 : decode cL_cell 7 = .ok (.iload_n 1, 1) := by decide +kernel
theorem dL_cell_8 : decode cL_cell 8 = .ok (.iaload, 1) := by decide +kernel
theorem dL_cell_9 : decode cL_cell 9 = .ok (.goto 16, 3) := by decide +kernel
theorem dL_cell_12 : decode cL_cell 12 = .ok (.sipush 7919, 3) := by decide +kernel
theorem dL_cell_15 : decode cL_cell 15 = .ok (.iload_n 1, 1) := by decide +kernel
theorem dL_cell_16 : decode cL_cell 16 = .ok (.bipush 7, 2) := by decide +kernel
theorem dL_cell_18 : decode cL_cell 18 = .ok (.iadd, 1) := by decide +kernel
theorem dL_cell_19 : decode cL_cell 19 = .ok (.imul, 1) := by decide +kernel
theorem dL_cell_20 : decode cL_cell 20 = .ok (.iload_n 1, 1) := by decide +kernel
theorem dL_cell_21 : decode cL_cell 21 = .ok (.bipush 107, 2) := by decide +kernel
theorem dL_cell_23 : decode cL_cell 23 = .ok (.iadd, 1) := by decide +kernel
theorem dL_cell_24 : decode cL_cell 24 = .ok (.imul, 1) := by decide +kernel
theorem dL_cell_25 : decode cL_cell 25 = .ok (.ireturn, 1) := by decide +kernel
theorem dL_low_0 : decode cL_low 0 = .ok (.iload_n 0, 1) := by decide +kernel
theorem dL_low_1 : decode cL_low 1 = .ok (.ldc 7, 2) := by decide +kernel
theorem dL_low_3 : decode cL_low 3 = .ok (.iand, 1) := by decide +kernel
theorem dL_low_4 : decode cL_low 4 = .ok (.iload_n 1, 1) := by decide +kernel
theorem dL_low_5 : decode cL_low 5 = .ok (.irem, 1) := by decide +kernel
theorem dL_low_6 : decode cL_low 6 = .ok (.ireturn, 1) := by decide +kernel
theorem dL_act_0 : decode cL_act 0 = .ok (.iload_n 1, 1) := by decide +kernel
theorem dL_act_1 : decode cL_act 1 = .ok (.iconst 4, 1) := by decide +kernel
theorem dL_act_2 : decode cL_act 2 = .ok (.ishr, 1) := by decide +kernel
theorem dL_act_3 : decode cL_act 3 = .ok (.istore_n 2, 1) := by decide +kernel
theorem dL_act_4 : decode cL_act 4 = .ok (.iload_n 2, 1) := by decide +kernel
theorem dL_act_5 : decode cL_act 5 = .ok (.iconst 4, 1) := by decide +kernel
theorem dL_act_6 : decode cL_act 6 = .ok (.ishr, 1) := by decide +kernel
theorem dL_act_7 : decode cL_act 7 = .ok (.iload_n 1, 1) := by decide +kernel
theorem dL_act_8 : decode cL_act 8 = .ok (.bipush 22, 2) := by decide +kernel
theorem dL_act_10 : decode cL_act 10 = .ok (.ishr, 1) := by decide +kernel
theorem dL_act_11 : decode cL_act 11 = .ok (.bipush 7, 2) := by decide +kernel
theorem dL_act_13 : decode cL_act 13 = .ok (.invokestatic 8, 3) := by decide +kernel
theorem dL_act_16 : decode cL_act 16 = .ok (.ifCond .ne 8, 3) := by decide +kernel
theorem dL_act_19 : decode cL_act 19 = .ok (.bipush 13, 2) := by decide +kernel
theorem dL_act_21 : decode cL_act 21 = .ok (.goto 5, 3) := by decide +kernel
theorem dL_act_24 : decode cL_act 24 = .ok (.bipush 12, 2) := by decide +kernel
theorem dL_act_26 : decode cL_act 26 = .ok (.invokestatic 8, 3) := by decide +kernel
theorem dL_act_29 : decode cL_act 29 = .ok (.istore_n 3, 1) := by decide +kernel
theorem dL_act_30 : decode cL_act 30 = .ok (.iload_n 1, 1) := by decide +kernel
theorem dL_act_31 : decode cL_act 31 = .ok (.bipush 16, 2) := by decide +kernel
theorem dL_act_33 : decode cL_act 33 = .ok (.invokestatic 8, 3) := by decide +kernel
theorem dL_act_36 : decode cL_act 36 = .ok (.tableswitch 197 0 10 #[60, 60, 60, 60, 60, 60, 60, 110, 121, 152, 178], 60) := by decide +kernel
theorem dL_act_96 : decode cL_act 96 = .ok (.aload_n 0, 1) := by decide +kernel
theorem dL_act_97 : decode cL_act 97 = .ok (.iload_n 2, 1) := by decide +kernel
theorem dL_act_98 : decode cL_act 98 = .ok (.iconst 2, 1) := by decide +kernel
theorem dL_act_99 : decode cL_act 99 = .ok (.ishr, 1) := by decide +kernel
theorem dL_act_100 : decode cL_act 100 = .ok (.iload_n 2, 1) := by decide +kernel
theorem dL_act_101 : decode cL_act 101 = .ok (.bipush 9, 2) := by decide +kernel
theorem dL_act_103 : decode cL_act 103 = .ok (.ishr, 1) := by decide +kernel
theorem dL_act_104 : decode cL_act 104 = .ok (.iconst 5, 1) := by decide +kernel
theorem dL_act_105 : decode cL_act 105 = .ok (.invokestatic 8, 3) := by decide +kernel
theorem dL_act_108 : decode cL_act 108 = .ok (.ifCond .ne 8, 3) := by decide +kernel
theorem dL_act_111 : decode cL_act 111 = .ok (.bipush 102, 2) := by decide +kernel
theorem dL_act_113 : decode cL_act 113 = .ok (.goto 4, 3) := by decide +kernel
theorem dL_act_116 : decode cL_act 116 = .ok (.iconst 2, 1) := by decide +kernel
theorem dL_act_117 : decode cL_act 117 = .ok (.invokestatic 8, 3) := by decide +kernel
theorem dL_act_120 : decode cL_act 120 = .ok (.iload_n 2, 1) := by decide +kernel
theorem dL_act_121 : decode cL_act 121 = .ok (.iload_n 1, 1) := by decide +kernel
theorem dL_act_122 : decode cL_act 122 = .ok (.bipush 21, 2) := by decide +kernel
theorem dL_act_124 : decode cL_act 124 = .ok (.ishr, 1) := by decide +kernel
theorem dL_act_125 : decode cL_act 125 = .ok (.bipush 7, 2) := by decide +kernel
theorem dL_act_127 : decode cL_act 127 = .ok (.invokestatic 8, 3) := by decide +kernel
theorem dL_act_130 : decode cL_act 130 = .ok (.ifCond .ne 7, 3) := by decide +kernel
theorem dL_act_133 : decode cL_act 133 = .ok (.iconst 4, 1) := by decide +kernel
theorem dL_act_134 : decode cL_act 134 = .ok (.goto 4, 3) := by decide +kernel
theorem dL_act_137 : decode cL_act 137 = .ok (.iconst 3, 1) := by decide +kernel
theorem dL_act_138 : decode cL_act 138 = .ok (.invokestatic 8, 3) := by decide +kernel
theorem dL_act_141 : decode cL_act 141 = .ok (.iload_n 3, 1) := by decide +kernel
theorem dL_act_142 : decode cL_act 142 = .ok (.invokevirtual 14, 3) := by decide +kernel
theorem dL_act_145 : decode cL_act 145 = .ok (.ireturn, 1) := by decide +kernel
theorem dL_act_146 : decode cL_act 146 = .ok (.aload_n 0, 1) := by decide +kernel
theorem dL_act_147 : decode cL_act 147 = .ok (.iload_n 2, 1) := by decide +kernel
theorem dL_act_148 : decode cL_act 148 = .ok (.iconst 3, 1) := by decide +kernel
theorem dL_act_149 : decode cL_act 149 = .ok (.invokestatic 8, 3) := by decide +kernel
theorem dL_act_152 : decode cL_act 152 = .ok (.iload_n 3, 1) := by decide +kernel
theorem dL_act_153 : decode cL_act 153 = .ok (.invokevirtual 20, 3) := by decide +kernel
theorem dL_act_156 : decode cL_act 156 = .ok (.ireturn, 1) := by decide +kernel
theorem dL_act_157 : decode cL_act 157 = .ok (.aload_n 0, 1) := by decide +kernel
theorem dL_act_158 : decode cL_act 158 = .ok (.iload_n 2, 1) := by decide +kernel
theorem dL_act_159 : decode cL_act 159 = .ok (.bipush 11, 2) := by decide +kernel
theorem dL_act_161 : decode cL_act 161 = .ok (.invokestatic 8, 3) := by decide +kernel
theorem dL_act_164 : decode cL_act 164 = .ok (.bipush 15, 2) := by decide +kernel
theorem dL_act_166 : decode cL_act 166 = .ok (.iload_n 2, 1) := by decide +kernel
theorem dL_act_167 : decode cL_act 167 = .ok (.iconst 3, 1) := by decide +kernel
theorem dL_act_168 : decode cL_act 168 = .ok (.ishr, 1) := by decide +kernel
theorem dL_act_169 : decode cL_act 169 = .ok (.sipush 140, 3) := by decide +kernel
theorem dL_act_172 : decode cL_act 172 = .ok (.invokestatic 8, 3) := by decide +kernel
theorem dL_act_175 : decode cL_act 175 = .ok (.iadd, 1) := by decide +kernel
theorem dL_act_176 : decode cL_act 176 = .ok (.iload_n 2, 1) := by decide +kernel
theorem dL_act_177 : decode cL_act 177 = .ok (.iconst 5, 1) := by decide +kernel
theorem dL_act_178 : decode cL_act 178 = .ok (.ishr, 1) := by decide +kernel
theorem dL_act_179 : decode cL_act 179 = .ok (.bipush 11, 2) := by decide +kernel
theorem dL_act_181 : decode cL_act 181 = .ok (.invokestatic 8, 3) := by decide +kernel
theorem dL_act_184 : decode cL_act 184 = .ok (.invokevirtual 23, 3) := by decide +kernel
theorem dL_act_187 : decode cL_act 187 = .ok (.ireturn, 1) := by decide +kernel
theorem dL_act_188 : decode cL_act 188 = .ok (.aload_n 0, 1) := by decide +kernel
theorem dL_act_189 : decode cL_act 189 = .ok (.iload_n 3, 1) := by decide +kernel
theorem dL_act_190 : decode cL_act 190 = .ok (.bipush 15, 2) := by decide +kernel
theorem dL_act_192 : decode cL_act 192 = .ok (.iload_n 2, 1) := by decide +kernel
theorem dL_act_193 : decode cL_act 193 = .ok (.iconst 3, 1) := by decide +kernel
theorem dL_act_194 : decode cL_act 194 = .ok (.ishr, 1) := by decide +kernel
theorem dL_act_195 : decode cL_act 195 = .ok (.bipush 120, 2) := by decide +kernel
theorem dL_act_197 : decode cL_act 197 = .ok (.invokestatic 8, 3) := by decide +kernel
theorem dL_act_200 : decode cL_act 200 = .ok (.iadd, 1) := by decide +kernel
theorem dL_act_201 : decode cL_act 201 = .ok (.iload_n 2, 1) := by decide +kernel
theorem dL_act_202 : decode cL_act 202 = .ok (.bipush 6, 2) := by decide +kernel
theorem dL_act_204 : decode cL_act 204 = .ok (.ishr, 1) := by decide +kernel
theorem dL_act_205 : decode cL_act 205 = .ok (.bipush 11, 2) := by decide +kernel
theorem dL_act_207 : decode cL_act 207 = .ok (.invokestatic 8, 3) := by decide +kernel
theorem dL_act_210 : decode cL_act 210 = .ok (.invokevirtual 26, 3) := by decide +kernel
theorem dL_act_213 : decode cL_act 213 = .ok (.ireturn, 1) := by decide +kernel
theorem dL_act_214 : decode cL_act 214 = .ok (.aload_n 0, 1) := by decide +kernel
theorem dL_act_215 : decode cL_act 215 = .ok (.iload_n 2, 1) := by decide +kernel
theorem dL_act_216 : decode cL_act 216 = .ok (.bipush 6, 2) := by decide +kernel
theorem dL_act_218 : decode cL_act 218 = .ok (.invokestatic 8, 3) := by decide +kernel
theorem dL_act_221 : decode cL_act 221 = .ok (.iload_n 2, 1) := by decide +kernel
theorem dL_act_222 : decode cL_act 222 = .ok (.iconst 4, 1) := by decide +kernel
theorem dL_act_223 : decode cL_act 223 = .ok (.ishr, 1) := by decide +kernel
theorem dL_act_224 : decode cL_act 224 = .ok (.bipush 14, 2) := by decide +kernel
theorem dL_act_226 : decode cL_act 226 = .ok (.invokestatic 8, 3) := by decide +kernel
theorem dL_act_229 : decode cL_act 229 = .ok (.invokevirtual 29, 3) := by decide +kernel
theorem dL_act_232 : decode cL_act 232 = .ok (.ireturn, 1) := by decide +kernel
theorem dL_act_233 : decode cL_act 233 = .ok (.aload_n 0, 1) := by decide +kernel
theorem dL_act_234 : decode cL_act 234 = .ok (.iload_n 2, 1) := by decide +kernel
theorem dL_act_235 : decode cL_act 235 = .ok (.iload_n 2, 1) := by decide +kernel
theorem dL_act_236 : decode cL_act 236 = .ok (.bipush 6, 2) := by decide +kernel
theorem dL_act_238 : decode cL_act 238 = .ok (.ishr, 1) := by decide +kernel
theorem dL_act_239 : decode cL_act 239 = .ok (.bipush 6, 2) := by decide +kernel
theorem dL_act_241 : decode cL_act 241 = .ok (.invokestatic 8, 3) := by decide +kernel
theorem dL_act_244 : decode cL_act 244 = .ok (.ifCond .ne 8, 3) := by decide +kernel
theorem dL_act_247 : decode cL_act 247 = .ok (.bipush 101, 2) := by decide +kernel
theorem dL_act_249 : decode cL_act 249 = .ok (.goto 4, 3) := by decide +kernel
theorem dL_act_252 : decode cL_act 252 = .ok (.iconst 4, 1) := by decide +kernel
theorem dL_act_253 : decode cL_act 253 = .ok (.invokestatic 8, 3) := by decide +kernel
theorem dL_act_256 : decode cL_act 256 = .ok (.invokevirtual 32, 3) := by decide +kernel
theorem dL_act_259 : decode cL_act 259 = .ok (.ireturn, 1) := by decide +kernel
theorem dL_areAlike_0 : decode cL_areAlike 0 = .ok (.iconst 1, 1) := by decide +kernel
theorem dL_areAlike_1 : decode cL_areAlike 1 = .ok (.istore_n 2, 1) := by decide +kernel
theorem dL_areAlike_2 : decode cL_areAlike 2 = .ok (.iconst 0, 1) := by decide +kernel
theorem dL_areAlike_3 : decode cL_areAlike 3 = .ok (.istore_n 3, 1) := by decide +kernel
theorem dL_areAlike_4 : decode cL_areAlike 4 = .ok (.iload_n 3, 1) := by decide +kernel
theorem dL_areAlike_5 : decode cL_areAlike 5 = .ok (.bipush 17, 2) := by decide +kernel
theorem dL_areAlike_7 : decode cL_areAlike 7 = .ok (.if_icmp .ge 32, 3) := by decide +kernel
theorem dL_areAlike_10 : decode cL_areAlike 10 = .ok (.iload_n 2, 1) := by decide +kernel
theorem dL_areAlike_11 : decode cL_areAlike 11 = .ok (.ifCond .eq 20, 3) := by decide +kernel
theorem dL_areAlike_14 : decode cL_areAlike 14 = .ok (.aload_n 0, 1) := by decide +kernel
theorem dL_areAlike_15 : decode cL_areAlike 15 = .ok (.iload_n 3, 1) := by decide +kernel
theorem dL_areAlike_16 : decode cL_areAlike 16 = .ok (.invokevirtual 36, 3) := by decide +kernel
theorem dL_areAlike_19 : decode cL_areAlike 19 = .ok (.aload_n 1, 1) := by decide +kernel
theorem dL_areAlike_20 : decode cL_areAlike 20 = .ok (.iload_n 3, 1) := by decide +kernel
theorem dL_areAlike_21 : decode cL_areAlike 21 = .ok (.invokevirtual 36, 3) := by decide +kernel
theorem dL_areAlike_24 : decode cL_areAlike 24 = .ok (.if_icmp .ne 7, 3) := by decide +kernel
theorem dL_areAlike_27 : decode cL_areAlike 27 = .ok (.iconst 1, 1) := by decide +kernel
theorem dL_areAlike_28 : decode cL_areAlike 28 = .ok (.goto 4, 3) := by decide +kernel
theorem dL_areAlike_31 : decode cL_areAlike 31 = .ok (.iconst 0, 1) := by decide +kernel
theorem dL_areAlike_32 : decode cL_areAlike 32 = .ok (.istore_n 2, 1) := by decide +kernel
theorem dL_areAlike_33 : decode cL_areAlike 33 = .ok (.iinc 3 1, 3) := by decide +kernel
theorem dL_areAlike_36 : decode cL_areAlike 36 = .ok (.goto (-32), 3) := by decide +kernel
theorem dL_areAlike_39 : decode cL_areAlike 39 = .ok (.iconst 0, 1) := by decide +kernel
theorem dL_areAlike_40 : decode cL_areAlike 40 = .ok (.istore_n 3, 1) := by decide +kernel
theorem dL_areAlike_41 : decode cL_areAlike 41 = .ok (.iload_n 3, 1) := by decide +kernel
theorem dL_areAlike_42 : decode cL_areAlike 42 = .ok (.bipush 90, 2) := by decide +kernel
theorem dL_areAlike_44 : decode cL_areAlike 44 = .ok (.if_icmp .ge 46, 3) := by decide +kernel
theorem dL_areAlike_47 : decode cL_areAlike 47 = .ok (.iload_n 2, 1) := by decide +kernel
theorem dL_areAlike_48 : decode cL_areAlike 48 = .ok (.ifCond .eq 34, 3) := by decide +kernel
theorem dL_areAlike_51 : decode cL_areAlike 51 = .ok (.aload_n 0, 1) := by decide +kernel
theorem dL_areAlike_52 : decode cL_areAlike 52 = .ok (.iload_n 3, 1) := by decide +kernel
theorem dL_areAlike_53 : decode cL_areAlike 53 = .ok (.bipush 9, 2) := by decide +kernel
theorem dL_areAlike_55 : decode cL_areAlike 55 = .ok (.idiv, 1) := by decide +kernel
theorem dL_areAlike_56 : decode cL_areAlike 56 = .ok (.iload_n 3, 1) := by decide +kernel
theorem dL_areAlike_57 : decode cL_areAlike 57 = .ok (.bipush 9, 2) := by decide +kernel
theorem dL_areAlike_59 : decode cL_areAlike 59 = .ok (.irem, 1) := by decide +kernel
theorem dL_areAlike_60 : decode cL_areAlike 60 = .ok (.invokevirtual 39, 3) := by decide +kernel
theorem dL_areAlike_63 : decode cL_areAlike 63 = .ok (.aload_n 1, 1) := by decide +kernel
theorem dL_areAlike_64 : decode cL_areAlike 64 = .ok (.iload_n 3, 1) := by decide +kernel
theorem dL_areAlike_65 : decode cL_areAlike 65 = .ok (.bipush 9, 2) := by decide +kernel
theorem dL_areAlike_67 : decode cL_areAlike 67 = .ok (.idiv, 1) := by decide +kernel
theorem dL_areAlike_68 : decode cL_areAlike 68 = .ok (.iload_n 3, 1) := by decide +kernel
theorem dL_areAlike_69 : decode cL_areAlike 69 = .ok (.bipush 9, 2) := by decide +kernel
theorem dL_areAlike_71 : decode cL_areAlike 71 = .ok (.irem, 1) := by decide +kernel
theorem dL_areAlike_72 : decode cL_areAlike 72 = .ok (.invokevirtual 39, 3) := by decide +kernel
theorem dL_areAlike_75 : decode cL_areAlike 75 = .ok (.if_icmp .ne 7, 3) := by decide +kernel
theorem dL_areAlike_78 : decode cL_areAlike 78 = .ok (.iconst 1, 1) := by decide +kernel
theorem dL_areAlike_79 : decode cL_areAlike 79 = .ok (.goto 4, 3) := by decide +kernel
theorem dL_areAlike_82 : decode cL_areAlike 82 = .ok (.iconst 0, 1) := by decide +kernel
theorem dL_areAlike_83 : decode cL_areAlike 83 = .ok (.istore_n 2, 1) := by decide +kernel
theorem dL_areAlike_84 : decode cL_areAlike 84 = .ok (.iinc 3 1, 3) := by decide +kernel
theorem dL_areAlike_87 : decode cL_areAlike 87 = .ok (.goto (-46), 3) := by decide +kernel
theorem dL_areAlike_90 : decode cL_areAlike 90 = .ok (.iconst 0, 1) := by decide +kernel
theorem dL_areAlike_91 : decode cL_areAlike 91 = .ok (.istore_n 3, 1) := by decide +kernel
theorem dL_areAlike_92 : decode cL_areAlike 92 = .ok (.iload_n 3, 1) := by decide +kernel
theorem dL_areAlike_93 : decode cL_areAlike 93 = .ok (.bipush 120, 2) := by decide +kernel
theorem dL_areAlike_95 : decode cL_areAlike 95 = .ok (.if_icmp .ge 46, 3) := by decide +kernel
theorem dL_areAlike_98 : decode cL_areAlike 98 = .ok (.iload_n 2, 1) := by decide +kernel
theorem dL_areAlike_99 : decode cL_areAlike 99 = .ok (.ifCond .eq 34, 3) := by decide +kernel
theorem dL_areAlike_102 : decode cL_areAlike 102 = .ok (.aload_n 0, 1) := by decide +kernel
theorem dL_areAlike_103 : decode cL_areAlike 103 = .ok (.iload_n 3, 1) := by decide +kernel
theorem dL_areAlike_104 : decode cL_areAlike 104 = .ok (.bipush 10, 2) := by decide +kernel
theorem dL_areAlike_106 : decode cL_areAlike 106 = .ok (.idiv, 1) := by decide +kernel
theorem dL_areAlike_107 : decode cL_areAlike 107 = .ok (.iload_n 3, 1) := by decide +kernel
theorem dL_areAlike_108 : decode cL_areAlike 108 = .ok (.bipush 10, 2) := by decide +kernel
theorem dL_areAlike_110 : decode cL_areAlike 110 = .ok (.irem, 1) := by decide +kernel
theorem dL_areAlike_111 : decode cL_areAlike 111 = .ok (.invokevirtual 42, 3) := by decide +kernel
theorem dL_areAlike_114 : decode cL_areAlike 114 = .ok (.aload_n 1, 1) := by decide +kernel
theorem dL_areAlike_115 : decode cL_areAlike 115 = .ok (.iload_n 3, 1) := by decide +kernel
theorem dL_areAlike_116 : decode cL_areAlike 116 = .ok (.bipush 10, 2) := by decide +kernel
theorem dL_areAlike_118 : decode cL_areAlike 118 = .ok (.idiv, 1) := by decide +kernel
theorem dL_areAlike_119 : decode cL_areAlike 119 = .ok (.iload_n 3, 1) := by decide +kernel
theorem dL_areAlike_120 : decode cL_areAlike 120 = .ok (.bipush 10, 2) := by decide +kernel
theorem dL_areAlike_122 : decode cL_areAlike 122 = .ok (.irem, 1) := by decide +kernel
theorem dL_areAlike_123 : decode cL_areAlike 123 = .ok (.invokevirtual 42, 3) := by decide +kernel
theorem dL_areAlike_126 : decode cL_areAlike 126 = .ok (.if_icmp .ne 7, 3) := by decide +kernel
theorem dL_areAlike_129 : decode cL_areAlike 129 = .ok (.iconst 1, 1) := by decide +kernel
theorem dL_areAlike_130 : decode cL_areAlike 130 = .ok (.goto 4, 3) := by decide +kernel
theorem dL_areAlike_133 : decode cL_areAlike 133 = .ok (.iconst 0, 1) := by decide +kernel
theorem dL_areAlike_134 : decode cL_areAlike 134 = .ok (.istore_n 2, 1) := by decide +kernel
theorem dL_areAlike_135 : decode cL_areAlike 135 = .ok (.iinc 3 1, 3) := by decide +kernel
theorem dL_areAlike_138 : decode cL_areAlike 138 = .ok (.goto (-46), 3) := by decide +kernel
theorem dL_areAlike_141 : decode cL_areAlike 141 = .ok (.iconst 0, 1) := by decide +kernel
theorem dL_areAlike_142 : decode cL_areAlike 142 = .ok (.istore_n 3, 1) := by decide +kernel
theorem dL_areAlike_143 : decode cL_areAlike 143 = .ok (.iload_n 3, 1) := by decide +kernel
theorem dL_areAlike_144 : decode cL_areAlike 144 = .ok (.bipush 63, 2) := by decide +kernel
theorem dL_areAlike_146 : decode cL_areAlike 146 = .ok (.if_icmp .ge 67, 3) := by decide +kernel
theorem dL_areAlike_149 : decode cL_areAlike 149 = .ok (.iload_n 2, 1) := by decide +kernel
theorem dL_areAlike_150 : decode cL_areAlike 150 = .ok (.ifCond .eq 55, 3) := by decide +kernel
theorem dL_areAlike_153 : decode cL_areAlike 153 = .ok (.aload_n 0, 1) := by decide +kernel
theorem dL_areAlike_154 : decode cL_areAlike 154 = .ok (.iload_n 3, 1) := by decide +kernel
theorem dL_areAlike_155 : decode cL_areAlike 155 = .ok (.iconst 3, 1) := by decide +kernel
theorem dL_areAlike_156 : decode cL_areAlike 156 = .ok (.idiv, 1) := by decide +kernel
theorem dL_areAlike_157 : decode cL_areAlike 157 = .ok (.iload_n 3, 1) := by decide +kernel
theorem dL_areAlike_158 : decode cL_areAlike 158 = .ok (.iconst 3, 1) := by decide +kernel
theorem dL_areAlike_159 : decode cL_areAlike 159 = .ok (.irem, 1) := by decide +kernel
theorem dL_areAlike_160 : decode cL_areAlike 160 = .ok (.invokevirtual 45, 3) := by decide +kernel
theorem dL_areAlike_163 : decode cL_areAlike 163 = .ok (.aload_n 1, 1) := by decide +kernel
theorem dL_areAlike_164 : decode cL_areAlike 164 = .ok (.iload_n 3, 1) := by decide +kernel
theorem dL_areAlike_165 : decode cL_areAlike 165 = .ok (.iconst 3, 1) := by decide +kernel
theorem dL_areAlike_166 : decode cL_areAlike 166 = .ok (.idiv, 1) := by decide +kernel
theorem dL_areAlike_167 : decode cL_areAlike 167 = .ok (.iload_n 3, 1) := by decide +kernel
theorem dL_areAlike_168 : decode cL_areAlike 168 = .ok (.iconst 3, 1) := by decide +kernel
theorem dL_areAlike_169 : decode cL_areAlike 169 = .ok (.irem, 1) := by decide +kernel
theorem dL_areAlike_170 : decode cL_areAlike 170 = .ok (.invokevirtual 45, 3) := by decide +kernel
theorem dL_areAlike_173 : decode cL_areAlike 173 = .ok (.if_icmp .ne 32, 3) := by decide +kernel
theorem dL_areAlike_176 : decode cL_areAlike 176 = .ok (.aload_n 0, 1) := by decide +kernel
theorem dL_areAlike_177 : decode cL_areAlike 177 = .ok (.iload_n 3, 1) := by decide +kernel
theorem dL_areAlike_178 : decode cL_areAlike 178 = .ok (.iconst 3, 1) := by decide +kernel
theorem dL_areAlike_179 : decode cL_areAlike 179 = .ok (.idiv, 1) := by decide +kernel
theorem dL_areAlike_180 : decode cL_areAlike 180 = .ok (.iload_n 3, 1) := by decide +kernel
theorem dL_areAlike_181 : decode cL_areAlike 181 = .ok (.iconst 3, 1) := by decide +kernel
theorem dL_areAlike_182 : decode cL_areAlike 182 = .ok (.irem, 1) := by decide +kernel
theorem dL_areAlike_183 : decode cL_areAlike 183 = .ok (.iconst 2, 1) := by decide +kernel
theorem dL_areAlike_184 : decode cL_areAlike 184 = .ok (.invokevirtual 48, 3) := by decide +kernel
theorem dL_areAlike_187 : decode cL_areAlike 187 = .ok (.aload_n 1, 1) := by decide +kernel
theorem dL_areAlike_188 : decode cL_areAlike 188 = .ok (.iload_n 3, 1) := by decide +kernel
theorem dL_areAlike_189 : decode cL_areAlike 189 = .ok (.iconst 3, 1) := by decide +kernel
theorem dL_areAlike_190 : decode cL_areAlike 190 = .ok (.idiv, 1) := by decide +kernel
theorem dL_areAlike_191 : decode cL_areAlike 191 = .ok (.iload_n 3, 1) := by decide +kernel
theorem dL_areAlike_192 : decode cL_areAlike 192 = .ok (.iconst 3, 1) := by decide +kernel
theorem dL_areAlike_193 : decode cL_areAlike 193 = .ok (.irem, 1) := by decide +kernel
theorem dL_areAlike_194 : decode cL_areAlike 194 = .ok (.iconst 2, 1) := by decide +kernel
theorem dL_areAlike_195 : decode cL_areAlike 195 = .ok (.invokevirtual 48, 3) := by decide +kernel
theorem dL_areAlike_198 : decode cL_areAlike 198 = .ok (.if_icmp .ne 7, 3) := by decide +kernel
theorem dL_areAlike_201 : decode cL_areAlike 201 = .ok (.iconst 1, 1) := by decide +kernel
theorem dL_areAlike_202 : decode cL_areAlike 202 = .ok (.goto 4, 3) := by decide +kernel
theorem dL_areAlike_205 : decode cL_areAlike 205 = .ok (.iconst 0, 1) := by decide +kernel
theorem dL_areAlike_206 : decode cL_areAlike 206 = .ok (.istore_n 2, 1) := by decide +kernel
theorem dL_areAlike_207 : decode cL_areAlike 207 = .ok (.iinc 3 1, 3) := by decide +kernel
theorem dL_areAlike_210 : decode cL_areAlike 210 = .ok (.goto (-67), 3) := by decide +kernel
theorem dL_areAlike_213 : decode cL_areAlike 213 = .ok (.iload_n 2, 1) := by decide +kernel
theorem dL_areAlike_214 : decode cL_areAlike 214 = .ok (.ireturn, 1) := by decide +kernel
theorem dL_areSums_0 : decode cL_areSums 0 = .ok (.iconst 0, 1) := by decide +kernel
theorem dL_areSums_1 : decode cL_areSums 1 = .ok (.istore_n 1, 1) := by decide +kernel
theorem dL_areSums_2 : decode cL_areSums 2 = .ok (.iconst 0, 1) := by decide +kernel
theorem dL_areSums_3 : decode cL_areSums 3 = .ok (.istore_n 2, 1) := by decide +kernel
theorem dL_areSums_4 : decode cL_areSums 4 = .ok (.iconst 0, 1) := by decide +kernel
theorem dL_areSums_5 : decode cL_areSums 5 = .ok (.istore_n 3, 1) := by decide +kernel
theorem dL_areSums_6 : decode cL_areSums 6 = .ok (.iconst 0, 1) := by decide +kernel
theorem dL_areSums_7 : decode cL_areSums 7 = .ok (.istore 4, 2) := by decide +kernel
theorem dL_areSums_9 : decode cL_areSums 9 = .ok (.iconst 0, 1) := by decide +kernel
theorem dL_areSums_10 : decode cL_areSums 10 = .ok (.istore 5, 2) := by decide +kernel
theorem dL_areSums_12 : decode cL_areSums 12 = .ok (.iconst 1, 1) := by decide +kernel
theorem dL_areSums_13 : decode cL_areSums 13 = .ok (.istore 6, 2) := by decide +kernel
theorem dL_areSums_15 : decode cL_areSums 15 = .ok (.iconst 0, 1) := by decide +kernel
theorem dL_areSums_16 : decode cL_areSums 16 = .ok (.istore 7, 2) := by decide +kernel
theorem dL_areSums_18 : decode cL_areSums 18 = .ok (.iload 7, 2) := by decide +kernel
theorem dL_areSums_20 : decode cL_areSums 20 = .ok (.bipush 10, 2) := by decide +kernel
theorem dL_areSums_22 : decode cL_areSums 22 = .ok (.if_icmp .ge 198, 3) := by decide +kernel
theorem dL_areSums_25 : decode cL_areSums 25 = .ok (.iload_n 1, 1) := by decide +kernel
theorem dL_areSums_26 : decode cL_areSums 26 = .ok (.aload_n 0, 1) := by decide +kernel
theorem dL_areSums_27 : decode cL_areSums 27 = .ok (.iload 7, 2) := by decide +kernel
theorem dL_areSums_29 : decode cL_areSums 29 = .ok (.bipush 6, 2) := by decide +kernel
theorem dL_areSums_31 : decode cL_areSums 31 = .ok (.invokevirtual 39, 3) := by decide +kernel
theorem dL_areSums_34 : decode cL_areSums 34 = .ok (.iadd, 1) := by decide +kernel
theorem dL_areSums_35 : decode cL_areSums 35 = .ok (.istore_n 1, 1) := by decide +kernel
theorem dL_areSums_36 : decode cL_areSums 36 = .ok (.iload_n 2, 1) := by decide +kernel
theorem dL_areSums_37 : decode cL_areSums 37 = .ok (.aload_n 0, 1) := by decide +kernel
theorem dL_areSums_38 : decode cL_areSums 38 = .ok (.iload 7, 2) := by decide +kernel
theorem dL_areSums_40 : decode cL_areSums 40 = .ok (.bipush 7, 2) := by decide +kernel
theorem dL_areSums_42 : decode cL_areSums 42 = .ok (.invokevirtual 39, 3) := by decide +kernel
theorem dL_areSums_45 : decode cL_areSums 45 = .ok (.iadd, 1) := by decide +kernel
theorem dL_areSums_46 : decode cL_areSums 46 = .ok (.istore_n 2, 1) := by decide +kernel
theorem dL_areSums_47 : decode cL_areSums 47 = .ok (.iload_n 3, 1) := by decide +kernel
theorem dL_areSums_48 : decode cL_areSums 48 = .ok (.aload_n 0, 1) := by decide +kernel
theorem dL_areSums_49 : decode cL_areSums 49 = .ok (.iload 7, 2) := by decide +kernel
theorem dL_areSums_51 : decode cL_areSums 51 = .ok (.bipush 8, 2) := by decide +kernel
theorem dL_areSums_53 : decode cL_areSums 53 = .ok (.invokevirtual 39, 3) := by decide +kernel
theorem dL_areSums_56 : decode cL_areSums 56 = .ok (.iadd, 1) := by decide +kernel
theorem dL_areSums_57 : decode cL_areSums 57 = .ok (.istore_n 3, 1) := by decide +kernel
theorem dL_areSums_58 : decode cL_areSums 58 = .ok (.iload 4, 2) := by decide +kernel
theorem dL_areSums_60 : decode cL_areSums 60 = .ok (.aload_n 0, 1) := by decide +kernel
theorem dL_areSums_61 : decode cL_areSums 61 = .ok (.iload 7, 2) := by decide +kernel
theorem dL_areSums_63 : decode cL_areSums 63 = .ok (.iconst 2, 1) := by decide +kernel
theorem dL_areSums_64 : decode cL_areSums 64 = .ok (.invokevirtual 39, 3) := by decide +kernel
theorem dL_areSums_67 : decode cL_areSums 67 = .ok (.iadd, 1) := by decide +kernel
theorem dL_areSums_68 : decode cL_areSums 68 = .ok (.istore 4, 2) := by decide +kernel
theorem dL_areSums_70 : decode cL_areSums 70 = .ok (.iload 5, 2) := by decide +kernel
theorem dL_areSums_72 : decode cL_areSums 72 = .ok (.aload_n 0, 1) := by decide +kernel
theorem dL_areSums_73 : decode cL_areSums 73 = .ok (.iload 7, 2) := by decide +kernel
theorem dL_areSums_75 : decode cL_areSums 75 = .ok (.iconst 5, 1) := by decide +kernel
theorem dL_areSums_76 : decode cL_areSums 76 = .ok (.invokevirtual 39, 3) := by decide +kernel
theorem dL_areSums_79 : decode cL_areSums 79 = .ok (.ifCond .le 7, 3) := by decide +kernel
theorem dL_areSums_82 : decode cL_areSums 82 = .ok (.iconst 1, 1) := by decide +kernel
theorem dL_areSums_83 : decode cL_areSums 83 = .ok (.goto 4, 3) := by decide +kernel
theorem dL_areSums_86 : decode cL_areSums 86 = .ok (.iconst 0, 1) := by decide +kernel
theorem dL_areSums_87 : decode cL_areSums 87 = .ok (.iadd, 1) := by decide +kernel
theorem dL_areSums_88 : decode cL_areSums 88 = .ok (.istore 5, 2) := by decide +kernel
theorem dL_areSums_90 : decode cL_areSums 90 = .ok (.iload 6, 2) := by decide +kernel
theorem dL_areSums_92 : decode cL_areSums 92 = .ok (.ifCond .eq 119, 3) := by decide +kernel
theorem dL_areSums_95 : decode cL_areSums 95 = .ok (.aload_n 0, 1) := by decide +kernel
theorem dL_areSums_96 : decode cL_areSums 96 = .ok (.iload 7, 2) := by decide +kernel
theorem dL_areSums_98 : decode cL_areSums 98 = .ok (.iconst 2, 1) := by decide +kernel
theorem dL_areSums_99 : decode cL_areSums 99 = .ok (.invokevirtual 39, 3) := by decide +kernel
theorem dL_areSums_102 : decode cL_areSums 102 = .ok (.ifCond .lt 109, 3) := by decide +kernel
theorem dL_areSums_105 : decode cL_areSums 105 = .ok (.aload_n 0, 1) := by decide +kernel
theorem dL_areSums_106 : decode cL_areSums 106 = .ok (.iload 7, 2) := by decide +kernel
theorem dL_areSums_108 : decode cL_areSums 108 = .ok (.iconst 2, 1) := by decide +kernel
theorem dL_areSums_109 : decode cL_areSums 109 = .ok (.invokevirtual 39, 3) := by decide +kernel
theorem dL_areSums_112 : decode cL_areSums 112 = .ok (.bipush 10, 2) := by decide +kernel
theorem dL_areSums_114 : decode cL_areSums 114 = .ok (.if_icmp .ge 97, 3) := by decide +kernel
theorem dL_areSums_117 : decode cL_areSums 117 = .ok (.aload_n 0, 1) := by decide +kernel
theorem dL_areSums_118 : decode cL_areSums 118 = .ok (.iload 7, 2) := by decide +kernel
theorem dL_areSums_120 : decode cL_areSums 120 = .ok (.iconst 3, 1) := by decide +kernel
theorem dL_areSums_121 : decode cL_areSums 121 = .ok (.invokevirtual 39, 3) := by decide +kernel
theorem dL_areSums_124 : decode cL_areSums 124 = .ok (.ifCond .lt 87, 3) := by decide +kernel
theorem dL_areSums_127 : decode cL_areSums 127 = .ok (.aload_n 0, 1) := by decide +kernel
theorem dL_areSums_128 : decode cL_areSums 128 = .ok (.iload 7, 2) := by decide +kernel
theorem dL_areSums_130 : decode cL_areSums 130 = .ok (.iconst 3, 1) := by decide +kernel
theorem dL_areSums_131 : decode cL_areSums 131 = .ok (.invokevirtual 39, 3) := by decide +kernel
theorem dL_areSums_134 : decode cL_areSums 134 = .ok (.aload_n 0, 1) := by decide +kernel
theorem dL_areSums_135 : decode cL_areSums 135 = .ok (.iload 7, 2) := by decide +kernel
theorem dL_areSums_137 : decode cL_areSums 137 = .ok (.bipush 6, 2) := by decide +kernel
theorem dL_areSums_139 : decode cL_areSums 139 = .ok (.invokevirtual 39, 3) := by decide +kernel
theorem dL_areSums_142 : decode cL_areSums 142 = .ok (.if_icmp .gt 69, 3) := by decide +kernel
theorem dL_areSums_145 : decode cL_areSums 145 = .ok (.aload_n 0, 1) := by decide +kernel
theorem dL_areSums_146 : decode cL_areSums 146 = .ok (.iload 7, 2) := by decide +kernel
theorem dL_areSums_148 : decode cL_areSums 148 = .ok (.iconst 4, 1) := by decide +kernel
theorem dL_areSums_149 : decode cL_areSums 149 = .ok (.invokevirtual 39, 3) := by decide +kernel
theorem dL_areSums_152 : decode cL_areSums 152 = .ok (.ifCond .lt 59, 3) := by decide +kernel
theorem dL_areSums_155 : decode cL_areSums 155 = .ok (.aload_n 0, 1) := by decide +kernel
theorem dL_areSums_156 : decode cL_areSums 156 = .ok (.iload 7, 2) := by decide +kernel
theorem dL_areSums_158 : decode cL_areSums 158 = .ok (.iconst 4, 1) := by decide +kernel
theorem dL_areSums_159 : decode cL_areSums 159 = .ok (.invokevirtual 39, 3) := by decide +kernel
theorem dL_areSums_162 : decode cL_areSums 162 = .ok (.iconst 3, 1) := by decide +kernel
theorem dL_areSums_163 : decode cL_areSums 163 = .ok (.if_icmp .ge 48, 3) := by decide +kernel
theorem dL_areSums_166 : decode cL_areSums 166 = .ok (.aload_n 0, 1) := by decide +kernel
theorem dL_areSums_167 : decode cL_areSums 167 = .ok (.iload 7, 2) := by decide +kernel
theorem dL_areSums_169 : decode cL_areSums 169 = .ok (.iconst 5, 1) := by decide +kernel
theorem dL_areSums_170 : decode cL_areSums 170 = .ok (.invokevirtual 39, 3) := by decide +kernel
theorem dL_areSums_173 : decode cL_areSums 173 = .ok (.ifCond .lt 38, 3) := by decide +kernel
theorem dL_areSums_176 : decode cL_areSums 176 = .ok (.aload_n 0, 1) := by decide +kernel
theorem dL_areSums_177 : decode cL_areSums 177 = .ok (.iload 7, 2) := by decide +kernel
theorem dL_areSums_179 : decode cL_areSums 179 = .ok (.iconst 5, 1) := by decide +kernel
theorem dL_areSums_180 : decode cL_areSums 180 = .ok (.invokevirtual 39, 3) := by decide +kernel
theorem dL_areSums_183 : decode cL_areSums 183 = .ok (.bipush 100, 2) := by decide +kernel
theorem dL_areSums_185 : decode cL_areSums 185 = .ok (.if_icmp .ge 26, 3) := by decide +kernel
theorem dL_areSums_188 : decode cL_areSums 188 = .ok (.aload_n 0, 1) := by decide +kernel
theorem dL_areSums_189 : decode cL_areSums 189 = .ok (.iload 7, 2) := by decide +kernel
theorem dL_areSums_191 : decode cL_areSums 191 = .ok (.bipush 7, 2) := by decide +kernel
theorem dL_areSums_193 : decode cL_areSums 193 = .ok (.invokevirtual 39, 3) := by decide +kernel
theorem dL_areSums_196 : decode cL_areSums 196 = .ok (.aload_n 0, 1) := by decide +kernel
theorem dL_areSums_197 : decode cL_areSums 197 = .ok (.iload 7, 2) := by decide +kernel
theorem dL_areSums_199 : decode cL_areSums 199 = .ok (.bipush 6, 2) := by decide +kernel
theorem dL_areSums_201 : decode cL_areSums 201 = .ok (.invokevirtual 39, 3) := by decide +kernel
theorem dL_areSums_204 : decode cL_areSums 204 = .ok (.if_icmp .gt 7, 3) := by decide +kernel
theorem dL_areSums_207 : decode cL_areSums 207 = .ok (.iconst 1, 1) := by decide +kernel
theorem dL_areSums_208 : decode cL_areSums 208 = .ok (.goto 4, 3) := by decide +kernel
theorem dL_areSums_211 : decode cL_areSums 211 = .ok (.iconst 0, 1) := by decide +kernel
theorem dL_areSums_212 : decode cL_areSums 212 = .ok (.istore 6, 2) := by decide +kernel
theorem dL_areSums_214 : decode cL_areSums 214 = .ok (.iinc 7 1, 3) := by decide +kernel
theorem dL_areSums_217 : decode cL_areSums 217 = .ok (.goto (-199), 3) := by decide +kernel
theorem dL_areSums_220 : decode cL_areSums 220 = .ok (.iconst 0, 1) := by decide +kernel
theorem dL_areSums_221 : decode cL_areSums 221 = .ok (.istore 7, 2) := by decide +kernel
theorem dL_areSums_223 : decode cL_areSums 223 = .ok (.iconst 0, 1) := by decide +kernel
theorem dL_areSums_224 : decode cL_areSums 224 = .ok (.istore 8, 2) := by decide +kernel
theorem dL_areSums_226 : decode cL_areSums 226 = .ok (.iconst 0, 1) := by decide +kernel
theorem dL_areSums_227 : decode cL_areSums 227 = .ok (.istore 9, 2) := by decide +kernel
theorem dL_areSums_229 : decode cL_areSums 229 = .ok (.iconst 0, 1) := by decide +kernel
theorem dL_areSums_230 : decode cL_areSums 230 = .ok (.istore 10, 2) := by decide +kernel
theorem dL_areSums_232 : decode cL_areSums 232 = .ok (.iconst 0, 1) := by decide +kernel
theorem dL_areSums_233 : decode cL_areSums 233 = .ok (.istore 11, 2) := by decide +kernel
theorem dL_areSums_235 : decode cL_areSums 235 = .ok (.iload 11, 2) := by decide +kernel
theorem dL_areSums_237 : decode cL_areSums 237 = .ok (.bipush 12, 2) := by decide +kernel
theorem dL_areSums_239 : decode cL_areSums 239 = .ok (.if_icmp .ge 225, 3) := by decide +kernel
theorem dL_areSums_242 : decode cL_areSums 242 = .ok (.aload_n 0, 1) := by decide +kernel
theorem dL_areSums_243 : decode cL_areSums 243 = .ok (.iload 11, 2) := by decide +kernel
theorem dL_areSums_245 : decode cL_areSums 245 = .ok (.iconst 1, 1) := by decide +kernel
theorem dL_areSums_246 : decode cL_areSums 246 = .ok (.invokevirtual 42, 3) := by decide +kernel
theorem dL_areSums_249 : decode cL_areSums 249 = .ok (.aload_n 0, 1) := by decide +kernel
theorem dL_areSums_250 : decode cL_areSums 250 = .ok (.iload 11, 2) := by decide +kernel
theorem dL_areSums_252 : decode cL_areSums 252 = .ok (.iconst 2, 1) := by decide +kernel
theorem dL_areSums_253 : decode cL_areSums 253 = .ok (.invokevirtual 42, 3) := by decide +kernel
theorem dL_areSums_256 : decode cL_areSums 256 = .ok (.isub, 1) := by decide +kernel
theorem dL_areSums_257 : decode cL_areSums 257 = .ok (.istore 12, 2) := by decide +kernel
theorem dL_areSums_259 : decode cL_areSums 259 = .ok (.iload 7, 2) := by decide +kernel
theorem dL_areSums_261 : decode cL_areSums 261 = .ok (.aload_n 0, 1) := by decide +kernel
theorem dL_areSums_262 : decode cL_areSums 262 = .ok (.iload 11, 2) := by decide +kernel
theorem dL_areSums_264 : decode cL_areSums 264 = .ok (.iconst 5, 1) := by decide +kernel
theorem dL_areSums_265 : decode cL_areSums 265 = .ok (.invokevirtual 42, 3) := by decide +kernel
theorem dL_areSums_268 : decode cL_areSums 268 = .ok (.iadd, 1) := by decide +kernel
theorem dL_areSums_269 : decode cL_areSums 269 = .ok (.istore 7, 2) := by decide +kernel
theorem dL_areSums_271 : decode cL_areSums 271 = .ok (.iload 8, 2) := by decide +kernel
theorem dL_areSums_273 : decode cL_areSums 273 = .ok (.aload_n 0, 1) := by decide +kernel
theorem dL_areSums_274 : decode cL_areSums 274 = .ok (.iload 11, 2) := by decide +kernel
theorem dL_areSums_276 : decode cL_areSums 276 = .ok (.bipush 6, 2) := by decide +kernel
theorem dL_areSums_278 : decode cL_areSums 278 = .ok (.invokevirtual 42, 3) := by decide +kernel
theorem dL_areSums_281 : decode cL_areSums 281 = .ok (.iadd, 1) := by decide +kernel
theorem dL_areSums_282 : decode cL_areSums 282 = .ok (.istore 8, 2) := by decide +kernel
theorem dL_areSums_284 : decode cL_areSums 284 = .ok (.iload 9, 2) := by decide +kernel
theorem dL_areSums_286 : decode cL_areSums 286 = .ok (.aload_n 0, 1) := by decide +kernel
theorem dL_areSums_287 : decode cL_areSums 287 = .ok (.iload 11, 2) := by decide +kernel
theorem dL_areSums_289 : decode cL_areSums 289 = .ok (.bipush 7, 2) := by decide +kernel
theorem dL_areSums_291 : decode cL_areSums 291 = .ok (.invokevirtual 42, 3) := by decide +kernel
theorem dL_areSums_294 : decode cL_areSums 294 = .ok (.iadd, 1) := by decide +kernel
theorem dL_areSums_295 : decode cL_areSums 295 = .ok (.istore 9, 2) := by decide +kernel
theorem dL_areSums_297 : decode cL_areSums 297 = .ok (.iload 10, 2) := by decide +kernel
theorem dL_areSums_299 : decode cL_areSums 299 = .ok (.aload_n 0, 1) := by decide +kernel
theorem dL_areSums_300 : decode cL_areSums 300 = .ok (.iload 11, 2) := by decide +kernel
theorem dL_areSums_302 : decode cL_areSums 302 = .ok (.bipush 8, 2) := by decide +kernel
theorem dL_areSums_304 : decode cL_areSums 304 = .ok (.invokevirtual 42, 3) := by decide +kernel
theorem dL_areSums_307 : decode cL_areSums 307 = .ok (.iadd, 1) := by decide +kernel
theorem dL_areSums_308 : decode cL_areSums 308 = .ok (.istore 10, 2) := by decide +kernel
theorem dL_areSums_310 : decode cL_areSums 310 = .ok (.iload 6, 2) := by decide +kernel
theorem dL_areSums_312 : decode cL_areSums 312 = .ok (.ifCond .eq 143, 3) := by decide +kernel
theorem dL_areSums_315 : decode cL_areSums 315 = .ok (.aload_n 0, 1) := by decide +kernel
theorem dL_areSums_316 : decode cL_areSums 316 = .ok (.iload 11, 2) := by decide +kernel
theorem dL_areSums_318 : decode cL_areSums 318 = .ok (.iconst 2, 1) := by decide +kernel
theorem dL_areSums_319 : decode cL_areSums 319 = .ok (.invokevirtual 42, 3) := by decide +kernel
theorem dL_areSums_322 : decode cL_areSums 322 = .ok (.ifCond .lt 133, 3) := by decide +kernel
theorem dL_areSums_325 : decode cL_areSums 325 = .ok (.aload_n 0, 1) := by decide +kernel
theorem dL_areSums_326 : decode cL_areSums 326 = .ok (.iload 11, 2) := by decide +kernel
theorem dL_areSums_328 : decode cL_areSums 328 = .ok (.iconst 2, 1) := by decide +kernel
theorem dL_areSums_329 : decode cL_areSums 329 = .ok (.invokevirtual 42, 3) := by decide +kernel
theorem dL_areSums_332 : decode cL_areSums 332 = .ok (.bipush 10, 2) := by decide +kernel
theorem dL_areSums_334 : decode cL_areSums 334 = .ok (.if_icmp .ge 121, 3) := by decide +kernel
theorem dL_areSums_337 : decode cL_areSums 337 = .ok (.aload_n 0, 1) := by decide +kernel
theorem dL_areSums_338 : decode cL_areSums 338 = .ok (.iload 11, 2) := by decide +kernel
theorem dL_areSums_340 : decode cL_areSums 340 = .ok (.iconst 1, 1) := by decide +kernel
theorem dL_areSums_341 : decode cL_areSums 341 = .ok (.invokevirtual 42, 3) := by decide +kernel
theorem dL_areSums_344 : decode cL_areSums 344 = .ok (.bipush 10, 2) := by decide +kernel
theorem dL_areSums_346 : decode cL_areSums 346 = .ok (.if_icmp .ge 109, 3) := by decide +kernel
theorem dL_areSums_349 : decode cL_areSums 349 = .ok (.aload_n 0, 1) := by decide +kernel
theorem dL_areSums_350 : decode cL_areSums 350 = .ok (.iload 11, 2) := by decide +kernel
theorem dL_areSums_352 : decode cL_areSums 352 = .ok (.iconst 3, 1) := by decide +kernel
theorem dL_areSums_353 : decode cL_areSums 353 = .ok (.invokevirtual 42, 3) := by decide +kernel
theorem dL_areSums_356 : decode cL_areSums 356 = .ok (.iload 12, 2) := by decide +kernel
theorem dL_areSums_358 : decode cL_areSums 358 = .ok (.ifCond .ge 7, 3) := by decide +kernel
theorem dL_areSums_361 : decode cL_areSums 361 = .ok (.iconst 0, 1) := by decide +kernel
theorem dL_areSums_362 : decode cL_areSums 362 = .ok (.goto 5, 3) := by decide +kernel
theorem dL_areSums_365 : decode cL_areSums 365 = .ok (.iload 12, 2) := by decide +kernel
theorem dL_areSums_367 : decode cL_areSums 367 = .ok (.if_icmp .ne 88, 3) := by decide +kernel
theorem dL_areSums_370 : decode cL_areSums 370 = .ok (.aload_n 0, 1) := by decide +kernel
theorem dL_areSums_371 : decode cL_areSums 371 = .ok (.iload 11, 2) := by decide +kernel
theorem dL_areSums_373 : decode cL_areSums 373 = .ok (.iconst 4, 1) := by decide +kernel
theorem dL_areSums_374 : decode cL_areSums 374 = .ok (.invokevirtual 42, 3) := by decide +kernel
theorem dL_areSums_377 : decode cL_areSums 377 = .ok (.ifCond .lt 78, 3) := by decide +kernel
theorem dL_areSums_380 : decode cL_areSums 380 = .ok (.aload_n 0, 1) := by decide +kernel
theorem dL_areSums_381 : decode cL_areSums 381 = .ok (.iload 11, 2) := by decide +kernel
theorem dL_areSums_383 : decode cL_areSums 383 = .ok (.iconst 4, 1) := by decide +kernel
theorem dL_areSums_384 : decode cL_areSums 384 = .ok (.invokevirtual 42, 3) := by decide +kernel
theorem dL_areSums_387 : decode cL_areSums 387 = .ok (.aload_n 0, 1) := by decide +kernel
theorem dL_areSums_388 : decode cL_areSums 388 = .ok (.iload 11, 2) := by decide +kernel
theorem dL_areSums_390 : decode cL_areSums 390 = .ok (.iconst 5, 1) := by decide +kernel
theorem dL_areSums_391 : decode cL_areSums 391 = .ok (.invokevirtual 42, 3) := by decide +kernel
theorem dL_areSums_394 : decode cL_areSums 394 = .ok (.if_icmp .gt 61, 3) := by decide +kernel
theorem dL_areSums_397 : decode cL_areSums 397 = .ok (.aload_n 0, 1) := by decide +kernel
theorem dL_areSums_398 : decode cL_areSums 398 = .ok (.iload 11, 2) := by decide +kernel
theorem dL_areSums_400 : decode cL_areSums 400 = .ok (.bipush 6, 2) := by decide +kernel
theorem dL_areSums_402 : decode cL_areSums 402 = .ok (.invokevirtual 42, 3) := by decide +kernel
theorem dL_areSums_405 : decode cL_areSums 405 = .ok (.aload_n 0, 1) := by decide +kernel
theorem dL_areSums_406 : decode cL_areSums 406 = .ok (.iload 11, 2) := by decide +kernel
theorem dL_areSums_408 : decode cL_areSums 408 = .ok (.iconst 5, 1) := by decide +kernel
theorem dL_areSums_409 : decode cL_areSums 409 = .ok (.invokevirtual 42, 3) := by decide +kernel
theorem dL_areSums_412 : decode cL_areSums 412 = .ok (.if_icmp .gt 43, 3) := by decide +kernel
theorem dL_areSums_415 : decode cL_areSums 415 = .ok (.aload_n 0, 1) := by decide +kernel
theorem dL_areSums_416 : decode cL_areSums 416 = .ok (.iload 11, 2) := by decide +kernel
theorem dL_areSums_418 : decode cL_areSums 418 = .ok (.bipush 9, 2) := by decide +kernel
theorem dL_areSums_420 : decode cL_areSums 420 = .ok (.invokevirtual 42, 3) := by decide +kernel
theorem dL_areSums_423 : decode cL_areSums 423 = .ok (.bipush (-5), 2) := by decide +kernel
theorem dL_areSums_425 : decode cL_areSums 425 = .ok (.if_icmp .ne 7, 3) := by decide +kernel
theorem dL_areSums_428 : decode cL_areSums 428 = .ok (.iconst 1, 1) := by decide +kernel
theorem dL_areSums_429 : decode cL_areSums 429 = .ok (.goto 4, 3) := by decide +kernel
theorem dL_areSums_432 : decode cL_areSums 432 = .ok (.iconst 0, 1) := by decide +kernel
theorem dL_areSums_433 : decode cL_areSums 433 = .ok (.aload_n 0, 1) := by decide +kernel
theorem dL_areSums_434 : decode cL_areSums 434 = .ok (.iload 11, 2) := by decide +kernel
theorem dL_areSums_436 : decode cL_areSums 436 = .ok (.iconst 5, 1) := by decide +kernel
theorem dL_areSums_437 : decode cL_areSums 437 = .ok (.invokevirtual 42, 3) := by decide +kernel
theorem dL_areSums_440 : decode cL_areSums 440 = .ok (.ifCond .ne 7, 3) := by decide +kernel
theorem dL_areSums_443 : decode cL_areSums 443 = .ok (.iconst 1, 1) := by decide +kernel
theorem dL_areSums_444 : decode cL_areSums 444 = .ok (.goto 4, 3) := by decide +kernel
theorem dL_areSums_447 : decode cL_areSums 447 = .ok (.iconst 0, 1) := by decide +kernel
theorem dL_areSums_448 : decode cL_areSums 448 = .ok (.if_icmp .ne 7, 3) := by decide +kernel
theorem dL_areSums_451 : decode cL_areSums 451 = .ok (.iconst 1, 1) := by decide +kernel
theorem dL_areSums_452 : decode cL_areSums 452 = .ok (.goto 4, 3) := by decide +kernel
theorem dL_areSums_455 : decode cL_areSums 455 = .ok (.iconst 0, 1) := by decide +kernel
theorem dL_areSums_456 : decode cL_areSums 456 = .ok (.istore 6, 2) := by decide +kernel
theorem dL_areSums_458 : decode cL_areSums 458 = .ok (.iinc 11 1, 3) := by decide +kernel
theorem dL_areSums_461 : decode cL_areSums 461 = .ok (.goto (-226), 3) := by decide +kernel
theorem dL_areSums_464 : decode cL_areSums 464 = .ok (.iload 6, 2) := by decide +kernel
theorem dL_areSums_466 : decode cL_areSums 466 = .ok (.ifCond .eq 99, 3) := by decide +kernel
theorem dL_areSums_469 : decode cL_areSums 469 = .ok (.iload_n 1, 1) := by decide +kernel
theorem dL_areSums_470 : decode cL_areSums 470 = .ok (.iload 7, 2) := by decide +kernel
theorem dL_areSums_472 : decode cL_areSums 472 = .ok (.if_icmp .ne 93, 3) := by decide +kernel
theorem dL_areSums_475 : decode cL_areSums 475 = .ok (.iload 7, 2) := by decide +kernel
theorem dL_areSums_477 : decode cL_areSums 477 = .ok (.aload_n 0, 1) := by decide +kernel
theorem dL_areSums_478 : decode cL_areSums 478 = .ok (.iconst 4, 1) := by decide +kernel
theorem dL_areSums_479 : decode cL_areSums 479 = .ok (.invokevirtual 36, 3) := by decide +kernel
theorem dL_areSums_482 : decode cL_areSums 482 = .ok (.if_icmp .ne 83, 3) := by decide +kernel
theorem dL_areSums_485 : decode cL_areSums 485 = .ok (.iload_n 2, 1) := by decide +kernel
theorem dL_areSums_486 : decode cL_areSums 486 = .ok (.iload 8, 2) := by decide +kernel
theorem dL_areSums_488 : decode cL_areSums 488 = .ok (.if_icmp .ne 77, 3) := by decide +kernel
theorem dL_areSums_491 : decode cL_areSums 491 = .ok (.iload 8, 2) := by decide +kernel
theorem dL_areSums_493 : decode cL_areSums 493 = .ok (.aload_n 0, 1) := by decide +kernel
theorem dL_areSums_494 : decode cL_areSums 494 = .ok (.iconst 5, 1) := by decide +kernel
theorem dL_areSums_495 : decode cL_areSums 495 = .ok (.invokevirtual 36, 3) := by decide +kernel
theorem dL_areSums_498 : decode cL_areSums 498 = .ok (.if_icmp .ne 67, 3) := by decide +kernel
theorem dL_areSums_501 : decode cL_areSums 501 = .ok (.iload 9, 2) := by decide +kernel
theorem dL_areSums_503 : decode cL_areSums 503 = .ok (.aload_n 0, 1) := by decide +kernel
theorem dL_areSums_504 : decode cL_areSums 504 = .ok (.bipush 6, 2) := by decide +kernel
theorem dL_areSums_506 : decode cL_areSums 506 = .ok (.invokevirtual 36, 3) := by decide +kernel
theorem dL_areSums_509 : decode cL_areSums 509 = .ok (.if_icmp .ne 56, 3) := by decide +kernel
theorem dL_areSums_512 : decode cL_areSums 512 = .ok (.iload 10, 2) := by decide +kernel
theorem dL_areSums_514 : decode cL_areSums 514 = .ok (.aload_n 0, 1) := by decide +kernel
theorem dL_areSums_515 : decode cL_areSums 515 = .ok (.iconst 3, 1) := by decide +kernel
theorem dL_areSums_516 : decode cL_areSums 516 = .ok (.invokevirtual 36, 3) := by decide +kernel
theorem dL_areSums_519 : decode cL_areSums 519 = .ok (.if_icmp .ne 46, 3) := by decide +kernel
theorem dL_areSums_522 : decode cL_areSums 522 = .ok (.iload 10, 2) := by decide +kernel
theorem dL_areSums_524 : decode cL_areSums 524 = .ok (.bipush 40, 2) := by decide +kernel
theorem dL_areSums_526 : decode cL_areSums 526 = .ok (.if_icmp .gt 39, 3) := by decide +kernel
theorem dL_areSums_529 : decode cL_areSums 529 = .ok (.iload_n 3, 1) := by decide +kernel
theorem dL_areSums_530 : decode cL_areSums 530 = .ok (.aload_n 0, 1) := by decide +kernel
theorem dL_areSums_531 : decode cL_areSums 531 = .ok (.bipush 8, 2) := by decide +kernel
theorem dL_areSums_533 : decode cL_areSums 533 = .ok (.invokevirtual 36, 3) := by decide +kernel
theorem dL_areSums_536 : decode cL_areSums 536 = .ok (.if_icmp .ne 29, 3) := by decide +kernel
theorem dL_areSums_539 : decode cL_areSums 539 = .ok (.iload 4, 2) := by decide +kernel
theorem dL_areSums_541 : decode cL_areSums 541 = .ok (.aload_n 0, 1) := by decide +kernel
theorem dL_areSums_542 : decode cL_areSums 542 = .ok (.bipush 9, 2) := by decide +kernel
theorem dL_areSums_544 : decode cL_areSums 544 = .ok (.invokevirtual 36, 3) := by decide +kernel
theorem dL_areSums_547 : decode cL_areSums 547 = .ok (.if_icmp .ne 18, 3) := by decide +kernel
theorem dL_areSums_550 : decode cL_areSums 550 = .ok (.iload 5, 2) := by decide +kernel
theorem dL_areSums_552 : decode cL_areSums 552 = .ok (.aload_n 0, 1) := by decide +kernel
theorem dL_areSums_553 : decode cL_areSums 553 = .ok (.bipush 7, 2) := by decide +kernel
theorem dL_areSums_555 : decode cL_areSums 555 = .ok (.invokevirtual 36, 3) := by decide +kernel
theorem dL_areSums_558 : decode cL_areSums 558 = .ok (.if_icmp .ne 7, 3) := by decide +kernel
theorem dL_areSums_561 : decode cL_areSums 561 = .ok (.iconst 1, 1) := by decide +kernel
theorem dL_areSums_562 : decode cL_areSums 562 = .ok (.goto 4, 3) := by decide +kernel
theorem dL_areSums_565 : decode cL_areSums 565 = .ok (.iconst 0, 1) := by decide +kernel
theorem dL_areSums_566 : decode cL_areSums 566 = .ok (.istore 6, 2) := by decide +kernel
theorem dL_areSums_568 : decode cL_areSums 568 = .ok (.iload 6, 2) := by decide +kernel
theorem dL_areSums_570 : decode cL_areSums 570 = .ok (.ifCond .eq 112, 3) := by decide +kernel
theorem dL_areSums_573 : decode cL_areSums 573 = .ok (.aload_n 0, 1) := by decide +kernel
theorem dL_areSums_574 : decode cL_areSums 574 = .ok (.iconst 1, 1) := by decide +kernel
theorem dL_areSums_575 : decode cL_areSums 575 = .ok (.invokevirtual 36, 3) := by decide +kernel
theorem dL_areSums_578 : decode cL_areSums 578 = .ok (.aload_n 0, 1) := by decide +kernel
theorem dL_areSums_579 : decode cL_areSums 579 = .ok (.iconst 0, 1) := by decide +kernel
theorem dL_areSums_580 : decode cL_areSums 580 = .ok (.invokevirtual 36, 3) := by decide +kernel
theorem dL_areSums_583 : decode cL_areSums 583 = .ok (.bipush 10, 2) := by decide +kernel
theorem dL_areSums_585 : decode cL_areSums 585 = .ok (.idiv, 1) := by decide +kernel
theorem dL_areSums_586 : decode cL_areSums 586 = .ok (.if_icmp .ne 96, 3) := by decide +kernel
theorem dL_areSums_589 : decode cL_areSums 589 = .ok (.aload_n 0, 1) := by decide +kernel
theorem dL_areSums_590 : decode cL_areSums 590 = .ok (.iconst 2, 1) := by decide +kernel
theorem dL_areSums_591 : decode cL_areSums 591 = .ok (.invokevirtual 36, 3) := by decide +kernel
theorem dL_areSums_594 : decode cL_areSums 594 = .ok (.aload_n 0, 1) := by decide +kernel
theorem dL_areSums_595 : decode cL_areSums 595 = .ok (.iconst 0, 1) := by decide +kernel
theorem dL_areSums_596 : decode cL_areSums 596 = .ok (.invokevirtual 36, 3) := by decide +kernel
theorem dL_areSums_599 : decode cL_areSums 599 = .ok (.bipush 10, 2) := by decide +kernel
theorem dL_areSums_601 : decode cL_areSums 601 = .ok (.irem, 1) := by decide +kernel
theorem dL_areSums_602 : decode cL_areSums 602 = .ok (.if_icmp .ne 80, 3) := by decide +kernel
theorem dL_areSums_605 : decode cL_areSums 605 = .ok (.aload_n 0, 1) := by decide +kernel
theorem dL_areSums_606 : decode cL_areSums 606 = .ok (.bipush 10, 2) := by decide +kernel
theorem dL_areSums_608 : decode cL_areSums 608 = .ok (.invokevirtual 36, 3) := by decide +kernel
theorem dL_areSums_611 : decode cL_areSums 611 = .ok (.iconst 1, 1) := by decide +kernel
theorem dL_areSums_612 : decode cL_areSums 612 = .ok (.if_icmp .ne 7, 3) := by decide +kernel
theorem dL_areSums_615 : decode cL_areSums 615 = .ok (.iconst 1, 1) := by decide +kernel
theorem dL_areSums_616 : decode cL_areSums 616 = .ok (.goto 4, 3) := by decide +kernel
theorem dL_areSums_619 : decode cL_areSums 619 = .ok (.iconst 0, 1) := by decide +kernel
theorem dL_areSums_620 : decode cL_areSums 620 = .ok (.aload_n 0, 1) := by decide +kernel
theorem dL_areSums_621 : decode cL_areSums 621 = .ok (.iconst 1, 1) := by decide +kernel
theorem dL_areSums_622 : decode cL_areSums 622 = .ok (.invokevirtual 36, 3) := by decide +kernel
theorem dL_areSums_625 : decode cL_areSums 625 = .ok (.aload_n 0, 1) := by decide +kernel
theorem dL_areSums_626 : decode cL_areSums 626 = .ok (.bipush 16, 2) := by decide +kernel
theorem dL_areSums_628 : decode cL_areSums 628 = .ok (.invokevirtual 36, 3) := by decide +kernel
theorem dL_areSums_631 : decode cL_areSums 631 = .ok (.irem, 1) := by decide +kernel
theorem dL_areSums_632 : decode cL_areSums 632 = .ok (.ifCond .ne 7, 3) := by decide +kernel
theorem dL_areSums_635 : decode cL_areSums 635 = .ok (.iconst 1, 1) := by decide +kernel
theorem dL_areSums_636 : decode cL_areSums 636 = .ok (.goto 4, 3) := by decide +kernel
theorem dL_areSums_639 : decode cL_areSums 639 = .ok (.iconst 0, 1) := by decide +kernel
theorem dL_areSums_640 : decode cL_areSums 640 = .ok (.if_icmp .ne 42, 3) := by decide +kernel
theorem dL_areSums_643 : decode cL_areSums 643 = .ok (.aload_n 0, 1) := by decide +kernel
theorem dL_areSums_644 : decode cL_areSums 644 = .ok (.bipush 11, 2) := by decide +kernel
theorem dL_areSums_646 : decode cL_areSums 646 = .ok (.invokevirtual 36, 3) := by decide +kernel
theorem dL_areSums_649 : decode cL_areSums 649 = .ok (.bipush (-5), 2) := by decide +kernel
theorem dL_areSums_651 : decode cL_areSums 651 = .ok (.if_icmp .eq 27, 3) := by decide +kernel
theorem dL_areSums_654 : decode cL_areSums 654 = .ok (.aload_n 0, 1) := by decide +kernel
theorem dL_areSums_655 : decode cL_areSums 655 = .ok (.bipush 10, 2) := by decide +kernel
theorem dL_areSums_657 : decode cL_areSums 657 = .ok (.invokevirtual 36, 3) := by decide +kernel
theorem dL_areSums_660 : decode cL_areSums 660 = .ok (.iconst 1, 1) := by decide +kernel
theorem dL_areSums_661 : decode cL_areSums 661 = .ok (.if_icmp .ne 21, 3) := by decide +kernel
theorem dL_areSums_664 : decode cL_areSums 664 = .ok (.aload_n 0, 1) := by decide +kernel
theorem dL_areSums_665 : decode cL_areSums 665 = .ok (.aload_n 0, 1) := by decide +kernel
theorem dL_areSums_666 : decode cL_areSums 666 = .ok (.bipush 11, 2) := by decide +kernel
theorem dL_areSums_668 : decode cL_areSums 668 = .ok (.invokevirtual 36, 3) := by decide +kernel
theorem dL_areSums_671 : decode cL_areSums 671 = .ok (.iconst 3, 1) := by decide +kernel
theorem dL_areSums_672 : decode cL_areSums 672 = .ok (.invokevirtual 39, 3) := by decide +kernel
theorem dL_areSums_675 : decode cL_areSums 675 = .ok (.ifCond .le 7, 3) := by decide +kernel
theorem dL_areSums_678 : decode cL_areSums 678 = .ok (.iconst 1, 1) := by decide +kernel
theorem dL_areSums_679 : decode cL_areSums 679 = .ok (.goto 4, 3) := by decide +kernel
theorem dL_areSums_682 : decode cL_areSums 682 = .ok (.iconst 0, 1) := by decide +kernel
theorem dL_areSums_683 : decode cL_areSums 683 = .ok (.ireturn, 1) := by decide +kernel
theorem dL_areLessonsSo_0 : decode cL_areLessonsSo 0 = .ok (.iconst 0, 1) := by decide +kernel
theorem dL_areLessonsSo_1 : decode cL_areLessonsSo 1 = .ok (.istore_n 1, 1) := by decide +kernel
theorem dL_areLessonsSo_2 : decode cL_areLessonsSo 2 = .ok (.iconst 0, 1) := by decide +kernel
theorem dL_areLessonsSo_3 : decode cL_areLessonsSo 3 = .ok (.istore_n 2, 1) := by decide +kernel
theorem dL_areLessonsSo_4 : decode cL_areLessonsSo 4 = .ok (.bipush (-5), 2) := by decide +kernel
theorem dL_areLessonsSo_6 : decode cL_areLessonsSo 6 = .ok (.istore_n 3, 1) := by decide +kernel
theorem dL_areLessonsSo_7 : decode cL_areLessonsSo 7 = .ok (.iconst 1, 1) := by decide +kernel
theorem dL_areLessonsSo_8 : decode cL_areLessonsSo 8 = .ok (.istore 4, 2) := by decide +kernel
theorem dL_areLessonsSo_10 : decode cL_areLessonsSo 10 = .ok (.iconst 0, 1) := by decide +kernel
theorem dL_areLessonsSo_11 : decode cL_areLessonsSo 11 = .ok (.istore 5, 2) := by decide +kernel
theorem dL_areLessonsSo_13 : decode cL_areLessonsSo 13 = .ok (.iload 5, 2) := by decide +kernel
theorem dL_areLessonsSo_15 : decode cL_areLessonsSo 15 = .ok (.bipush 100, 2) := by decide +kernel
theorem dL_areLessonsSo_17 : decode cL_areLessonsSo 17 = .ok (.if_icmp .ge 178, 3) := by decide +kernel
theorem dL_areLessonsSo_20 : decode cL_areLessonsSo 20 = .ok (.iconst 0, 1) := by decide +kernel
theorem dL_areLessonsSo_21 : decode cL_areLessonsSo 21 = .ok (.istore 6, 2) := by decide +kernel
theorem dL_areLessonsSo_23 : decode cL_areLessonsSo 23 = .ok (.iconst 0, 1) := by decide +kernel
theorem dL_areLessonsSo_24 : decode cL_areLessonsSo 24 = .ok (.istore 7, 2) := by decide +kernel
theorem dL_areLessonsSo_26 : decode cL_areLessonsSo 26 = .ok (.iconst 0, 1) := by decide +kernel
theorem dL_areLessonsSo_27 : decode cL_areLessonsSo 27 = .ok (.istore 8, 2) := by decide +kernel
theorem dL_areLessonsSo_29 : decode cL_areLessonsSo 29 = .ok (.iload 8, 2) := by decide +kernel
theorem dL_areLessonsSo_31 : decode cL_areLessonsSo 31 = .ok (.iconst 3, 1) := by decide +kernel
theorem dL_areLessonsSo_32 : decode cL_areLessonsSo 32 = .ok (.if_icmp .ge 126, 3) := by decide +kernel
theorem dL_areLessonsSo_35 : decode cL_areLessonsSo 35 = .ok (.aload_n 0, 1) := by decide +kernel
theorem dL_areLessonsSo_36 : decode cL_areLessonsSo 36 = .ok (.iload 5, 2) := by decide +kernel
theorem dL_areLessonsSo_38 : decode cL_areLessonsSo 38 = .ok (.iload 8, 2) := by decide +kernel
theorem dL_areLessonsSo_40 : decode cL_areLessonsSo 40 = .ok (.iconst 2, 1) := by decide +kernel
theorem dL_areLessonsSo_41 : decode cL_areLessonsSo 41 = .ok (.invokevirtual 48, 3) := by decide +kernel
theorem dL_areLessonsSo_44 : decode cL_areLessonsSo 44 = .ok (.istore 9, 2) := by decide +kernel
theorem dL_areLessonsSo_46 : decode cL_areLessonsSo 46 = .ok (.iconst 0, 1) := by decide +kernel
theorem dL_areLessonsSo_47 : decode cL_areLessonsSo 47 = .ok (.istore 10, 2) := by decide +kernel
theorem dL_areLessonsSo_49 : decode cL_areLessonsSo 49 = .ok (.iconst 0, 1) := by decide +kernel
theorem dL_areLessonsSo_50 : decode cL_areLessonsSo 50 = .ok (.istore 11, 2) := by decide +kernel
theorem dL_areLessonsSo_52 : decode cL_areLessonsSo 52 = .ok (.iload 11, 2) := by decide +kernel
theorem dL_areLessonsSo_54 : decode cL_areLessonsSo 54 = .ok (.bipush 12, 2) := by decide +kernel
theorem dL_areLessonsSo_56 : decode cL_areLessonsSo 56 = .ok (.if_icmp .ge 21, 3) := by decide +kernel
theorem dL_areLessonsSo_59 : decode cL_areLessonsSo 59 = .ok (.iload 10, 2) := by decide +kernel
theorem dL_areLessonsSo_61 : decode cL_areLessonsSo 61 = .ok (.iload 9, 2) := by decide +kernel
theorem dL_areLessonsSo_63 : decode cL_areLessonsSo 63 = .ok (.iload 11, 2) := by decide +kernel
theorem dL_areLessonsSo_65 : decode cL_areLessonsSo 65 = .ok (.ishr, 1) := by decide +kernel
theorem dL_areLessonsSo_66 : decode cL_areLessonsSo 66 = .ok (.iconst 1, 1) := by decide +kernel
theorem dL_areLessonsSo_67 : decode cL_areLessonsSo 67 = .ok (.iand, 1) := by decide +kernel
theorem dL_areLessonsSo_68 : decode cL_areLessonsSo 68 = .ok (.iadd, 1) := by decide +kernel
theorem dL_areLessonsSo_69 : decode cL_areLessonsSo 69 = .ok (.istore 10, 2) := by decide +kernel
theorem dL_areLessonsSo_71 : decode cL_areLessonsSo 71 = .ok (.iinc 11 1, 3) := by decide +kernel
theorem dL_areLessonsSo_74 : decode cL_areLessonsSo 74 = .ok (.goto (-22), 3) := by decide +kernel
theorem dL_areLessonsSo_77 : decode cL_areLessonsSo 77 = .ok (.iload 4, 2) := by decide +kernel
theorem dL_areLessonsSo_79 : decode cL_areLessonsSo 79 = .ok (.ifCond .eq 56, 3) := by decide +kernel
theorem dL_areLessonsSo_82 : decode cL_areLessonsSo 82 = .ok (.iload 6, 2) := by decide +kernel
theorem dL_areLessonsSo_84 : decode cL_areLessonsSo 84 = .ok (.iload 9, 2) := by decide +kernel
theorem dL_areLessonsSo_86 : decode cL_areLessonsSo 86 = .ok (.iand, 1) := by decide +kernel
theorem dL_areLessonsSo_87 : decode cL_areLessonsSo 87 = .ok (.ifCond .ne 48, 3) := by decide +kernel
theorem dL_areLessonsSo_90 : decode cL_areLessonsSo 90 = .ok (.iload 10, 2) := by decide +kernel
theorem dL_areLessonsSo_92 : decode cL_areLessonsSo 92 = .ok (.aload_n 0, 1) := by decide +kernel
theorem dL_areLessonsSo_93 : decode cL_areLessonsSo 93 = .ok (.iload 5, 2) := by decide +kernel
theorem dL_areLessonsSo_95 : decode cL_areLessonsSo 95 = .ok (.iload 8, 2) := by decide +kernel
theorem dL_areLessonsSo_97 : decode cL_areLessonsSo 97 = .ok (.iconst 0, 1) := by decide +kernel
theorem dL_areLessonsSo_98 : decode cL_areLessonsSo 98 = .ok (.invokevirtual 48, 3) := by decide +kernel
theorem dL_areLessonsSo_101 : decode cL_areLessonsSo 101 = .ok (.if_icmp .ne 34, 3) := by decide +kernel
theorem dL_areLessonsSo_104 : decode cL_areLessonsSo 104 = .ok (.iload 10, 2) := by decide +kernel
theorem dL_areLessonsSo_106 : decode cL_areLessonsSo 106 = .ok (.aload_n 0, 1) := by decide +kernel
theorem dL_areLessonsSo_107 : decode cL_areLessonsSo 107 = .ok (.iload 5, 2) := by decide +kernel
theorem dL_areLessonsSo_109 : decode cL_areLessonsSo 109 = .ok (.iload 8, 2) := by decide +kernel
theorem dL_areLessonsSo_111 : decode cL_areLessonsSo 111 = .ok (.iconst 1, 1) := by decide +kernel
theorem dL_areLessonsSo_112 : decode cL_areLessonsSo 112 = .ok (.invokevirtual 48, 3) := by decide +kernel
theorem dL_areLessonsSo_115 : decode cL_areLessonsSo 115 = .ok (.iadd, 1) := by decide +kernel
theorem dL_areLessonsSo_116 : decode cL_areLessonsSo 116 = .ok (.iconst 4, 1) := by decide +kernel
theorem dL_areLessonsSo_117 : decode cL_areLessonsSo 117 = .ok (.iload 8, 2) := by decide +kernel
theorem dL_areLessonsSo_119 : decode cL_areLessonsSo 119 = .ok (.isub, 1) := by decide +kernel
theorem dL_areLessonsSo_120 : decode cL_areLessonsSo 120 = .ok (.if_icmp .ne 15, 3) := by decide +kernel
theorem dL_areLessonsSo_123 : decode cL_areLessonsSo 123 = .ok (.iload 9, 2) := by decide +kernel
theorem dL_areLessonsSo_125 : decode cL_areLessonsSo 125 = .ok (.sipush 4096, 3) := by decide +kernel
theorem dL_areLessonsSo_128 : decode cL_areLessonsSo 128 = .ok (.if_icmp .ge 7, 3) := by decide +kernel
theorem dL_areLessonsSo_131 : decode cL_areLessonsSo 131 = .ok (.iconst 1, 1) := by decide +kernel
theorem dL_areLessonsSo_132 : decode cL_areLessonsSo 132 = .ok (.goto 4, 3) := by decide +kernel
theorem dL_areLessonsSo_135 : decode cL_areLessonsSo 135 = .ok (.iconst 0, 1) := by decide +kernel
theorem dL_areLessonsSo_136 : decode cL_areLessonsSo 136 = .ok (.istore 4, 2) := by decide +kernel
theorem dL_areLessonsSo_138 : decode cL_areLessonsSo 138 = .ok (.iload 6, 2) := by decide +kernel
theorem dL_areLessonsSo_140 : decode cL_areLessonsSo 140 = .ok (.iload 9, 2) := by decide +kernel
theorem dL_areLessonsSo_142 : decode cL_areLessonsSo 142 = .ok (.ior, 1) := by decide +kernel
theorem dL_areLessonsSo_143 : decode cL_areLessonsSo 143 = .ok (.istore 6, 2) := by decide +kernel
theorem dL_areLessonsSo_145 : decode cL_areLessonsSo 145 = .ok (.iload 7, 2) := by decide +kernel
theorem dL_areLessonsSo_147 : decode cL_areLessonsSo 147 = .ok (.iload 10, 2) := by decide +kernel
theorem dL_areLessonsSo_149 : decode cL_areLessonsSo 149 = .ok (.iadd, 1) := by decide +kernel
theorem dL_areLessonsSo_150 : decode cL_areLessonsSo 150 = .ok (.istore 7, 2) := by decide +kernel
theorem dL_areLessonsSo_152 : decode cL_areLessonsSo 152 = .ok (.iinc 8 1, 3) := by decide +kernel
theorem dL_areLessonsSo_155 : decode cL_areLessonsSo 155 = .ok (.goto (-126), 3) := by decide +kernel
theorem dL_areLessonsSo_158 : decode cL_areLessonsSo 158 = .ok (.iload_n 1, 1) := by decide +kernel
theorem dL_areLessonsSo_159 : decode cL_areLessonsSo 159 = .ok (.iload 7, 2) := by decide +kernel
theorem dL_areLessonsSo_161 : decode cL_areLessonsSo 161 = .ok (.iadd, 1) := by decide +kernel
theorem dL_areLessonsSo_162 : decode cL_areLessonsSo 162 = .ok (.istore_n 1, 1) := by decide +kernel
theorem dL_areLessonsSo_163 : decode cL_areLessonsSo 163 = .ok (.iload 7, 2) := by decide +kernel
theorem dL_areLessonsSo_165 : decode cL_areLessonsSo 165 = .ok (.iload_n 2, 1) := by decide +kernel
theorem dL_areLessonsSo_166 : decode cL_areLessonsSo 166 = .ok (.if_icmp .le 8, 3) := by decide +kernel
theorem dL_areLessonsSo_169 : decode cL_areLessonsSo 169 = .ok (.iload 5, 2) := by decide +kernel
theorem dL_areLessonsSo_171 : decode cL_areLessonsSo 171 = .ok (.goto 4, 3) := by decide +kernel
theorem dL_areLessonsSo_174 : decode cL_areLessonsSo 174 = .ok (.iload_n 3, 1) := by decide +kernel
theorem dL_areLessonsSo_175 : decode cL_areLessonsSo 175 = .ok (.istore_n 3, 1) := by decide +kernel
theorem dL_areLessonsSo_176 : decode cL_areLessonsSo 176 = .ok (.iload 7, 2) := by decide +kernel
theorem dL_areLessonsSo_178 : decode cL_areLessonsSo 178 = .ok (.iload_n 2, 1) := by decide +kernel
theorem dL_areLessonsSo_179 : decode cL_areLessonsSo 179 = .ok (.if_icmp .le 8, 3) := by decide +kernel
theorem dL_areLessonsSo_182 : decode cL_areLessonsSo 182 = .ok (.iload 7, 2) := by decide +kernel
theorem dL_areLessonsSo_184 : decode cL_areLessonsSo 184 = .ok (.goto 4, 3) := by decide +kernel
theorem dL_areLessonsSo_187 : decode cL_areLessonsSo 187 = .ok (.iload_n 2, 1) := by decide +kernel
theorem dL_areLessonsSo_188 : decode cL_areLessonsSo 188 = .ok (.istore_n 2, 1) := by decide +kernel
theorem dL_areLessonsSo_189 : decode cL_areLessonsSo 189 = .ok (.iinc 5 1, 3) := by decide +kernel
theorem dL_areLessonsSo_192 : decode cL_areLessonsSo 192 = .ok (.goto (-179), 3) := by decide +kernel
theorem dL_areLessonsSo_195 : decode cL_areLessonsSo 195 = .ok (.iload 4, 2) := by decide +kernel
theorem dL_areLessonsSo_197 : decode cL_areLessonsSo 197 = .ok (.ifCond .eq 24, 3) := by decide +kernel
theorem dL_areLessonsSo_200 : decode cL_areLessonsSo 200 = .ok (.iload_n 1, 1) := by decide +kernel
theorem dL_areLessonsSo_201 : decode cL_areLessonsSo 201 = .ok (.aload_n 0, 1) := by decide +kernel
